/-! turns and terms: each call, further -/
section
variable {c x nt : Nat} {n k : Int} {T Lf T1 Lf1 : Int → Nat} {dom sd : Nat → Prop} {rt ct : Nat → Int} {dp : Nat → Nat} {kd : Int → Nat} {h h1 h2 g : cx_Q} {E1 : Nat → Option Int} {pe : Int → Nat} {ro : Int → Int → Nat} {pa lb tp rd en op ob : Nat}
/-- a call that left SESSIONS, letters and draws -/
theorem AH.q2 (Q : AH c x nt n k pe ro pa lb tp rd en op ob T Lf dom sd rt ct dp kd h h1) (D : AC c x n pe E1 h h1 h2) (he : ∀ d, cq_s h d = 7 ∨ cq_s h d = 174 ∨ cq_s h d = 1 → E1 d = none) (F1 : FX c x n pe ro pa lb tp rd en op ob T1 Lf1 h1 g) (f : Fq0 T Lf T1 Lf1 h1) (e3 : eT x g h2) (r0 : Rq0 x h1 h2) (q72 : cq_I g x 72 = cq_I h1 x 72) (qI : ∀ o j, 1 ≤ o → o ≤ 60 → o ≠ 30 → cq_I g (x + o) j = cq_I h1 (x + o) j) (q30 : ∀ j, cq_I g (x + 30) j = cq_I h1 (x + 30) j ∨ cq_I g (x + 30) j = 0) (qJ : ∀ o j, 1 ≤ o → o ≠ 20 → cq_J g (x + o) j = cq_J h1 (x + o) j) : TE c x nt n k T1 Lf1 h1 h2 := by
  obtain ⟨f1, f2⟩ := f
  rw [f1, f2] at F1 ⊢
  exact Q.q0 D he F1 e3 r0 q72 (fun o j w => qI o j (by omega) (by omega) (by omega)) (RS.q (fun j => qJ 1 j (by decide) (by decide)) (fun j => qI 11 j (by decide) (by decide) (by decide)) (fun j => qI 12 j (by decide) (by decide) (by decide)) (fun j => qI 23 j (by decide) (by decide) (by decide)) (fun j => qI 27 j (by decide) (by decide) (by decide))) q30 (fun o j w => qJ o j (by omega) (by omega))
theorem AH.frg (Q : AH c x nt n k pe ro pa lb tp rd en op ob T Lf dom sd rt ct dp kd h h1) (D : AC c x n pe E1 h h1 h2) (he : ∀ d, cq_s h d = 7 ∨ cq_s h d = 174 ∨ cq_s h d = 1 → E1 d = none) {u : Int} {a : Int64} (F1 : FX c x n pe ro pa lb tp rd en op ob T1 Lf1 h1 (qFrg h1 x n u a)) (f : Fq0 T Lf T1 Lf1 h1) (e3 : eT x (qFrg h1 x n u a) h2) (r0 : Rq0 x h1 h2) : TE c x nt n k T1 Lf1 h1 h2 := by
  unfold qFrg at F1 e3
  split at F1
  · rename_i z
    rw [if_pos z] at e3
    exact Q.q2 D he F1 f e3 r0 (by rw [mm_IJ]) (fun o j _ _ _ => by rw [mm_IJ]) (fun j => Or.inl (by rw [mm_IJ])) (fun o j _ w => by rw [mm_sJ, if_neg (by omega)])
  · rename_i z
    rw [if_neg z] at e3
    exact Q.q2 D he F1 f e3 r0 rfl (fun _ _ _ _ _ => rfl) (fun _ => Or.inl rfl) (fun _ _ _ _ => rfl)
theorem AH.for_ (Q : AH c x nt n k pe ro pa lb tp rd en op ob T Lf dom sd rt ct dp kd h h1) (D : AC c x n pe E1 h h1 h2) (he : ∀ d, cq_s h d = 7 ∨ cq_s h d = 174 ∨ cq_s h d = 1 → E1 d = none) {u v : Int} (F1 : FX c x n pe ro pa lb tp rd en op ob T1 Lf1 h1 (qFor h1 x n u v)) (f : Fq0 T Lf T1 Lf1 h1) (e3 : eT x (qFor h1 x n u v) h2) (r0 : Rq0 x h1 h2) : TE c x nt n k T1 Lf1 h1 h2 := by
  unfold qFor at F1 e3
  split at F1
  · rename_i z
    rw [if_pos z] at e3
    exact Q.q2 D he F1 f e3 r0 (by rw [mm_sI, if_neg (by omega)]) (fun o j _ _ w => by rw [mm_sI, if_neg (by omega)]) (fun j => by
      by_cases y : j = 6 * u + v
      · rw [mm_sI, if_pos ⟨rfl, y⟩]
        exact Or.inr rfl
      · rw [mm_sI, if_neg (fun q => y q.2)]
        exact Or.inl rfl) (fun o j _ w => by rw [mm_JI])
  · rename_i z
    rw [if_neg z] at e3
    exact Q.q2 D he F1 f e3 r0 rfl (fun _ _ _ _ _ => rfl) (fun _ => Or.inl rfl) (fun _ _ _ _ => rfl)
theorem AH.end_ (Q : AH c x nt n k pe ro pa lb tp rd en op ob T Lf dom sd rt ct dp kd h h1) (D : AC c x n pe E1 h h1 h2) (he : ∀ d, cq_s h d = 7 ∨ cq_s h d = 174 ∨ cq_s h d = 1 → E1 d = none) {m : Int} (F1 : FX c x n pe ro pa lb tp rd en op ob T1 Lf1 h1 (qEnd h1 x m)) (f : Fq0 T Lf T1 Lf1 h1) (e3 : eT x (qEnd h1 x m) h2) (r0 : Rq0 x h1 h2) : TE c x nt n k T1 Lf1 h1 h2 := by
  unfold qEnd at F1 e3
  split at F1
  · rename_i z
    rw [if_pos z] at e3
    exact Q.q2 D he F1 f e3 r0 (by rw [mm_sI, if_neg (by omega)]) (fun o j _ _ w => by rw [mm_sI, if_neg (by omega)]) (fun j => Or.inl (by rw [mm_sI, if_neg (by omega)])) (fun o j _ w => by rw [mm_JI])
  · rename_i z
    rw [if_neg z] at e3
    exact Q.q2 D he F1 f e3 r0 rfl (fun _ _ _ _ _ => rfl) (fun _ => Or.inl rfl) (fun _ _ _ _ => rfl)
theorem AH.fd (Q : AH c x nt n k pe ro pa lb tp rd en op ob T Lf dom sd rt ct dp kd h h1) (D : AC c x n pe E1 h h1 h2) (he : ∀ d, cq_s h d = 7 ∨ cq_s h d = 174 ∨ cq_s h d = 1 → E1 d = none) {a1 a2 a3 a4 a5 : Int} (F1 : FX c x n pe ro pa lb tp rd en op ob T1 Lf1 h1 (qFd h1 x a1 a2 a3 a4 a5)) (f : Fq0 T Lf T1 Lf1 h1) (e3 : eT x (qFd h1 x a1 a2 a3 a4 a5) h2) (r0 : Rq0 x h1 h2) : TE c x nt n k T1 Lf1 h1 h2 := by
  unfold qFd at F1 e3
  split at F1
  · rename_i z
    rw [if_pos z] at e3
    exact Q.q2 D he F1 f e3 r0 rfl (fun _ _ _ _ _ => rfl) (fun _ => Or.inl rfl) (fun _ _ _ _ => rfl)
  · rename_i z
    rw [if_neg z] at e3
    obtain ⟨_, _, q3, q4⟩ := m_fd_q (x := x) (a := a1) (b := a2) (c := a3) (d := a4) (e := a5) 20 (k := 0) (g := h1)
    exact Q.q2 D he F1 f e3 r0 (q3 x 72 (by omega) (by omega)) (fun o j _ _ w => q3 _ _ (by omega) (by omega)) (fun j => Or.inl (q3 _ _ (by omega) (by omega))) (fun o j _ w => by rw [q4])
theorem AH.spo (Q : AH c x nt n k pe ro pa lb tp rd en op ob T Lf dom sd rt ct dp kd h h1) (D : AC c x n pe E1 h h1 h2) (he : ∀ d, cq_s h d = 7 ∨ cq_s h d = 174 ∨ cq_s h d = 1 → E1 d = none) {l p m : Int} (F1 : FX c x n pe ro pa lb tp rd en op ob T1 Lf1 h1 (qSpo h1 x l p m)) (f : Fq0 T Lf T1 Lf1 h1) (e3 : eT x (qSpo h1 x l p m) h2) (r0 : Rq0 x h1 h2) : TE c x nt n k T1 Lf1 h1 h2 := by
  unfold qSpo at F1 e3
  split at F1
  · rename_i z
    rw [if_pos z] at e3
    exact Q.q2 D he F1 f e3 r0 (by rw [mm_sI, if_neg (by omega)]) (fun o j _ _ w => by rw [mm_sI, if_neg (by omega)]) (fun j => Or.inl (by rw [mm_sI, if_neg (by omega)])) (fun o j _ w => by rw [mm_JI])
  · rename_i z
    rw [if_neg z] at e3
    exact Q.q2 D he F1 f e3 r0 rfl (fun _ _ _ _ _ => rfl) (fun _ => Or.inl rfl) (fun _ _ _ _ => rfl)
theorem AH.cop (Q : AH c x nt n k pe ro pa lb tp rd en op ob T Lf dom sd rt ct dp kd h h1) (D : AC c x n pe E1 h h1 h2) (he : ∀ d, cq_s h d = 7 ∨ cq_s h d = 174 ∨ cq_s h d = 1 → E1 d = none) {l : Int} (F1 : FX c x n pe ro pa lb tp rd en op ob T1 Lf1 h1 (qCop h1 x l)) (f : FCp x T Lf h1 l h T1 Lf1 h1) (e3 : eT x (qCop h1 x l) h2) (r : RCp x l h1 h2) : TE c x nt n k T1 Lf1 h1 h2 := by
  obtain ⟨f1, f2, f3⟩ := f
  rw [f1] at F1 ⊢
  unfold qCop at F1 e3
  by_cases z : (0 ≤ l ∧ l < cq_I h1 x 72) ∧ cq_I h1 x 72 ≠ 80
  · rw [if_pos z.1, if_neg z.2] at F1 e3
    obtain ⟨a1, a2, a3⟩ := r.1 z
    obtain ⟨b1, b2, b3⟩ := f2 z
    obtain ⟨CQ_, _, _⟩ := copy_q (x := x) z.1 (Q.r63 l)
    have gI : ∀ o j, 1 ≤ o → o ≤ 61 → o ∉ tL → cq_I (m_copy h1 x l) (x + o) j = cq_I h1 (x + o) j := fun o j w1 w2 w3 => CQ_.I_ o j w1 (by omega) w3 (by omega) (by omega)
    have gJ : ∀ o j, 1 ≤ o → o ≤ 61 → o ∉ tL → cq_J (m_copy h1 x l) (x + o) j = cq_J h1 (x + o) j := fun o j w1 w2 w3 => CQ_.J_ o j w1 (by omega) w3
    have g72 := CQ_.x72
    have rs : RS x n h1 (m_copy h1 x l) := RS.q (fun j => gJ 1 j (by decide) (by decide) (by decide)) (fun j => gI 11 j (by decide) (by decide) (by decide)) (fun j => gI 12 j (by decide) (by decide) (by decide)) (fun j => gI 23 j (by decide) (by decide) (by decide)) (fun j => gI 27 j (by decide) (by decide) (by decide))
    exact ⟨rs.eT e3, dom, sd, rt, ct, dp, kd, Q.X.cop Q.F Q.C0 D.C D.hC Q.hc he D.W (Q.un D.C D.P F1 rs) (by omega) z.1 b1 b2 b3 a1 a3 a2 (by rw [e3.xI (by decide) (by decide) (by decide), g72]) (fun o j w1 w2 w3 => by rw [e3.fI w1 w3]; exact gI o j w1 w2 w3) (fun o j w1 w2 w3 => by rw [e3.fJ w1 w3]; exact gJ o j w1 w2 w3)⟩
  · have r0 := r.2 z
    rw [f3 z] at F1 ⊢
    have eq : (if 0 ≤ l ∧ l < cq_I h1 x 72 then (if cq_I h1 x 72 = 80 then h1 else m_copy h1 x l) else h1) = h1 := by
      by_cases y : 0 ≤ l ∧ l < cq_I h1 x 72
      · rw [if_pos y]
        by_cases y1 : cq_I h1 x 72 = 80
        · rw [if_pos y1]
        · exact absurd ⟨y, y1⟩ z
      · rw [if_neg y]
    rw [eq] at F1 e3
    exact Q.q1 D he F1 e3 r0
theorem AH.beg (Q : AH c x nt n k pe ro pa lb tp rd en op ob T Lf dom sd rt ct dp kd h h1) (D : AC c x n pe E1 h h1 h2) (he : ∀ d, cq_s h d = 7 ∨ cq_s h d = 174 ∨ cq_s h d = 1 → E1 d = none) {u v : Int} (F1 : FX c x n pe ro pa lb tp rd en op ob T1 Lf1 h1 (qBeg h1 x n u v)) (f : FBg c x n pe T Lf h1 u v h T1 Lf1 h1) (e3 : eT x (qBeg h1 x n u v) h2) (r : RBg x n u v h1 h2) : TE c x nt n k T1 Lf1 h1 h2 := by
  obtain ⟨f1, f2, f3⟩ := f
  rw [f1] at F1 ⊢
  unfold qBeg at F1 e3
  by_cases z : ((0 ≤ u ∧ u < n) ∧ (0 ≤ v ∧ v < n) ∧ u ≠ v) ∧ ¬ (cq_I h1 (x + 11) u = 0 ∨ cq_I h1 (x + 11) v = 0) ∧ m_seal h1 x v
  · rw [if_pos z.1, if_neg z.2.1, if_pos z.2.2] at F1 e3
    obtain ⟨tF, T_, tC, tR_, a1, a2, a3, a4⟩ := r.1 z
    have bx := f2 z
    have hU : cq_I h1 (x + 11) u ≠ 0 := fun y => z.2.1 (Or.inl y)
    have hV : cq_I h1 (x + 11) v ≠ 0 := fun y => z.2.1 (Or.inr y)
    have rs : RS x n h1 (m_begin h1 x u v) := RS.beg hU z.1.2.2 (Q.r30 _) (od_bnu Q.r23 z.1.2.2)
    exact ⟨rs.eT e3, Q.X.beg Q.F Q.C0 D.C D.hC Q.hc he D.ty D.W (Q.un D.C D.P F1 rs) Q.Fr Q.A (by omega) (by omega) z.1.1 z.1.2.1 hU hV (Q.d12 z.1.1) Q.n2 Q.o10 bx e3 a1 a2 a3 a4⟩
  · have r0 := r.2 z
    rw [f3 z] at F1 ⊢
    by_cases y : ((0 ≤ u ∧ u < n) ∧ (0 ≤ v ∧ v < n) ∧ u ≠ v) ∧ ¬ (cq_I h1 (x + 11) u = 0 ∨ cq_I h1 (x + 11) v = 0)
    · have ns_ : ¬ m_seal h1 x v := fun w => z ⟨y.1, y.2, w⟩
      rw [if_pos y.1, if_neg y.2, if_neg ns_] at F1 e3
      have B0 := bn0_q (x := x) (g := h1) (v := v)
      exact Q.q0 D he F1 e3 r0 (B0.x_ 72) (fun o j w => B0.I_ o j (by omega) (by omega)) RS.bn0 (fun j => Or.inl (B0.I_ 30 j (by decide) (by omega))) (fun o j w => B0.J_ o j)
    · have eq : (if (0 ≤ u ∧ u < n) ∧ (0 ≤ v ∧ v < n) ∧ u ≠ v then (if cq_I h1 (x + 11) u = 0 ∨ cq_I h1 (x + 11) v = 0 then h1 else @ite cx_Q (m_seal h1 x v) (Classical.propDecidable _) (m_begin h1 x u v) (m_bn0 h1 x v)) else h1) = h1 := by
        by_cases y1 : (0 ≤ u ∧ u < n) ∧ (0 ≤ v ∧ v < n) ∧ u ≠ v
        · rw [if_pos y1]
          by_cases y2 : cq_I h1 (x + 11) u = 0 ∨ cq_I h1 (x + 11) v = 0
          · rw [if_pos y2]
          · exact absurd ⟨y1, y2⟩ y
        · rw [if_neg y1]
      rw [eq] at F1 e3
      exact Q.q1 D he F1 e3 r0
end
