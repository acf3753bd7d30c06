/-! turns and terms: each call -/
section
variable {c x nt : Nat} {n k : Int} {T Lf T1 Lf1 : Int → Nat} {dom sd : Nat → Prop} {rt ct : Nat → Int} {dp : Nat → Nat} {kd : Int → Nat} {h h1 h2 g : cx_Q} {E1 : Nat → Option Int} {pe : Int → Nat} {ro : Int → Int → Nat} {pa lb tp rd en op ob : Nat}
/-- the class's call is done: nothing was given away, no letter opened -/
def AC (c x : Nat) (n : Int) (pe : Int → Nat) (E1 : Nat → Option Int) (h h1 h2 : cx_Q) : Prop := (CT c E1 h [] h1) ∧ (E1 c = none) ∧ (∀ d, cq_s h d = 1 → E1 d = none) ∧ (uE pe n h1) ∧ (∀ a b, cq_s h1 a = 1 → cq_A h1 a 3 = some b → cq_s h1 b = 174) ∧ (TW x h2)
theorem AC.C {c x : Nat} {n : Int} {pe : Int → Nat} {E1 : Nat → Option Int} {h h1 h2 : cx_Q} (F_ : AC c x n pe E1 h h1 h2) : CT c E1 h [] h1 := F_.1
theorem AC.hC {c x : Nat} {n : Int} {pe : Int → Nat} {E1 : Nat → Option Int} {h h1 h2 : cx_Q} (F_ : AC c x n pe E1 h h1 h2) : E1 c = none := F_.2.1
theorem AC.he1 {c x : Nat} {n : Int} {pe : Int → Nat} {E1 : Nat → Option Int} {h h1 h2 : cx_Q} (F_ : AC c x n pe E1 h h1 h2) : ∀ d, cq_s h d = 1 → E1 d = none := F_.2.2.1
theorem AC.P {c x : Nat} {n : Int} {pe : Int → Nat} {E1 : Nat → Option Int} {h h1 h2 : cx_Q} (F_ : AC c x n pe E1 h h1 h2) : uE pe n h1 := F_.2.2.2.1
theorem AC.ty {c x : Nat} {n : Int} {pe : Int → Nat} {E1 : Nat → Option Int} {h h1 h2 : cx_Q} (F_ : AC c x n pe E1 h h1 h2) : ∀ a b, cq_s h1 a = 1 → cq_A h1 a 3 = some b → cq_s h1 b = 174 := F_.2.2.2.2.1
theorem AC.W {c x : Nat} {n : Int} {pe : Int → Nat} {E1 : Nat → Option Int} {h h1 h2 : cx_Q} (F_ : AC c x n pe E1 h h1 h2) : TW x h2 := F_.2.2.2.2.2
/-- what a call left -/
def TE (c x nt : Nat) (n k : Int) (T Lf : Int → Nat) (h1 h2 : cx_Q) : Prop := RS x n h1 h2 ∧ ∃ dom' sd' rt' ct' dp' kd', TX c x nt n T Lf dom' sd' rt' ct' dp' kd' (2 * k.toNat + 5) h1 h2
theorem AH.q0 (Q : AH c x nt n k pe ro pa lb tp rd en op ob T Lf dom sd rt ct dp kd h h1) (D : AC c x n pe E1 h h1 h2) (he : ∀ d, cq_s h d = 7 ∨ cq_s h d = 174 ∨ cq_s h d = 1 → E1 d = none) (F1 : FX c x n pe ro pa lb tp rd en op ob T Lf h1 g) (e3 : eT x g h2) (r0 : Rq0 x h1 h2) (q72 : cq_I g x 72 = cq_I h1 x 72) (qI : ∀ o j, o = 11 ∨ o = 12 ∨ o = 16 ∨ o = 23 ∨ o = 29 ∨ o = 40 ∨ o = 41 ∨ o = 53 ∨ o = 55 → cq_I g (x + o) j = cq_I h1 (x + o) j) (q27 : RS x n h1 g) (q30 : ∀ j, cq_I g (x + 30) j = cq_I h1 (x + 30) j ∨ cq_I g (x + 30) j = 0) (qJ : ∀ o j, o = 14 ∨ o = 18 ∨ o = 25 → cq_J g (x + o) j = cq_J h1 (x + o) j) : TE c x nt n k T Lf h1 h2 := by
  have U := Q.un D.C D.P F1 q27
  have rR : ∀ o j, o ∈ tR → cq_I h2 (x + o) j = cq_I h1 (x + o) j := fun o j w => r0.2.1 o w j
  refine ⟨q27.eT e3, dom, sd, rt, ct, dp, kd, Q.X.quiet Q.F Q.C0 D.C D.hC Q.hc he D.W U (by omega) r0.1 r0.2.2 ⟨fun o j w => ?_, fun j => ?_⟩ ?_ (fun o j w => ?_) (fun o j w => ?_)⟩
  · rcases w with w | w | w | w | w | w | w | w | w | w <;> rw [w]
    · rw [e3.fI (by decide) (by decide)]; exact qI 29 j (by omega)
    · rw [e3.fI (by decide) (by decide)]; exact qI 40 j (by omega)
    · rw [e3.fI (by decide) (by decide)]; exact qI 41 j (by omega)
    · exact rR 48 j (by decide)
    · exact rR 50 j (by decide)
    · exact rR 51 j (by decide)
    · exact rR 52 j (by decide)
    · rw [e3.fI (by decide) (by decide)]; exact qI 53 j (by omega)
    · rw [e3.fI (by decide) (by decide)]; exact qI 55 j (by omega)
    · exact rR 57 j (by decide)
  · rw [e3.fI (by decide) (by decide)]
    exact q30 j
  · rw [e3.xI (by decide) (by decide) (by decide)]
    exact q72
  · rcases w with w | w | w | w | w | w | w <;> rw [w]
    · rw [e3.fI (by decide) (by decide)]; exact qI 11 j (by omega)
    · exact rR 15 j (by decide)
    · rw [e3.fI (by decide) (by decide)]; exact qI 16 j (by omega)
    · exact rR 19 j (by decide)
    · rw [e3.fI (by decide) (by decide)]; exact qI 23 j (by omega)
    · exact rR 26 j (by decide)
    · exact rR 64 j (by decide)
  · rcases w with w | w | w <;> rw [w]
    · rw [e3.fJ (by decide) (by decide)]; exact qJ 14 j (by omega)
    · rw [e3.fJ (by decide) (by decide)]; exact qJ 18 j (by omega)
    · rw [e3.fJ (by decide) (by decide)]; exact qJ 25 j (by omega)
/-- a call that left nothing -/
theorem AH.q1 (Q : AH c x nt n k pe ro pa lb tp rd en op ob T Lf dom sd rt ct dp kd h h1) (D : AC c x n pe E1 h h1 h2) (he : ∀ d, cq_s h d = 7 ∨ cq_s h d = 174 ∨ cq_s h d = 1 → E1 d = none) (F1 : FX c x n pe ro pa lb tp rd en op ob T Lf h1 h1) (e3 : eT x h1 h2) (r0 : Rq0 x h1 h2) : TE c x nt n k T Lf h1 h2 := Q.q0 D he F1 e3 r0 rfl (fun _ _ _ => rfl) RS.refl (fun _ => Or.inl rfl) (fun _ _ _ => rfl)
theorem AH.d12 (Q : AH c x nt n k pe ro pa lb tp rd en op ob T Lf dom sd rt ct dp kd h h1) {u : Int} (hu : 0 ≤ u ∧ u < n) : 0 ≤ cq_I h1 (x + 12) u ∧ cq_I h1 (x + 12) u < 140 := by
  have hk := Q.hk
  have := Q.D u hu.1 hu.2
  exact ⟨Q.r12 u, by omega⟩
theorem AH.reg (Q : AH c x nt n k pe ro pa lb tp rd en op ob T Lf dom sd rt ct dp kd h h1) (D : AC c x n pe E1 h h1 h2) (he : ∀ d, cq_s h d = 7 ∨ cq_s h d = 174 ∨ cq_s h d = 1 → E1 d = none) {u : Int} (F1 : FX c x n pe ro pa lb tp rd en op ob T1 Lf1 h1 (qReg h1 x n u)) (f : Fq0 T Lf T1 Lf1 h1) (e3 : eT x (qReg h1 x n u) h2) (r : RRg x n u h1 h2) : TE c x nt n k T1 Lf1 h1 h2 := by
  obtain ⟨f1, f2⟩ := f
  rw [f1, f2] at F1 ⊢
  unfold qReg at F1 e3
  by_cases z : (0 ≤ u ∧ u < n) ∧ cq_I h1 (x + 11) u = 0
  · rw [if_pos z.1, if_pos z.2] at F1 e3
    obtain ⟨a1, a2, a3, a4, a5⟩ := r.1 z
    have rs : RS x n h1 (m_register h1 x u) := RS.reg z.2
    have R := reg_q (x := x) (u := u) (g := h1)
    have L := lend_q (x := x) (u := u) (g := m_reg2 (m_reg1 h1 x u) x u)
    have d1 : cq_J (m_reg1 h1 x u) x 32 = dO (cq_J h1 (x + 1) u) (cq_I h1 (x + 12) u) := by
      unfold m_reg1
      rw [(draw_31 (x := x) (u := u)).2, mm_JI, mm_sI, if_neg (by omega)]
    have d2 : cq_J (m_draw (m_reg2 (m_reg1 h1 x u) x u) x u) x 32 = dO (cq_J h1 (x + 1) u) (cq_I h1 (x + 12) u + 1) := by
      rw [(draw_31 (x := x) (u := u)).2, R.J_ 1 u (by decide) (by omega), R.i12]
    rw [d1] at a3
    rw [d2] at a4
    obtain ⟨kd', X'⟩ := Q.X.reg Q.F F1 Q.C0 D.C D.hC Q.hc he D.W (Q.un D.C D.P F1 rs) Q.Fr Q.A (by omega) z.1 z.2 (Q.d12 z.1) Q.n2 R L e3 a1 a2 a3 a4 a5 Q.o10 (m' := 2 * k.toNat + 5)
    exact ⟨rs.eT e3, dom, sd, rt, ct, dp, kd', X'⟩
  · have r0 := r.2 z
    have eq : (if 0 ≤ u ∧ u < n then (if cq_I h1 (x + 11) u = 0 then m_register h1 x u else h1) else h1) = h1 := by
      by_cases y : 0 ≤ u ∧ u < n
      · rw [if_pos y, if_neg (fun w => z ⟨y, w⟩)]
      · rw [if_neg y]
    rw [eq] at F1 e3
    exact Q.q1 D he F1 e3 r0
theorem AH.rot (Q : AH c x nt n k pe ro pa lb tp rd en op ob T Lf dom sd rt ct dp kd h h1) (D : AC c x n pe E1 h h1 h2) (he : ∀ d, cq_s h d = 7 ∨ cq_s h d = 174 ∨ cq_s h d = 1 → E1 d = none) {u : Int} (F1 : FX c x n pe ro pa lb tp rd en op ob T1 Lf1 h1 (qRot h1 x n u)) (f : Fq0 T Lf T1 Lf1 h1) (e3 : eT x (qRot h1 x n u) h2) (r : RRo x n u h1 h2) : TE c x nt n k T1 Lf1 h1 h2 := by
  obtain ⟨f1, f2⟩ := f
  rw [f1, f2] at F1 ⊢
  unfold qRot at F1 e3
  by_cases z : (0 ≤ u ∧ u < n) ∧ cq_I h1 (x + 11) u ≠ 0 ∧ cq_I h1 (x + 16) u ≠ 20
  · rw [if_pos z.1, if_neg z.2.1, if_neg z.2.2] at F1 e3
    obtain ⟨a1, a2, a3, a4⟩ := r.1 z
    have rs : RS x n h1 (m_lend h1 x u) := RS.lend z.2.1
    have L := lend_q (x := x) (u := u) (g := h1)
    rw [(draw_31 (x := x) (u := u)).2] at a3
    have d := Q.d12 z.1
    obtain ⟨kd', X'⟩ := Q.X.rot Q.F F1 Q.C0 D.C D.hC Q.hc he D.W (Q.un D.C D.P F1 rs) Q.Fr Q.A (by omega) z.1 z.2.1 ⟨d.1, by omega⟩ Q.n2 L e3 a1 a2 a3 a4 Q.o10 (m' := 2 * k.toNat + 5)
    exact ⟨rs.eT e3, dom, sd, rt, ct, dp, kd', X'⟩
  · have r0 := r.2 z
    have eq : (if 0 ≤ u ∧ u < n then (if cq_I h1 (x + 11) u = 0 then h1 else if cq_I h1 (x + 16) u = 20 then h1 else m_lend h1 x u) else h1) = h1 := by
      by_cases y : 0 ≤ u ∧ u < n
      · rw [if_pos y]
        by_cases y1 : cq_I h1 (x + 11) u = 0
        · rw [if_pos y1]
        · rw [if_neg y1]
          by_cases y2 : cq_I h1 (x + 16) u = 20
          · rw [if_pos y2]
          · exact absurd ⟨y, y1, y2⟩ z
      · rw [if_neg y]
    rw [eq] at F1 e3
    exact Q.q1 D he F1 e3 r0
theorem AH.pub (Q : AH c x nt n k pe ro pa lb tp rd en op ob T Lf dom sd rt ct dp kd h h1) (D : AC c x n pe E1 h h1 h2) (he : ∀ d, cq_s h d = 7 ∨ cq_s h d = 174 ∨ cq_s h d = 1 → E1 d = none) {u w : Int} (F1 : FX c x n pe ro pa lb tp rd en op ob T1 Lf1 h1 (qPub h1 x n u w)) (f : Fq0 T Lf T1 Lf1 h1) (e3 : eT x (qPub h1 x n u w) h2) (r : RPu x n u w h1 h2) : TE c x nt n k T1 Lf1 h1 h2 := by
  obtain ⟨f1, f2⟩ := f
  rw [f1, f2] at F1 ⊢
  unfold qPub at F1 e3
  by_cases z : ((0 ≤ u ∧ u < n) ∧ 1 ≤ w ∧ w ≤ 12) ∧ cq_I h1 (x + 11) u ≠ 0 ∧ ¬ (12 < m_onceDir h1 x u + w ∨ 60 < cq_I h1 (x + 23) u + w)
  · rw [if_pos z.1, if_neg z.2.1, if_neg z.2.2] at F1 e3
    obtain ⟨a1, a2, a3, a4⟩ := r.1 z
    have ew : ((w.toNat : Nat) : Int) = w := by omega
    have z3 := z.2.2
    have rs : RS x n h1 (m_pub x u w.toNat h1) := RS.pub Q.r23 (by omega) (by omega) z.2.1
    have P := pub_r (x := x) (u := u) w.toNat (g := h1)
    have d := Q.d12 z.1.1
    have dd := Q.D u z.1.1.1 z.1.1.2
    have hk := Q.hk
    have a3' : ∀ i : Nat, i < w.toNat → drT x h2 (cq_I h1 x 2 + i) (cq_I h1 x 10 + i) (dO (cq_J h1 (x + 1) u) (cq_I h1 (x + 12) u + i)) := fun i hi => by
      have := a3 i (by omega)
      have Pi := pub_r (x := x) (u := u) i (g := h1)
      rw [(draw_31 (x := x) (u := u)).2, Pi.J_ 1 u (by decide) (by omega), Pi.i12] at this
      exact this
    obtain ⟨kd', X'⟩ := Q.X.pub Q.F F1 Q.C0 D.C D.hC Q.hc he D.W (Q.un D.C D.P F1 rs) Q.Fr Q.A (by omega) z.1.1 z.2.1 ⟨d.1, by omega⟩ (by omega) Q.n2 P e3 a1 (by rw [ew]; exact a2) a3' (by rw [ew]; exact a4) Q.o10 (m' := 2 * k.toNat + 5)
    exact ⟨rs.eT e3, dom, sd, rt, ct, dp, kd', X'⟩
  · have r0 := r.2 z
    have eq : (if (0 ≤ u ∧ u < n) ∧ 1 ≤ w ∧ w ≤ 12 then (if cq_I h1 (x + 11) u = 0 then h1 else if 12 < m_onceDir h1 x u + w ∨ 60 < cq_I h1 (x + 23) u + w then h1 else m_pub x u w.toNat h1) else h1) = h1 := by
      by_cases y : (0 ≤ u ∧ u < n) ∧ 1 ≤ w ∧ w ≤ 12
      · rw [if_pos y]
        by_cases y1 : cq_I h1 (x + 11) u = 0
        · rw [if_pos y1]
        · rw [if_neg y1]
          by_cases y2 : 12 < m_onceDir h1 x u + w ∨ 60 < cq_I h1 (x + 23) u + w
          · rw [if_pos y2]
          · exact absurd ⟨y, y1, y2⟩ z
      · rw [if_neg y]
    rw [eq] at F1 e3
    exact Q.q1 D he F1 e3 r0
end
