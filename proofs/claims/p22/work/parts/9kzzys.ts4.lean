/-! turns and terms: write, look, come -/
section
variable {c x nt : Nat} {n k : Int} {T Lf T1 Lf1 : Int → Nat} {dom sd : Nat → Prop} {rt ct : Nat → Int} {dp : Nat → Nat} {kd : Int → Nat} {h h1 h2 g g1 : cx_Q} {E1 : Nat → Option Int} {pe : Int → Nat} {ro : Int → Int → Nat} {pa lb tp rd en op ob : Nat}
theorem RS.wr {u v : Int} (R : RS x n g g1) (w : WR x u v g1 h2) : RS x n g h2 := fun u' u0 u1 => by
  have w' : WQ x (wrS x g1 u v) (wrZ x g1 (wrS x g1 u v)) (wrB x g1 u v (wrS x g1 u v)) g1 h2 := w
  have gI : ∀ o j, 1 ≤ o → o ≤ 39 → o ∉ tL → cq_I h2 (x + o) j = cq_I g1 (x + o) j := fun o j w1 w2 w3 => w'.I_ o j w1 (by omega) w3 (by omega) (by omega) (by omega)
  have od : m_onceDir h2 x u' = m_onceDir g1 x u' := od_c (fun _ _ _ => gI 27 _ (by decide) (by decide) (by decide)) (gI 23 _ (by decide) (by decide) (by decide))
  rw [od, gI 11 _ (by decide) (by decide) (by decide), gI 12 _ (by decide) (by decide) (by decide), w'.J_ 1 _ (by decide) (by decide) (by decide) (by omega)]
  exact R u' u0 u1
theorem AH.wri (Q : AH c x nt n k pe ro pa lb tp rd en op ob T Lf dom sd rt ct dp kd h h1) (D : AC c x n pe E1 h h1 h2) (he : ∀ d, cq_s h d = 7 ∨ cq_s h d = 174 ∨ cq_s h d = 1 → E1 d = none) {u v : Int} (F2 : FX c x n pe ro pa lb tp rd en op ob T1 Lf1 h1 h2) (f : FWr c x n pe T Lf h1 u v h T1 Lf1 h1) (e3 : rWr h1 x n u v h2) (r : RWr x n u v h1 h2) : TE c x nt n k T1 Lf1 h1 h2 := by
  obtain ⟨f1, f2, f3⟩ := f
  obtain ⟨r1, r2, r3⟩ := r
  obtain ⟨w1, w2⟩ := e3
  have l80 := Q.F.l80
  by_cases y : ((0 ≤ u ∧ u < n) ∧ (0 ≤ v ∧ v < n) ∧ u ≠ v) ∧ cq_I h1 x 68 ≠ 0 ∧ ¬ (cq_I h1 (x + 11) u = 0 ∨ cq_I h1 (x + 11) v = 0) ∧ cq_I h1 x 72 ≠ 80
  · obtain ⟨w3, w4⟩ := w1 y
    have hU : cq_I h1 (x + 11) u ≠ 0 := fun z => y.2.2.1 (Or.inl z)
    have hV : cq_I h1 (x + 11) v ≠ 0 := fun z => y.2.2.1 (Or.inr z)
    have uv := y.1.2.2
    by_cases y2 : cq_I h1 (x + 30) (6 * u + v) = 0
    · obtain ⟨w5, w6⟩ := w3 y2
      by_cases y3 : m_seal h1 x v
      · obtain ⟨bx, lx⟩ := f1 y y2 y3
        obtain ⟨tF, T_, tC, tR_, t, t2, a1, a2, a3, a4⟩ := r1 y y2 y3
        obtain ⟨g1, e1, wr⟩ := w6 y3
        have rs : RS x n h1 (m_begin h1 x u v) := RS.beg hU uv (Q.r30 _) (od_bnu Q.r23 uv)
        have rs2 : RS x n h1 h2 := (rs.eT e1).wr wr
        exact ⟨rs2, Q.X.wrb Q.F Q.C0 D.C D.hC Q.hc he D.ty D.W (Q.un D.C D.P F2 rs2) Q.Fr Q.A (by omega) (by omega) y.1.1 y.1.2.1 hU hV (Q.d12 y.1.1) Q.n2 Q.o10 (by omega) bx lx e1 wr a1 a2 a3 a4⟩
      · have nz : ¬ ((((0 ≤ u ∧ u < n) ∧ (0 ≤ v ∧ v < n) ∧ u ≠ v) ∧ cq_I h1 x 68 ≠ 0 ∧ ¬ (cq_I h1 (x + 11) u = 0 ∨ cq_I h1 (x + 11) v = 0) ∧ cq_I h1 x 72 ≠ 80) ∧ (cq_I h1 (x + 30) (6 * u + v) = 0 → m_seal h1 x v)) := fun z => y3 (z.2 y2)
        have r0 := r3 nz
        obtain ⟨t1, t2⟩ := f3 nz
        have e1 := w5 y3
        have rs : RS x n h1 h2 := (RS.bn0 (n := n) (g := h1) (x := x) (v := v)).eT e1
        have B0 := bn0_q (x := x) (g := h1) (v := v)
        rw [t1, t2] at F2 ⊢
        exact Q.q0 D he F2 (eT.refl _ _) r0 (by rw [e1.xI (by decide) (by decide) (by decide), B0.x_]) (fun o j w => by
          rcases w with w | w | w | w | w | w | w | w | w <;> rw [w, e1.fI (by decide) (by decide)]
          · exact B0.I_ 11 j (by decide) (by omega)
          · exact B0.I_ 12 j (by decide) (by omega)
          · exact B0.I_ 16 j (by decide) (by omega)
          · exact B0.I_ 23 j (by decide) (by omega)
          · exact B0.I_ 29 j (by decide) (by omega)
          · exact B0.I_ 40 j (by decide) (by omega)
          · exact B0.I_ 41 j (by decide) (by omega)
          · exact B0.I_ 53 j (by decide) (by omega)
          · exact B0.I_ 55 j (by decide) (by omega)) rs (fun j => Or.inl (by rw [e1.fI (by decide) (by decide)]; exact B0.I_ 30 j (by decide) (by omega))) (fun o j w => by
          rcases w with w | w | w <;> rw [w, e1.fJ (by decide) (by decide)]
          · exact B0.J_ 14 j
          · exact B0.J_ 18 j
          · exact B0.J_ 25 j)
    · obtain ⟨t1, lx⟩ := f2 y y2
      obtain ⟨t, t2, a1, a2, a3⟩ := r2 y y2
      have wr := w4 y2
      have rs : RS x n h1 h2 := RS.refl.wr wr
      rw [t1] at F2 ⊢
      exact ⟨rs, dom, sd, rt, ct, dp, kd, Q.X.wr0 Q.F Q.C0 D.C D.hC Q.hc he D.W (Q.un D.C D.P F2 rs) (by omega) y.1.1 y.1.2.1 y2 (by omega) lx wr a1 a2 a3⟩
  · have nz : ¬ ((((0 ≤ u ∧ u < n) ∧ (0 ≤ v ∧ v < n) ∧ u ≠ v) ∧ cq_I h1 x 68 ≠ 0 ∧ ¬ (cq_I h1 (x + 11) u = 0 ∨ cq_I h1 (x + 11) v = 0) ∧ cq_I h1 x 72 ≠ 80) ∧ (cq_I h1 (x + 30) (6 * u + v) = 0 → m_seal h1 x v)) := fun z => y z.1
    have r0 := r3 nz
    obtain ⟨t1, t2⟩ := f3 nz
    have e1 := w2 y
    have rs : RS x n h1 h2 := RS.refl.eT e1
    rw [t1, t2] at F2 ⊢
    exact Q.q0 D he F2 (eT.refl _ _) r0 (e1.xI (by decide) (by decide) (by decide)) (fun o j w => by
      rcases w with w | w | w | w | w | w | w | w | w <;> rw [w, e1.fI (by decide) (by decide)]) rs (fun j => Or.inl (by rw [e1.fI (by decide) (by decide)])) (fun o j w => by
      rcases w with w | w | w <;> rw [w, e1.fJ (by decide) (by decide)])
/-- the same with other cells of which nothing is asked -/
theorem CT.wn (C : CT c E1 h [] h1) (hc : cq_s h c = 9) (w : WN h h1) : CT c (fun d => if cq_s h d = 7 ∨ cq_s h d = 174 then none else E1 d) h [] h1 := by
  obtain ⟨t1, t2, t3, t4, t5, t6, t7, t8, t9, t10, t11, t12, t13, t14, t15, t16, t17, t18, t19⟩ := C
  have ec : (fun d => if cq_s h d = 7 ∨ cq_s h d = 174 then none else E1 d) c = E1 c := if_neg (by rw [hc]; decide)
  refine ⟨t1, fun a j s => ?_, fun a j s => ?_, t4, fun a j s => ?_, fun a s1 s2 aX => ?_, t7, t8, t9, t10, t11, t12, t13, t14, fun a s1 s2 aX => ?_, fun d j s _ => by rw [w.2 d (Or.inr s)], fun p s => ?_, fun a j kk s q e => ?_, t19⟩
  · rw [ec]; exact t2 a j s
  · rw [ec]; exact t3 a j s
  · rw [ec]; exact t5 a j s
  · rw [ec]; exact t6 a s1 s2 aX
  · rw [ec]; exact t15 a s1 s2 aX
  · rw [ec]; exact t17 p s
  · rcases q with q | q
    · rw [w.2 a (Or.inl (s.trans q))]
    · refine t18 a j kk s (Or.inr q) ?_
      have : ¬ (cq_s h a = 7 ∨ cq_s h a = 174) := by
        rw [s]
        omega
      have e' : (if cq_s h a = 7 ∨ cq_s h a = 174 then none else E1 a) = none := e
      rw [if_neg this] at e'
      exact e'
theorem AH.come0 (Q : AH c x nt n k pe ro pa lb tp rd en op ob T Lf dom sd rt ct dp kd h h1) (D : AC c x n pe E1 h h1 h2) {q : cx_Q} (F1 : FX c x n pe ro pa lb tp rd en op ob T Lf h1 h2) (w : WN h h1) (eL_ : eL x h1 q) (e3 : eT x q h2) (r0 : Rq0 x h1 h2) : TE c x nt n k T Lf h1 h2 := by
  have C' := D.C.wn Q.hc w
  have D' : AC c x n pe (fun d => if cq_s h d = 7 ∨ cq_s h d = 174 then none else E1 d) h h1 h2 := ⟨C', (if_neg (by rw [Q.hc]; decide)).trans D.hC, fun d s => (if_neg (by rw [s]; decide)).trans (D.he1 d s), D.P, D.ty, D.W⟩
  have qI : ∀ o j, 1 ≤ o → o ∉ tL → cq_I h2 (x + o) j = cq_I h1 (x + o) j := fun o j w1 w2 => by rw [e3.fI w1 w2]; exact (eL_.2.2.2.2 (x + o) j (by omega)).1
  have qJ : ∀ o j, 1 ≤ o → o ∉ tL → cq_J h2 (x + o) j = cq_J h1 (x + o) j := fun o j w1 w2 => by rw [e3.fJ w1 w2]; exact (eL_.2.2.2.2 (x + o) j (by omega)).2
  have rs : RS x n h1 h2 := RS.q (fun j => qJ 1 j (by decide) (by decide)) (fun j => qI 11 j (by decide) (by decide)) (fun j => qI 12 j (by decide) (by decide)) (fun j => qI 23 j (by decide) (by decide)) (fun j => qI 27 j (by decide) (by decide))
  exact Q.q0 D' (fun d s => by
    rcases s with s | s | s
    · exact if_pos (Or.inl s)
    · exact if_pos (Or.inr s)
    · exact (if_neg (by rw [s]; decide)).trans (D.he1 d s)) F1 (eT.refl _ _) r0 (by rw [e3.xI (by decide) (by decide) (by decide)]; exact (eL_.2.2.2.2 x 72 (by omega)).1) (fun o j w => by
    rcases w with w | w | w | w | w | w | w | w | w <;> rw [w] <;> exact qI _ j (by decide) (by decide)) rs (fun j => Or.inl (qI 30 j (by decide) (by decide))) (fun o j w => by
    rcases w with w | w | w <;> rw [w] <;> exact qJ _ j (by decide) (by decide))
theorem AH.come1 (Q : AH c x nt n k pe ro pa lb tp rd en op ob T Lf dom sd rt ct dp kd h h1) (D : AC c x n pe E1 h h1 h2) {l u : Int} (co : CO h1 x n l u) (h81 : 0 ≤ cq_I (m_rl h1 x l) x 81) (F1 : FX c x n pe ro pa lb tp rd en op ob T1 Lf h1 h2) (mx : CMX c x pe T T1 h1 l u h h1) (e3 : eT x (CMQ h1 x l u) h2) (rc : RCm x h1 (m_rl h1 x l) l u (cq_I h1 (x + 62) (100 * l + 1)) h2) : TE c x nt n k T1 Lf h1 h2 := by
  have rs : RS x n h1 h2 := (RS.com Q.F co Q.r62 h81).eT e3
  have d := Q.d12 co.1
  exact ⟨rs, Q.X.com Q.F Q.C0 D.C D.hC Q.hc D.he1 D.W (Q.un D.C D.P F1 rs) Q.Fr Q.A (by omega) (by omega) co ⟨d.1, by omega⟩ Q.n2 Q.o10 Q.r41 Q.r62 h81 mx e3 rc⟩
theorem TX.up {m m' : Nat} (X : TX c x nt n T Lf dom sd rt ct dp kd m h g) (hm : m ≤ m') : TX c x nt n T Lf dom sd rt ct dp kd m' h g := by
  obtain ⟨B, a1, a2, a3, a4, a5, a6, a7⟩ := X
  refine ⟨⟨B.tw, B.o1, B.o2, B.o3, B.o4, B.u1, B.s1, B.k1, B.k2, B.g1, B.t0, B.t1, B.t2, B.t3, B.t4, B.t5, B.t6, B.t7, B.t8, fun a da => ?_⟩, a1, a2, a3, a4, a5, a6, a7⟩
  have := B.d1 a da
  omega
theorem AH.lok {L : Int} (Q : AH c x nt n k pe ro pa lb tp rd en op ob T Lf dom sd rt ct dp kd h h1) (C : CT c E1 h [] h1) (W : TW x h2) {u : Int} (f : FLk c n L pe T Lf u h T1 Lf1 h1) (r : RLk x n u h1 h2) (e3 : eT x (qLok h1 x n u) h2) : TE c x nt n k T1 Lf1 h1 h2 := by
  obtain ⟨⟨f1, f2⟩, f3, f4⟩ := f
  rw [f1, f2]
  by_cases z : 0 ≤ u ∧ u < n
  · obtain ⟨mm, lm, eh⟩ := f3 z
    have lk := r.1 z
    unfold qLok at e3
    rw [if_pos z] at e3
    have rs : RS x n h1 h2 := (RS.q (n := n) (g := h1) (g' := cq_sI h1 x 86 (cq_I h1 x 86 + 1)) (fun j => by rw [mm_JI]) (fun j => by rw [mm_sI, if_neg (by omega)]) (fun j => by rw [mm_sI, if_neg (by omega)]) (fun j => by rw [mm_sI, if_neg (by omega)]) (fun j => by rw [mm_sI, if_neg (by omega)])).eT e3
    exact ⟨rs, dom, sd, rt, ct, dp, kd, (TX.look Q.F Q.X Q.C0 C Q.hc z lm eh lk W).up (by omega)⟩
  · have e1 := f4 z
    have e2 := r.2 z
    rw [e2, e1]
    have X := Q.X
    rw [e1] at X
    exact ⟨RS.refl, dom, sd, rt, ct, dp, kd, X.up (by omega)⟩
end
