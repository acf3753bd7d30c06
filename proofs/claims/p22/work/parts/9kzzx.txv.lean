/-! turns and terms: a letter is written, or copied -/
section
variable {c x nt : Nat} {n : Int} {T Lf T' Lf' : Int → Nat} {dom sd dom' sd' : Nat → Prop} {rt ct rt' ct' : Nat → Int} {dp dp' : Nat → Nat} {kd kd' : Int → Nat} {m m' : Nat} {h g h' g' : cx_Q} {E E0 : Nat → Option Int} {pe : Int → Nat} {ro : Int → Int → Nat} {pa lb tp rd en op ob : Nat}
theorem TX.wr0 (X : TX c x nt n T Lf dom sd rt ct dp kd m h g) (F : FX c x n pe ro pa lb tp rd en op ob T Lf h g) (C0 : CT c E0 h [] h) (C : CT c E h [] h') (hC : E c = none) (hc : cq_s h c = 9) (he : ∀ d, cq_s h d = 7 ∨ cq_s h d = 174 ∨ cq_s h d = 1 → E d = none) (W : TW x g') (U : ∀ w w', cq_s h' w = 6 → cq_s h' w' = 6 → cq_J h' w 1 = cq_J h' w' 1 → w = w') (hm : m ≤ m') {u v : Int} (hu : 0 ≤ u ∧ u < n) (hv : 0 ≤ v ∧ v < n) (hr : cq_I g (x + 30) (6 * u + v) ≠ 0) (h72 : cq_I g x 72 < 80) (lx : LX x T Lf Lf' g u v h') {t t2 : Int} (wr : WR x u v g g') (re : RE x g' (wlF (fR x g) (wrS x g u v) (cq_I g x 72) t t2)) (G : wlG x (fR x g) (fun q => exT x g q) (wrS x g u v) t t2 g') (e10 : cq_I g' x 10 ≤ cq_I g x 10) : TX c x nt n T Lf' dom sd rt ct dp kd m' h' g' := by
  have fo := F.fo u v hu.1 hu.2 hv.1 hv.2
  have r4 := fo.r4
  have f72 := F.l80
  obtain ⟨⟨e, tk⟩, tn⟩ := G
  have zi := X.q1 u v 0 hu.1 hu.2 hv.1 hv.2 (Int.le_refl _) (by omega)
  have es : cq_I g (x + 29) (4 * (6 * u + v) + 0) = wrS x g u v := by unfold wrS; rw [Int.add_zero]
  rw [es] at zi
  have wr' : WQ x (wrS x g u v) (wrZ x g (wrS x g u v)) (wrB x g u v (wrS x g u v)) g g' := wr
  obtain ⟨l1, l2, l3⟩ := lx
  generalize wrS x g u v = s at *
  have gI : ∀ o j, 1 ≤ o → o ≤ 61 → o ∉ tL → ¬ (o = 40 ∧ j = s) → cq_I g' (x + o) j = cq_I g (x + o) j := fun o j w1 w2 w3 w4 => wr'.I_ o j w1 (by omega) w3 w4 (by omega) (by omega)
  have gJ : ∀ o j, 1 ≤ o → o ≤ 65 → o ∉ tL → o ≠ 32 → cq_J g' (x + o) j = cq_J g (x + o) j := fun o j w1 w2 w3 w4 => wr'.J_ o j w1 w2 w3 (fun z => w4 z.1)
  have g72 := wr'.x72
  have i40 := wr'.i40
  have rr : ∀ o j, o ∈ tR → ¬ (o = 50 ∧ j = s) → ¬ (o = 64 ∧ j = cq_I g x 72) → cq_I g' (x + o) j = cq_I g (x + o) j := fun o j w1 w2 w3 => by
    rw [re o w1 j]
    unfold wlF upF
    rw [if_neg w3, if_neg w2]
    rfl
  have r50 : cq_I g' (x + 50) s = t2 := by
    rw [re 50 (by decide) s]
    unfold wlF upF
    rw [if_neg (fun z => absurd z.1 (by decide)), if_pos ⟨rfl, rfl⟩]
  have r64 : cq_I g' (x + 64) (cq_I g x 72) = t := by
    rw [re 64 (by decide)]
    exact if_pos ⟨rfl, rfl⟩
  have e10' : cq_I g' x 10 = cq_I g x 10 := by have := e.1.2; omega
  obtain ⟨N, O⟩ := zN_0 C e e10' U
  have hk : ∀ t, kd t ≠ 0 → kd t = kd t := fun _ _ => rfl
  have B' := X.b.ext C0 C hC hc W N O hk (fun t z => Or.inl z) (fun t z => by have := X.b.k2 t z; have := e.1.1; omega) hm
  have tk' : tmT x g' t 7 (cq_I g (x + 50) s) 0 0 0 := tk
  have tn' : tmT x g' t2 6 (cq_I g (x + 50) s) 0 0 0 := tn
  obtain ⟨f1, f2, f3⟩ := C.fs he zi
  refine X.asm F B' N hk X.kz (fun o j w => ?_) (fun o j w => ?_) (fun u' v' u0 u1 v0 v1 q => gI 30 _ (by decide) (by decide) (by decide) (by omega)) (fun u' v' i u0 u1 v0 v1 i0 i1 => ?_) (fun l l0 l1' => ?_)
  · rcases w with w | w | w | w | w | w <;> rw [w]
    · exact gI 11 j (by decide) (by decide) (by decide) (by omega)
    · exact rr 15 j (by decide) (by omega) (by omega)
    · exact gI 16 j (by decide) (by decide) (by decide) (by omega)
    · exact rr 19 j (by decide) (by omega) (by omega)
    · exact gI 23 j (by decide) (by decide) (by decide) (by omega)
    · exact rr 26 j (by decide) (by omega) (by omega)
  · rcases w with w | w | w <;> rw [w]
    · exact gJ 14 j (by decide) (by decide) (by decide) (by decide)
    · exact gJ 18 j (by decide) (by decide) (by decide) (by decide)
    · exact gJ 25 j (by decide) (by decide) (by decide) (by decide)
  · rw [gI 30 _ (by decide) (by decide) (by decide) (by omega)] at i1
    rw [gI 29 _ (by decide) (by decide) (by decide) (by omega)]
    have Q := X.q1 u' v' i u0 u1 v0 v1 i0 i1
    generalize cq_I g (x + 29) (4 * (6 * u' + v') + i) = s' at Q ⊢
    by_cases z : s' = s
    · rw [z] at Q ⊢
      -- the SESSION that was written in
      obtain ⟨⟨S, r, w, p1, p2, p3, p4, p5, p6, p7, p8, p9, p10⟩, q, ⟨k1, k2, k3, k4⟩, m1, m2, m3⟩ := Q
      have s8 := (X.b.t1 S (X.b.t3 S p3).1).1
      have c1 := C.1
      have c3 := C.2.2.1
      have c4 := C.2.2.2.1
      have f14 := C0.2.2.2.2.2.2.2.2.2.2.2.2.2.1
      have s_ : ∀ {d k : Nat}, cq_s h d = k → k ≠ 99 → cq_s h' d = k := fun {d k} y z => (c1 d (by rw [y]; exact z)).1.trans y
      refine ⟨⟨S, r, w, by rw [f1]; exact p1, by rw [f1]; exact p2, p3, by rw [rr 48 s (by decide) (by omega) (by omega)]; exact p4, ?_, by rw [f1]; exact p6, by rw [(c3 S 1 s8).1 (by decide)]; exact p7, by rw [c4 r 0 (f14 S r s8 List.not_mem_nil p7)]; exact p8, s_ p9 (by decide), ?_⟩, fun R z => ?_, ⟨by rw [f2]; exact k1, s_ k2 (by decide), s_ k3 (by decide), fun j j0 j1 => ?_⟩, s_ m1 (by decide), by omega, by omega⟩
      · have en_ : (cq_I g' (x + 40) s).toNat = (cq_I g (x + 40) s).toNat + 1 := by omega
        rw [en_, r50]
        exact ⟨_, nx_ex e p5, tn'⟩
      · rw [rr 52 s (by decide) (by omega) (by omega)]
        exact N.s p9 p10
      · rw [f1] at z
        obtain ⟨z1, z2, z3⟩ := q R z
        refine ⟨z1, by rw [(c3 R 0 (X.b.t1 R z1).1).1 (by decide)]; exact z2, ?_⟩
        rw [gI 41 s (by decide) (by decide) (by decide) (by omega), rr 51 s (by decide) (by omega) (by omega)]
        exact nx_ex e z3
      · rw [gI 53 s (by decide) (by decide) (by decide) (by omega)] at j1
        obtain ⟨R, z1, z2, z3, z4, z5⟩ := k4 j j0 j1
        refine ⟨R, by rw [f3]; exact z1, z2, by rw [(c3 R 0 (X.b.t1 R z2).1).1 (by decide)]; exact z3, ?_, ?_⟩
        · rw [gI 55 _ (by decide) (by decide) (by decide) (by omega)]
          exact z4
        · rw [gI 55 _ (by decide) (by decide) (by decide) (by omega), rr 57 _ (by decide) (by omega) (by omega)]
          exact kx_ex e z5
    · obtain ⟨f1', f2', f3'⟩ := C.fs he Q
      refine Q.fr X.b C0 C zE.refl N f1' f2' f3' (fun o w => ?_) (fun o j w _ _ => ?_) (by omega)
      · rcases w with w | w | w | w | w | w | w <;> rw [w]
        · exact gI 40 _ (by decide) (by decide) (by decide) (by omega)
        · exact gI 41 _ (by decide) (by decide) (by decide) (by omega)
        · exact rr 48 _ (by decide) (by omega) (by omega)
        · exact rr 50 _ (by decide) (by omega) (by omega)
        · exact rr 51 _ (by decide) (by omega) (by omega)
        · exact rr 52 _ (by decide) (by omega) (by omega)
        · exact gI 53 _ (by decide) (by decide) (by decide) (by omega)
      · rcases w with w | w <;> rw [w]
        · exact gI 55 _ (by decide) (by decide) (by decide) (by omega)
        · exact rr 57 _ (by decide) (by omega) (by omega)
  · by_cases z : l = cq_I g x 72
    · rw [z]
      obtain ⟨⟨S, r, w, p1, p2, p3, p4, p5, _⟩, _, _, _, m2, m3⟩ := zi
      refine ⟨S, by rw [l2, f1]; exact p2, p3, by rw [l3]; exact m2, by rw [l3]; omega, ?_⟩
      rw [l3, r64]
      exact ⟨_, nx_ex e p5, tk'⟩
    · have l2' : l < cq_I g x 72 := by omega
      rw [l1 l z]
      exact (X.l1 l l0 l2').fr X.b C zE.refl e (F.fl l l0 l2').2.s0 (rr 64 l (by decide) (by omega) (by omega))
end
