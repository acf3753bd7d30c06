/-! class and reference side by side: a SESSION is other; a letter is written -/
theorem wD_c {tp tp' : Int → Int} {key : Int64} {p : Int} : ∀ {r : Nat} {i : Int} {ws : Int → Int}, (∀ k, i ≤ k → k < i + r → tp k = tp' k) → wD tp key p r i ws = wD tp' key p r i ws := by
  intro r
  induction r with
  | zero =>
    intro i ws _
    rw [wD_0, wD_0]
  | succ r ih =>
    intro i ws e
    rw [wD_s, wD_s, e i (Int.le_refl _) (by omega)]
    exact ih (fun k k0 k1 => e k (by omega) (by omega))
section
variable {c x : Nat} {n : Int} {pe : Int → Nat} {ro : Int → Int → Nat} {pa lb tp rd en op ob : Nat} {T Lf : Int → Nat} {h g h' g' : cx_Q} {P : Nat → Prop}
/-- one SESSION alone is other -/
theorem FX.upT (F : FX c x n pe ro pa lb tp rd en op ob T Lf h g) {u0 v0 i0 s : Int} (hu : 0 ≤ u0 ∧ u0 < n) (hv : 0 ≤ v0 ∧ v0 < n) (hi : 0 ≤ i0 ∧ i0 < cq_I g (x + 30) (6 * u0 + v0)) (es : cq_I g (x + 29) (4 * (6 * u0 + v0) + i0) = s) (e : evx P h h') (hP : ∀ a, P a → scl (T s) a) (eg : eqR x (inS s) g g') (ex : ∀ j, (j = 0 ∨ j = 63 ∨ j = 68 ∨ j = 72 ∨ j = 73 ∨ j = 75 ∨ j = 84 ∨ j = 85 ∨ j = 86) → cq_I g' x j = cq_I g x j) (sr : SR x (T s) s h' g') : FX c x n pe ro pa lb tp rd en op ob T Lf h' g' := by
  have fo := F.fo u0 v0 hu.1 hu.2 hv.1 hv.2
  have sl := fo.sl i0 hi.1 hi.2
  have sr0 := fo.ss i0 hi.1 hi.2
  rw [es] at sl sr0
  have g29 : ∀ j, cq_I g' (x + 29) j = cq_I g (x + 29) j := fun j => (eg 29 j (by decide) (by decide) (by decide) (fun z => by unfold inS at z; omega)).1
  have g30 : ∀ j, cq_I g' (x + 30) j = cq_I g (x + 30) j := fun j => (eg 30 j (by decide) (by decide) (by decide) (fun z => by unfold inS at z; omega)).1
  have np : ∀ a, (cq_s h a = 5 ∨ cq_s h a = 182) → ¬ P a := fun a w z => by
    have := sr0.cl (hP a z)
    omega
  refine F.upO hu hv e (fun o j h1 h2 h3 w => eg o j h1 h2 h3 (fun z => w (by unfold inS at z; unfold inO; omega))) (fun a w => Or.inr (Or.inr ⟨i0, hi.1, hi.2, by rw [es]; exact hP a w⟩)) ex (fun _ _ => rfl) (fo.ex e (np _ (Or.inl fo.s0)) (np _ (Or.inr fo.s1)) (fun j => g29 _) (g30 _) (fun i i1 i2 => ?_)) (fun i j a1 a2 a3 a4 ne => ?_) (fun i u v j a1 a2 b1 b2 b3 b4 ne a3 a4 => ?_)
  · by_cases w : i = i0
    · rw [w, es]
      exact sr
    · have sri := fo.ss i i1 i2
      have ne := F.ti u0 v0 u0 v0 i i0 hu.1 hu.2 hv.1 hv.2 hu.1 hu.2 hv.1 hv.2 i1 i2 hi.1 hi.2 (fun z => w z.2.2)
      have dn : cq_I g (x + 29) (4 * (6 * u0 + v0) + i) ≠ s := fun z => by
        rw [es, z] at ne
        exact ne rfl
      rw [es] at ne
      have q : ∀ a, scl (T (cq_I g (x + 29) (4 * (6 * u0 + v0) + i))) a → ¬ P a := fun a w z => sri.ne sr0 ne w (hP a z)
      refine sri.ex e (q _ (Or.inl rfl)) (q _ (Or.inr (Or.inl rfl))) (q _ (Or.inr (Or.inr (Or.inl rfl)))) (q _ (Or.inr (Or.inr (Or.inr (Or.inl rfl))))) (q _ (Or.inr (Or.inr (Or.inr (Or.inr rfl))))) (fun o j z => ?_)
      obtain ⟨q1, q2, q3⟩ := inS_r z
      exact eg o j q1 q2 q3 (fun z2 => by unfold inS at z z2; omega)
  · rw [g30] at a2 a4
    rw [g29, g29]
    exact F.ti u0 v0 u0 v0 i j hu.1 hu.2 hv.1 hv.2 hu.1 hu.2 hv.1 hv.2 a1 a2 a3 a4 (fun z => ne z.2.2)
  · rw [g30] at a2
    rw [g29]
    exact F.ti u0 v0 u v i j hu.1 hu.2 hv.1 hv.2 b1 b2 b3 b4 a1 a2 a3 a4 (fun z => ne ⟨z.1.symm, z.2.1.symm⟩)
/-- a SESSION that has written -/
theorem SR.wrote {a : Nat} {s i : Int} {j : Int64} (F : SR x a s h g) (e40 : cq_I g' (x + 40) s = i) (e32 : cq_J g' (x + 32) s = j) (eI : ∀ o k, inS s o k → o ≠ 40 → cq_I g' (x + o) k = cq_I g (x + o) k) (eJ : ∀ o k, inS s o k → o ≠ 32 → cq_J g' (x + o) k = cq_J g (x + o) k) : SR x a s (cq_sI (cq_sJ h a 8 j) a 16 i) g' := by
  have hI : ∀ k, k ≠ 16 → cq_I (cq_sI (cq_sJ h a 8 j) a 16 i) a k = cq_I h a k := fun k w => by rw [mm_sI, if_neg (fun q => w q.2), mm_IJ]
  have hJ : ∀ k, k ≠ 8 → cq_J (cq_sI (cq_sJ h a 8 j) a 16 i) a k = cq_J h a k := fun k w => by rw [mm_JI, mm_sJ, if_neg (fun q => w q.2)]
  have hA : cq_A (cq_sI (cq_sJ h a 8 j) a 16 i) = cq_A h := rfl
  have oI : ∀ b, b ≠ a → cq_I (cq_sI (cq_sJ h a 8 j) a 16 i) b = cq_I h b := fun b w => by funext k; rw [mm_sI, if_neg (fun q => w q.1), mm_IJ]
  have oJ : ∀ b, b ≠ a → cq_J (cq_sI (cq_sJ h a 8 j) a 16 i) b = cq_J h b := fun b w => by funext k; rw [mm_JI, mm_sJ, if_neg (fun q => w q.1)]
  have gI : ∀ o, ((31 ≤ o ∧ o ≤ 47) ∨ o = 53) → o ≠ 40 → cq_I g' (x + o) s = cq_I g (x + o) s := fun o w w2 => eI o s (Or.inl ⟨w, rfl⟩) w2
  have gJ : ∀ o, ((31 ≤ o ∧ o ≤ 47) ∨ o = 53) → o ≠ 32 → cq_J g' (x + o) s = cq_J g (x + o) s := fun o w w2 => eJ o s (Or.inl ⟨w, rfl⟩) w2
  have k20 := F.k20
  have s0 := F.s0
  refine ⟨F.s0, F.s1, F.s2, F.s3, F.s4, F.a19, F.k0, F.k1, F.k2, by rw [hI 0 (by decide), gI 44 (by omega) (by decide)]; exact F.bg, by rw [hJ 2 (by decide), gJ 45 (by omega) (by decide)]; exact F.be, by rw [hI 5 (by decide), gI 43 (by omega) (by decide)]; exact F.gw, by rw [hI 3 (by decide), hI 4 (by decide), gI 43 (by omega) (by decide), gI 46 (by omega) (by decide), gI 47 (by omega) (by decide)]; exact F.gl, by rw [hJ 6 (by decide), gJ 31 (by omega) (by decide)]; exact F.rt, by rw [mm_JI, mm_sJ, if_pos ⟨rfl, rfl⟩, e32], F.s9, by rw [gI 33 (by omega) (by decide)]; exact F.hs, by rw [hA, gI 35 (by omega) (by decide)]; exact F.hr, by rw [hJ 10 (by decide), gI 35 (by omega) (by decide), gJ 34 (by omega) (by decide)]; exact F.rc, by rw [hJ 10 (by decide), gI 35 (by omega) (by decide)]; exact F.rz, ?_, by rw [hJ 13 (by decide), gJ 38 (by omega) (by decide)]; exact F.ot, by rw [hI 15 (by decide), gI 39 (by omega) (by decide)]; exact F.ho, by rw [mm_sI, if_pos ⟨rfl, rfl⟩, e40], by rw [hI 17 (by decide), gI 41 (by omega) (by decide)]; exact F.nr, by rw [hI 18 (by decide), gI 42 (by omega) (by decide)]; exact F.pn, by rw [oI (a + 1) (by omega), gI 53 (by omega) (by decide)]; exact F.km, by rw [gI 53 (by omega) (by decide)]; exact F.k20, fun k k1 k2 => ?_⟩
  · obtain ⟨w, q1, q2, q3, q4⟩ := F.ow
    have wa : w ≠ a := fun z => by rw [z, s0] at q2; exact absurd q2 (by decide)
    exact ⟨w, q1, q2, by rw [oJ w wa, gJ 36 (by omega) (by decide)]; exact q3, by rw [oJ w wa, gJ 37 (by omega) (by decide)]; exact q4⟩
  · rw [gI 53 (by omega) (by decide)] at k2
    rw [oJ (a + 2) (by omega), oI (a + 3) (by omega), oJ (a + 4) (by omega), eJ 54 (20 * s + k) (Or.inr ⟨Or.inl rfl, by omega, by omega⟩) (by decide), eI 55 (20 * s + k) (Or.inr ⟨Or.inr (Or.inl rfl), by omega, by omega⟩) (by decide), eJ 56 (20 * s + k) (Or.inr ⟨Or.inr (Or.inr rfl), by omega, by omega⟩) (by decide)]
    exact F.kk k k1 k2
/-- the SESSION's part of a letter that is written -/
theorem fx_wrote (F : FX c x n pe ro pa lb tp rd en op ob T Lf h g) {u v s : Int} (hu : 0 ≤ u ∧ u < n) (hv : 0 ≤ v ∧ v < n) (hr : 0 < cq_I g (x + 30) (6 * u + v)) (es : cq_I g (x + 29) (4 * (6 * u + v)) = s) {i : Int} {j : Int64} : FX c x n pe ro pa lb tp rd en op ob T Lf (cq_sI (cq_sJ h (T s) 8 j) (T s) 16 i) (cq_sI (cq_sJ g (x + 32) s j) (x + 40) s i) := by
  have es' : cq_I g (x + 29) (4 * (6 * u + v) + 0) = s := by rw [Int.add_zero]; exact es
  have sr := (F.fo u v hu.1 hu.2 hv.1 hv.2).ss 0 (Int.le_refl _) hr
  rw [es'] at sr
  have e0 : evx (fun a => a = T s) h (cq_sI (cq_sJ h (T s) 8 j) (T s) 16 i) := evx.sI (P := fun a => a = T s) (evx.sJ (P := fun a => a = T s) evx.refl rfl (by rw [sr.s0]; decide)) rfl
  refine F.upT hu hv (i0 := 0) (s := s) ⟨Int.le_refl _, hr⟩ es' e0 (fun a w => Or.inl w) (fun o k h1 h2 h3 w => ⟨?_, ?_⟩) (fun k _ => ?_) (sr.wrote ?_ ?_ (fun o k w w2 => ?_) (fun o k w w2 => ?_))
  · rw [mm_sI, if_neg (fun q => w (Or.inl ⟨by omega, q.2⟩)), mm_IJ]
  · rw [mm_JI, mm_sJ, if_neg (fun q => w (Or.inl ⟨by omega, q.2⟩))]
  · rw [mm_sI, if_neg (fun q => by omega), mm_IJ]
  · rw [mm_sI, if_pos ⟨rfl, rfl⟩]
  · rw [mm_JI, mm_sJ, if_pos ⟨rfl, rfl⟩]
  · rw [mm_sI, if_neg (fun q => w2 (by omega)), mm_IJ]
  · rw [mm_JI, mm_sJ, if_neg (fun q => w2 (by omega))]
end
