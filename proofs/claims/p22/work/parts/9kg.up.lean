/-! class and reference side by side: letters and rows that are other -/
section
variable {c x : Nat} {n : Int} {pe : Int → Nat} {ro : Int → Int → Nat} {pa lb tp rd en op ob : Nat} {T T' Lf Lf' : Int → Nat} {h g h' g' : cx_Q} {P : Nat → Prop}
theorem FX.upL (F : FX c x n pe ro pa lb tp rd en op ob T Lf h g) (e : evx P h h') (eg : eqR x (fun o _ => o = 62 ∨ o = 63) g g') (hP : ∀ a, P a → cq_s h a = 9 ∨ cq_s h a = 102 ∨ cq_s h a = 2 ∨ cq_s h a = 100) (eA : cq_A h' c = cq_A h c) (e0 : cq_I g' x 0 = cq_I g x 0) (fs : FS x c tp rd h' g') (l80 : 0 ≤ cq_I g' x 72 ∧ cq_I g' x 72 ≤ 80) (fl : ∀ l, 0 ≤ l → l < cq_I g' x 72 → cq_A h' lb l = some (Lf' l) ∧ FL x (Lf' l) l h' g') (li : ∀ l m, 0 ≤ l → l < m → m < cq_I g' x 72 → Lf' l ≠ Lf' m) : FX c x n pe ro pa lb tp rd en op ob T Lf' h' g' := by
  have nP : ∀ {a k : Nat}, cq_s h a = k → (k ≠ 9 ∧ k ≠ 102 ∧ k ≠ 2 ∧ k ≠ 100) → ¬ P a := by
    intro a k q w hp
    have := hP a hp
    omega
  have gU : ∀ {u : Int} o j, inU u o j → cq_I g' (x + o) j = cq_I g (x + o) j ∧ cq_J g' (x + o) j = cq_J g (x + o) j := fun {u} o j w => by
    obtain ⟨q1, q2, q3⟩ := inU_r w
    exact eg o j q1 q2 q3 (fun z => by unfold inU at w; omega)
  have gS : ∀ {s : Int} o j, inS s o j → cq_I g' (x + o) j = cq_I g (x + o) j ∧ cq_J g' (x + o) j = cq_J g (x + o) j := fun {s} o j w => by
    obtain ⟨q1, q2, q3⟩ := inS_r w
    exact eg o j q1 q2 q3 (fun z => by unfold inS at w; omega)
  have g29 : ∀ j, cq_I g' (x + 29) j = cq_I g (x + 29) j := fun j => (eg 29 j (by decide) (by decide) (by decide) (by omega)).1
  have g30 : ∀ j, cq_I g' (x + 30) j = cq_I g (x + 30) j := fun j => (eg 30 j (by decide) (by decide) (by decide) (by omega)).1
  refine ⟨fs, F.n26, by rw [e0]; exact F.nn, by rw [eA]; exact F.a0, e.s F.s0 (by decide), by rw [eA]; exact F.a1, e.s F.s1 (by decide), by rw [eA]; exact F.a12, e.s F.s12 (by decide), by rw [eA]; exact F.a13, e.s F.s13 (by decide), by rw [e.A F.s13 rfl (nP F.s13 (by decide))]; exact F.aob, e.s F.sob (by decide), fun u u0 u1 => ?_, fun u u0 u1 => ?_, fun u v u0 u1 v0 v1 => ?_, fun u u0 u1 => ?_, fun u v u0 u1 v0 v1 => ?_, l80, fl, li, F.pi, F.ri, ?_⟩
  · rw [e.A F.s0 rfl (nP F.s0 (by decide))]
    exact F.pa_ u u0 u1
  · have f := F.fu u u0 u1
    have r := F.r13 u u0 u1
    rw [e.A f.s0 rfl (nP f.s0 (by decide))]
    exact ⟨r.1, e.s r.2 (by decide)⟩
  · have r := F.r13 u u0 u1
    rw [e.A r.2 rfl (nP r.2 (by decide))]
    exact F.ra u v u0 u1 v0 v1
  · have f := F.fu u u0 u1
    exact f.ex e (nP f.s0 (by decide)) (nP f.s1 (by decide)) (nP f.s2 (by decide)) (nP f.s3 (by decide)) (nP f.s4 (by decide)) (nP f.s5 (by decide)) gU
  · have fo := F.fo u v u0 u1 v0 v1
    refine fo.ex e (nP fo.s0 (by decide)) (nP fo.s1 (by decide)) (fun j => g29 _) (g30 _) (fun i i0 i1 => ?_)
    have sr := fo.ss i i0 i1
    exact sr.ex e (nP sr.s0 (by decide)) (nP sr.s1 (by decide)) (nP sr.s2 (by decide)) (nP sr.s3 (by decide)) (nP sr.s4 (by decide)) gS
  · intro u v u' v' i j u0 u1 v0 v1 u0' u1' v0' v1' i0 i1 j0 j1
    rw [g30] at i1 j1
    rw [g29, g29]
    exact F.ti u v u' v' i j u0 u1 v0 v1 u0' u1' v0' v1' i0 i1 j0 j1
/-- the cells of a SESSION -/
def scl (p a : Nat) : Prop := a = p ∨ a = p + 1 ∨ a = p + 2 ∨ a = p + 3 ∨ a = p + 4
theorem SR.cl {p a : Nat} {s : Int} (F : SR x p s h g) (q : scl p a) : cq_s h a = 7 ∨ cq_s h a = 1 ∨ cq_s h a = 171 ∨ cq_s h a = 172 ∨ cq_s h a = 173 := by
  rcases q with rfl | rfl | rfl | rfl | rfl
  · exact Or.inl F.s0
  · exact Or.inr (Or.inl F.s1)
  · exact Or.inr (Or.inr (Or.inl F.s2))
  · exact Or.inr (Or.inr (Or.inr (Or.inl F.s3)))
  · exact Or.inr (Or.inr (Or.inr (Or.inr F.s4)))
theorem SR.ne {p q a : Nat} {s w : Int} (F : SR x p s h g) (G : SR x q w h g) (ne : p ≠ q) (h1 : scl p a) (h2 : scl q a) : False := by
  have f0 := F.s0
  have f1 := F.s1
  have f2 := F.s2
  have f3 := F.s3
  have f4 := F.s4
  have g0 := G.s0
  have g1 := G.s1
  have g2 := G.s2
  have g3 := G.s3
  have g4 := G.s4
  rcases h1 with e | e | e | e | e <;> rcases h2 with e' | e' | e' | e' | e' <;> first | omega | (rw [← e, e'] at f0; omega) | (rw [← e, e'] at f1; omega) | (rw [← e, e'] at f2; omega) | (rw [← e, e'] at f3; omega) | (rw [← e, e'] at f4; omega)
/-- what of the reference is told of a row and its SESSIONS -/
def inO (w : Int) (o : Nat) (j : Int) : Prop := (o = 30 ∧ j = w) ∨ (o = 29 ∧ 4 * w ≤ j ∧ j < 4 * w + 4) ∨ (((31 ≤ o ∧ o ≤ 47) ∨ o = 53) ∧ 4 * w ≤ j ∧ j < 4 * w + 4) ∨ ((o = 54 ∨ o = 55 ∨ o = 56) ∧ 80 * w ≤ j ∧ j < 80 * w + 80)
theorem FX.upO (F : FX c x n pe ro pa lb tp rd en op ob T Lf h g) {u0 v0 : Int} (hu : 0 ≤ u0 ∧ u0 < n) (hv : 0 ≤ v0 ∧ v0 < n) (e : evx P h h') (eg : eqR x (inO (6 * u0 + v0)) g g') (hP : ∀ a, P a → a = ro u0 v0 ∨ a = ro u0 v0 + 1 ∨ ∃ i, 0 ≤ i ∧ i < cq_I g (x + 30) (6 * u0 + v0) ∧ scl (T (cq_I g (x + 29) (4 * (6 * u0 + v0) + i))) a) (ex : ∀ j, (j = 0 ∨ j = 63 ∨ j = 68 ∨ j = 72 ∨ j = 73 ∨ j = 75 ∨ j = 84 ∨ j = 85 ∨ j = 86) → cq_I g' x j = cq_I g x j) (hT : ∀ s, ¬ (4 * (6 * u0 + v0) ≤ s ∧ s < 4 * (6 * u0 + v0) + 4) → T' s = T s) (fo : FO x (ro u0 v0) (6 * u0 + v0) T' h' g') (hin : ∀ i j, 0 ≤ i → i < cq_I g' (x + 30) (6 * u0 + v0) → 0 ≤ j → j < cq_I g' (x + 30) (6 * u0 + v0) → i ≠ j → T' (cq_I g' (x + 29) (4 * (6 * u0 + v0) + i)) ≠ T' (cq_I g' (x + 29) (4 * (6 * u0 + v0) + j))) (hout : ∀ i u v j, 0 ≤ i → i < cq_I g' (x + 30) (6 * u0 + v0) → 0 ≤ u → u < n → 0 ≤ v → v < n → ¬ (u = u0 ∧ v = v0) → 0 ≤ j → j < cq_I g (x + 30) (6 * u + v) → T' (cq_I g' (x + 29) (4 * (6 * u0 + v0) + i)) ≠ T (cq_I g (x + 29) (4 * (6 * u + v) + j))) : FX c x n pe ro pa lb tp rd en op ob T' Lf h' g' := by
  have n26 := F.n26
  have fo0 := F.fo u0 v0 hu.1 hu.2 hv.1 hv.2
  have cl : ∀ a, P a → cq_s h a = 5 ∨ cq_s h a = 182 ∨ cq_s h a = 7 ∨ cq_s h a = 1 ∨ cq_s h a = 171 ∨ cq_s h a = 172 ∨ cq_s h a = 173 := by
    intro a q
    rcases hP a q with rfl | rfl | ⟨i, i0, i1, z⟩
    · exact Or.inl fo0.s0
    · exact Or.inr (Or.inl fo0.s1)
    · have := (fo0.ss i i0 i1).cl z
      omega
  have nP : ∀ {a k : Nat}, cq_s h a = k → (k ≠ 5 ∧ k ≠ 182 ∧ k ≠ 7 ∧ k ≠ 1 ∧ k ≠ 171 ∧ k ≠ 172 ∧ k ≠ 173) → ¬ P a := by
    intro a k q w hp
    have := cl a hp
    omega
  have gU : ∀ {u : Int} o j, inU u o j → cq_I g' (x + o) j = cq_I g (x + o) j ∧ cq_J g' (x + o) j = cq_J g (x + o) j := fun {u} o j w => by
    obtain ⟨q1, q2, q3⟩ := inU_r w
    exact eg o j q1 q2 q3 (fun z => by unfold inU at w; unfold inO at z; omega)
  have g6 : ∀ o j, (o = 61 ∨ o = 62 ∨ o = 63 ∨ o = 65) → cq_I g' (x + o) j = cq_I g (x + o) j := fun o j w => (eg o j (by omega) (by omega) (by rcases w with rfl | rfl | rfl | rfl <;> decide) (fun z => by unfold inO at z; omega)).1
  have e72 := ex 72 (by omega)
  have eA := e.A F.fs.s0 rfl (nP F.fs.s0 (by decide))
  have gr : ∀ {u v : Int}, 0 ≤ u → u < n → 0 ≤ v → v < n → ¬ (u = u0 ∧ v = v0) → cq_I g' (x + 30) (6 * u + v) = cq_I g (x + 30) (6 * u + v) ∧ ∀ i, 0 ≤ i → i < 4 → cq_I g' (x + 29) (4 * (6 * u + v) + i) = cq_I g (x + 29) (4 * (6 * u + v) + i) := by
    intro u v a1 a2 a3 a4 ne
    refine ⟨(eg 30 _ (by decide) (by decide) (by decide) (fun z => by unfold inO at z; omega)).1, fun i i0 i1 => (eg 29 _ (by decide) (by decide) (by decide) (fun z => by unfold inO at z; omega)).1⟩
  refine ⟨F.fs.ex e (nP F.fs.s0 (by decide)) (nP F.fs.s1 (by decide)) (nP F.fs.s2 (by decide)) (fun j w => ex j (by omega)) (fun j => g6 61 j (by omega)) (fun j => g6 65 j (by omega)), F.n26, by rw [ex 0 (by omega)]; exact F.nn, by rw [eA]; exact F.a0, e.s F.s0 (by decide), by rw [eA]; exact F.a1, e.s F.s1 (by decide), by rw [eA]; exact F.a12, e.s F.s12 (by decide), by rw [eA]; exact F.a13, e.s F.s13 (by decide), by rw [e.A F.s13 rfl (nP F.s13 (by decide))]; exact F.aob, e.s F.sob (by decide), fun u u0 u1 => ?_, fun u u0 u1 => ?_, fun u v u0 u1 v0 v1 => ?_, fun u u0 u1 => ?_, fun u v a1 a2 a3 a4 => ?_, by rw [e72]; exact F.l80, fun l l0 l1 => ?_, by rw [e72]; exact F.li, F.pi, F.ri, ?_⟩
  · rw [e.A F.s0 rfl (nP F.s0 (by decide))]
    exact F.pa_ u u0 u1
  · have f := F.fu u u0 u1
    have r := F.r13 u u0 u1
    rw [e.A f.s0 rfl (nP f.s0 (by decide))]
    exact ⟨r.1, e.s r.2 (by decide)⟩
  · have r := F.r13 u u0 u1
    rw [e.A r.2 rfl (nP r.2 (by decide))]
    exact F.ra u v u0 u1 v0 v1
  · have f := F.fu u u0 u1
    exact f.ex e (nP f.s0 (by decide)) (nP f.s1 (by decide)) (nP f.s2 (by decide)) (nP f.s3 (by decide)) (nP f.s4 (by decide)) (nP f.s5 (by decide)) gU
  · by_cases ne : u = u0 ∧ v = v0
    · rw [ne.1, ne.2]; exact fo
    · have f := F.fo u v a1 a2 a3 a4
      have r4 := f.r4
      obtain ⟨gr1, gr2⟩ := gr a1 a2 a3 a4 ne
      have nr := F.ri u v u0 v0 a1 a2 a3 a4 hu.1 hu.2 hv.1 hv.2 ne
      have np : ∀ a, (a = ro u v ∨ a = ro u v + 1) → ¬ P a := by
        intro a ha hp
        have s5 := f.s0
        have s182 := f.s1
        have t5 := fo0.s0
        have t182 := fo0.s1
        rcases hP a hp with z | z | ⟨i, i0, i1, z⟩
        · rcases ha with rfl | rfl
          · exact nr z
          · rw [z, t5] at s182; omega
        · rcases ha with rfl | rfl
          · rw [z, t182] at s5; omega
          · omega
        · have := (fo0.ss i i0 i1).cl z
          rcases ha with rfl | rfl <;> omega
      refine ⟨e.s f.s0 (by decide), e.s f.s1 (by decide), by rw [e.I f.s0 rfl (np _ (Or.inl rfl)), gr1]; exact f.rm, by rw [gr1]; exact f.r4, fun i i0 i1 => ?_, fun i i0 i1 => ?_, fun i j i0 i1 i2 => ?_, fun i i0 i1 => ?_⟩
      · rw [gr1] at i1
        have sl := f.sl i i0 i1
        rw [e.A f.s1 rfl (np _ (Or.inr rfl)), gr2 i i0 (by omega), hT _ (by omega)]
        exact f.at_ i i0 i1
      · rw [gr1] at i1
        rw [gr2 i i0 (by omega)]
        exact f.sl i i0 i1
      · rw [gr1] at i2
        rw [gr2 i i0 (by omega), gr2 j (by omega) (by omega)]
        exact f.di i j i0 i1 i2
      · rw [gr1] at i1
        have sl := f.sl i i0 i1
        have sr := f.ss i i0 i1
        rw [gr2 i i0 (by omega), hT _ (by omega)]
        have nn : ∀ {a : Nat}, scl (T (cq_I g (x + 29) (4 * (6 * u + v) + i))) a → ¬ P a := by
          intro a ha hp
          have c1 := sr.cl ha
          rcases hP a hp with z | z | ⟨j, j0, j1, z⟩
          · rw [z, fo0.s0] at c1; omega
          · rw [z, fo0.s1] at c1; omega
          · exact sr.ne (fo0.ss j j0 j1) (F.ti u v u0 v0 i j a1 a2 a3 a4 hu.1 hu.2 hv.1 hv.2 i0 i1 j0 j1 (fun w => ne ⟨w.1, w.2.1⟩)) ha z
        refine sr.ex e (nn (Or.inl rfl)) (nn (Or.inr (Or.inl rfl))) (nn (Or.inr (Or.inr (Or.inl rfl)))) (nn (Or.inr (Or.inr (Or.inr (Or.inl rfl))))) (nn (Or.inr (Or.inr (Or.inr (Or.inr rfl))))) (fun o j z => ?_)
        obtain ⟨q1, q2, q3⟩ := inS_r z
        exact eg o j q1 q2 q3 (fun z2 => by unfold inS at z; unfold inO at z2; omega)
  · rw [e72] at l1
    obtain ⟨f1, f2⟩ := F.fl l l0 l1
    rw [e.A F.s1 rfl (nP F.s1 (by decide))]
    exact ⟨f1, f2.ex e (nP f2.s0 (by decide)) (nP f2.s1 (by decide)) (g6 63 l (by omega)) (fun k _ _ => g6 62 _ (by omega))⟩
  · intro u v u' v' i j a1 a2 a3 a4 b1 b2 b3 b4 i0 i1 j0 j1 ne
    by_cases w : u = u0 ∧ v = v0
    · by_cases w' : u' = u0 ∧ v' = v0
      · rw [w.1, w.2] at i1 ⊢
        rw [w'.1, w'.2] at j1 ⊢
        exact hin i j i0 i1 j0 j1 (fun q => ne ⟨by omega, by omega, q⟩)
      · obtain ⟨gr1, gr2⟩ := gr b1 b2 b3 b4 w'
        have f := F.fo u' v' b1 b2 b3 b4
        have r4 := f.r4
        rw [gr1] at j1
        have sl := f.sl j j0 j1
        rw [w.1, w.2] at i1 ⊢
        rw [gr2 j j0 (by omega), hT (cq_I g (x + 29) (4 * (6 * u' + v') + j)) (by omega)]
        exact hout i u' v' j i0 i1 b1 b2 b3 b4 w' j0 j1
    · obtain ⟨gr1, gr2⟩ := gr a1 a2 a3 a4 w
      have f := F.fo u v a1 a2 a3 a4
      have r4 := f.r4
      rw [gr1] at i1
      have sl := f.sl i i0 i1
      rw [gr2 i i0 (by omega), hT (cq_I g (x + 29) (4 * (6 * u + v) + i)) (by omega)]
      by_cases w' : u' = u0 ∧ v' = v0
      · rw [w'.1, w'.2] at j1 ⊢
        exact (hout j u v i j0 j1 a1 a2 a3 a4 w i0 i1).symm
      · obtain ⟨gr1', gr2'⟩ := gr b1 b2 b3 b4 w'
        have f' := F.fo u' v' b1 b2 b3 b4
        have r4' := f'.r4
        rw [gr1'] at j1
        have sl' := f'.sl j j0 j1
        rw [gr2' j j0 (by omega), hT (cq_I g (x + 29) (4 * (6 * u' + v') + j)) (by omega)]
        exact F.ti u v u' v' i j a1 a2 a3 a4 b1 b2 b3 b4 i0 i1 j0 j1 ne
end
