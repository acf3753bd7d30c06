/-! class and reference side by side: a user's keys -/
section
variable {c x : Nat} {n : Int} {pe : Int → Nat} {ro : Int → Int → Nat} {pa lb tp rd en op ob : Nat} {T Lf : Int → Nat} {h g h' g' : cx_Q} {P : Nat → Prop}
/-- the cells of a user -/
def ucl (p a : Nat) : Prop := a = p ∨ a = p + 1 ∨ a = p + 2 ∨ a = p + 3 ∨ a = p + 4 ∨ a = p + 5
theorem FU.cl {p a : Nat} {u : Int} (F : FU x p u h g) (q : ucl p a) : cq_s h a = 4 ∨ cq_s h a = 176 ∨ cq_s h a = 177 ∨ cq_s h a = 178 ∨ cq_s h a = 179 ∨ cq_s h a = 180 := by
  rcases q with rfl | rfl | rfl | rfl | rfl | rfl
  · exact Or.inl F.s0
  · exact Or.inr (Or.inl F.s1)
  · exact Or.inr (Or.inr (Or.inl F.s2))
  · exact Or.inr (Or.inr (Or.inr (Or.inl F.s3)))
  · exact Or.inr (Or.inr (Or.inr (Or.inr (Or.inl F.s4))))
  · exact Or.inr (Or.inr (Or.inr (Or.inr (Or.inr F.s5))))
/-- the cells of two users are not the same -/
theorem FU.ne {p q a : Nat} {u w : Int} (F : FU x p u h g) (G : FU x q w h g) (ne : p ≠ q) (h1 : ucl p a) (h2 : ucl q a) : False := by
  have f0 := F.s0
  have f1 := F.s1
  have f2 := F.s2
  have f3 := F.s3
  have f4 := F.s4
  have f5 := F.s5
  have g0 := G.s0
  have g1 := G.s1
  have g2 := G.s2
  have g3 := G.s3
  have g4 := G.s4
  have g5 := G.s5
  rcases h1 with e | e | e | e | e | e <;> rcases h2 with e' | e' | e' | e' | e' | e' <;> first | omega | (rw [← e, e'] at f0; omega) | (rw [← e, e'] at f1; omega) | (rw [← e, e'] at f2; omega) | (rw [← e, e'] at f3; omega) | (rw [← e, e'] at f4; omega) | (rw [← e, e'] at f5; omega)
/-- of one user alone something is other -/
theorem FX.upU (F : FX c x n pe ro pa lb tp rd en op ob T Lf h g) {u0 : Int} (hu : 0 ≤ u0 ∧ u0 < n) (e : evx P h h') (hP : ∀ a, P a → ucl (pe u0) a) (eg : eqR x (inU u0) g g') (ex : ∀ j, (j = 0 ∨ j = 63 ∨ j = 68 ∨ j = 72 ∨ j = 73 ∨ j = 75 ∨ j = 84 ∨ j = 85 ∨ j = 86) → cq_I g' x j = cq_I g x j) (e13 : cq_A h' (pe u0) 13 = cq_A h (pe u0) 13) (fu : FU x (pe u0) u0 h' g') : FX c x n pe ro pa lb tp rd en op ob T Lf h' g' := by
  have fu0 := F.fu u0 hu.1 hu.2
  have nP : ∀ {a k : Nat}, cq_s h a = k → (k ≠ 4 ∧ k ≠ 176 ∧ k ≠ 177 ∧ k ≠ 178 ∧ k ≠ 179 ∧ k ≠ 180) → ¬ P a := by
    intro a k q w hp
    have := fu0.cl (hP a hp)
    omega
  have gS : ∀ {s : Int} o j, inS s o j → cq_I g' (x + o) j = cq_I g (x + o) j ∧ cq_J g' (x + o) j = cq_J g (x + o) j := fun {s} o j w => by
    obtain ⟨q1, q2, q3⟩ := inS_r w
    exact eg o j q1 q2 q3 (fun z => by unfold inS at w; unfold inU at z; omega)
  have g29 : ∀ j, cq_I g' (x + 29) j = cq_I g (x + 29) j := fun j => (eg 29 j (by decide) (by decide) (by decide) (fun z => by unfold inU at z; omega)).1
  have g30 : ∀ j, cq_I g' (x + 30) j = cq_I g (x + 30) j := fun j => (eg 30 j (by decide) (by decide) (by decide) (fun z => by unfold inU at z; omega)).1
  have g61 : ∀ j, cq_I g' (x + 61) j = cq_I g (x + 61) j := fun j => (eg 61 j (by decide) (by decide) (by decide) (fun z => by unfold inU at z; omega)).1
  have g62 : ∀ j, cq_I g' (x + 62) j = cq_I g (x + 62) j := fun j => (eg 62 j (by decide) (by decide) (by decide) (fun z => by unfold inU at z; omega)).1
  have g63 : ∀ j, cq_I g' (x + 63) j = cq_I g (x + 63) j := fun j => (eg 63 j (by decide) (by decide) (by decide) (fun z => by unfold inU at z; omega)).1
  have g65 : ∀ j, cq_I g' (x + 65) j = cq_I g (x + 65) j := fun j => (eg 65 j (by decide) (by decide) (by decide) (fun z => by unfold inU at z; omega)).1
  have e72 := ex 72 (by omega)
  have eA := e.A F.fs.s0 rfl (nP F.fs.s0 (by decide))
  refine ⟨F.fs.ex e (nP F.fs.s0 (by decide)) (nP F.fs.s1 (by decide)) (nP F.fs.s2 (by decide)) (fun j w => ex j (by omega)) g61 g65, F.n26, by rw [ex 0 (by omega)]; exact F.nn, by rw [eA]; exact F.a0, e.s F.s0 (by decide), by rw [eA]; exact F.a1, e.s F.s1 (by decide), by rw [eA]; exact F.a12, e.s F.s12 (by decide), by rw [eA]; exact F.a13, e.s F.s13 (by decide), by rw [e.A F.s13 rfl (nP F.s13 (by decide))]; exact F.aob, e.s F.sob (by decide), fun u u0 u1 => ?_, fun u v0 v1 => ?_, fun u v u0 u1 v0 v1 => ?_, fun u v0 v1 => ?_, fun u v u0 u1 v0 v1 => ?_, by rw [e72]; exact F.l80, fun l l0 l1 => ?_, by rw [e72]; exact F.li, F.pi, F.ri, ?_⟩
  · rw [e.A F.s0 rfl (nP F.s0 (by decide))]
    exact F.pa_ u u0 u1
  · have r := F.r13 u v0 v1
    by_cases w : u = u0
    · rw [w, e13]
      rw [w] at r
      exact ⟨r.1, e.s r.2 (by decide)⟩
    · have f := F.fu u v0 v1
      rw [e.A f.s0 rfl (fun z => f.ne fu0 (F.pi u u0 v0 v1 hu.1 hu.2 w) (Or.inl rfl) (hP _ z))]
      exact ⟨r.1, e.s r.2 (by decide)⟩
  · have r := F.r13 u u0 u1
    rw [e.A r.2 rfl (nP r.2 (by decide))]
    exact F.ra u v u0 u1 v0 v1
  · by_cases w : u = u0
    · rw [w]; exact fu
    · have f := F.fu u v0 v1
      have ne := F.pi u u0 v0 v1 hu.1 hu.2 w
      have nn : ∀ {a : Nat}, ucl (pe u) a → ¬ P a := fun q z => f.ne fu0 ne q (hP _ z)
      refine f.ex e (nn (Or.inl rfl)) (nn (Or.inr (Or.inl rfl))) (nn (Or.inr (Or.inr (Or.inl rfl)))) (nn (Or.inr (Or.inr (Or.inr (Or.inl rfl))))) (nn (Or.inr (Or.inr (Or.inr (Or.inr (Or.inl rfl)))))) (nn (Or.inr (Or.inr (Or.inr (Or.inr (Or.inr rfl)))))) (fun o j z => ?_)
      obtain ⟨q1, q2, q3⟩ := inU_r z
      exact eg o j q1 q2 q3 (fun z2 => by unfold inU at z z2; omega)
  · have fo := F.fo u v u0 u1 v0 v1
    refine fo.ex e (nP fo.s0 (by decide)) (nP fo.s1 (by decide)) (fun j => g29 _) (g30 _) (fun i i0 i1 => ?_)
    have sr := fo.ss i i0 i1
    exact sr.ex e (nP sr.s0 (by decide)) (nP sr.s1 (by decide)) (nP sr.s2 (by decide)) (nP sr.s3 (by decide)) (nP sr.s4 (by decide)) gS
  · rw [e72] at l1
    obtain ⟨f1, f2⟩ := F.fl l l0 l1
    rw [e.A F.s1 rfl (nP F.s1 (by decide))]
    exact ⟨f1, f2.ex e (nP f2.s0 (by decide)) (nP f2.s1 (by decide)) (g63 l) (fun k _ _ => g62 _)⟩
  · intro u v u' v' i j u0 u1 v0 v1 u0' u1' v0' v1' i0 i1 j0 j1
    rw [g30] at i1 j1
    rw [g29, g29]
    exact F.ti u v u' v' i j u0 u1 v0 v1 u0' u1' v0' v1' i0 i1 j0 j1
/-- what the reference's lending writes -/
theorem lend_I {u : Int} {o : Nat} {j : Int} (ho : 1 ≤ o) : cq_I (m_lend g x u) (x + o) j = if o = 12 ∧ j = u then cq_I g (x + 12) u + 1 + 1 else if o = 16 ∧ j = u then cq_I g (x + 16) u + 1 else cq_I g (x + o) j := by
  unfold m_lend m_lend3 m_lend2 m_lend1 m_draw
  simp only [mm_sI, mm_sJ, mm_sA, mm_IJ, mm_IA, mm_JI, mm_JA, mm_AI, mm_AJ, mm_ssI, mm_ssJ, mm_ssA, mm_zI, mm_zJ, mm_zA, mm_nI, mm_nJ, mm_nA, Nat.left_eq_add, Nat.add_eq_left, Nat.add_left_cancel_iff, Nat.reduceEqDiff, Int.reduceEq, false_and, and_false, if_false, if_true, and_self, true_and, true_or, or_true, false_or, or_false]
  by_cases w : o = 12 ∧ j = u
  · rw [if_pos w, if_pos w]
  · simp only [w, if_false]
theorem lend_x {u j : Int} : cq_I (m_lend g x u) x j = cq_I g x j := by
  unfold m_lend m_lend3 m_lend2 m_lend1 m_draw
  simp only [mm_sI, mm_sJ, mm_sA, mm_IJ, mm_IA, mm_JI, mm_JA, mm_AI, mm_AJ, mm_ssI, mm_ssJ, mm_ssA, mm_zI, mm_zJ, mm_zA, mm_nI, mm_nJ, mm_nA, Nat.left_eq_add, Nat.add_eq_left, Nat.add_left_cancel_iff, Nat.reduceEqDiff, Int.reduceEq, false_and, and_false, if_false, if_true, and_self, true_and, true_or, or_true, false_or, or_false]
theorem lend_J {u : Int} {o : Nat} {j : Int} (ho : 1 ≤ o) : cq_J (m_lend g x u) (x + o) j = if o = 22 ∧ j = u then seP (dV (cq_J g (x + 1) u) (cq_I g (x + 12) u + 1)) (dO (cq_J g (x + 1) u) (cq_I g (x + 12) u + 1)) (dO (cq_J g (x + 1) u) (cq_I g (x + 12) u)) (cq_J g (x + 13) u) else if o = 21 ∧ j = u then dO (cq_J g (x + 1) u) (cq_I g (x + 12) u + 1) else if o = 20 ∧ j = u then dO (cq_J g (x + 1) u) (cq_I g (x + 12) u) else if o = 18 ∧ j = 21 * u + (cq_I g (x + 16) u + 1) then dO (cq_J g (x + 1) u) (cq_I g (x + 12) u) else if o = 17 ∧ j = 21 * u + (cq_I g (x + 16) u + 1) then dV (cq_J g (x + 1) u) (cq_I g (x + 12) u) else cq_J g (x + o) j := by
  have o0 : ¬ o = 0 := by omega
  unfold m_lend m_lend3 m_lend2 m_lend1 m_draw seP dO dV
  simp only [mm_sI, mm_sJ, mm_sA, mm_IJ, mm_IA, mm_JI, mm_JA, mm_AI, mm_AJ, mm_ssI, mm_ssJ, mm_ssA, mm_zI, mm_zJ, mm_zA, mm_nI, mm_nJ, mm_nA, Nat.left_eq_add, Nat.add_eq_left, Nat.add_left_cancel_iff, Nat.reduceEqDiff, Int.reduceEq, false_and, and_false, if_false, if_true, and_self, true_and, true_or, or_true, false_or, or_false, o0]
theorem lend_Io {u : Int} {o : Nat} {j : Int} (ho : 1 ≤ o) (h1 : o ≠ 12) (h2 : o ≠ 16) : cq_I (m_lend g x u) (x + o) j = cq_I g (x + o) j := by
  rw [lend_I ho, if_neg (fun z => h1 z.1), if_neg (fun z => h2 z.1)]
theorem lend_Jo {u : Int} {o : Nat} {j : Int} (ho : 1 ≤ o) (h1 : o ≠ 17 ∧ o ≠ 18 ∧ o ≠ 20 ∧ o ≠ 21 ∧ o ≠ 22) : cq_J (m_lend g x u) (x + o) j = cq_J g (x + o) j := by
  rw [lend_J ho, if_neg (fun z => h1.2.2.2.2 z.1), if_neg (fun z => h1.2.2.2.1 z.1), if_neg (fun z => h1.2.2.1 z.1), if_neg (fun z => h1.2.1 z.1), if_neg (fun z => h1.1 z.1)]
end
