/-! what the reference does when a letter comes keeps its invariant: the rows -/
section
variable {x : Nat} {n L Q D : Int} {U V : Int → Int} {h0 h : cx_Q}
theorem MI.clQ (M : MI x n L Q D U V h0 h) {l u r : Int} (hR : rdI x h l) (hA : m_clA h x l r = 0) : MI x n L Q (D + 1) U V h0 (m_clQ h x l u r) := by
  have hi : m_clI h x l r ≠ -2 := by
    intro e
    unfold m_clA at hA
    have a30 := M.r30 r
    by_cases c : cq_I h (x + 30) r = 0
    · rw [if_pos c] at hA; omega
    rw [if_neg c, if_pos e] at hA
    unfold m_clI at e
    obtain ⟨k, hk⟩ : ∃ k : Nat, (cq_I h (x + 30) r).toNat = k + 1 := ⟨(cq_I h (x + 30) r).toNat - 1, by omega⟩
    rw [hk, m_ci, if_pos hA] at e
    omega
  have hf : m_clF h x l r (m_clI h x l r) = 0 := by
    rcases m_ci_rg (f := m_clF h x l r) (n := (cq_I h (x + 30) r).toNat) (k := 0) with q | q
    · exact absurd q hi
    · exact q.2.2
  unfold m_clQ
  unfold m_clF at hf
  exact MI.front (MI.openQ M hR hf)
theorem MI.cfD (M : MI x n L Q D U V h0 h) {u s ln on : Int} {e : Int64} (h85 : cq_I h x 85 ≠ 100) : MI x n L (Q + 1) D U V h0 (m_cfD h x u s ln on e) := by
  have a85 := M.x85
  have a58 := M.r58 u
  have M := M.up (Q' := Q + 1) (by omega) (Int.le_refl _)
  have N : MI x n L (Q + 1) D U V h0 (m_cfN h x u s ln e) := by
    unfold m_cfN
    (repeat' (first | with_reducible assumption | with_reducible refine MI.sJx ?_ | with_reducible refine MI.sJ ?_ (by decide) | with_reducible refine MI.sx ?_ ?_ (by decide) | with_reducible refine MI.sI ?_ ?_ (by decide) (by decide) | with_reducible refine MI.draw ?_)) <;> (try first | exact True.intro | exact ⟨by omega, by omega⟩)
  unfold m_cfD
  split
  · exact N
  · exact MI.sI N (o := 28) (v := 0) True.intro (by decide) (by decide)
theorem MI.cfS (M : MI x n L Q D U V h0 h) {s ln on own : Int} {e : Int64} : MI x n L Q D U V h0 (m_cfS h x s ln on own e) := by
  unfold m_cfS
  (repeat' (first | with_reducible assumption | with_reducible refine MI.sJx ?_ | with_reducible refine MI.sJ ?_ (by decide) | with_reducible refine MI.sx ?_ ?_ (by decide) | with_reducible refine MI.sI ?_ ?_ (by decide) (by decide) | with_reducible refine MI.draw ?_)) <;> (try first | exact True.intro | exact ⟨by omega, by omega⟩)
theorem clear_x {s j : Int} : cq_I (m_clear h x s) x j = cq_I h x j := by
  unfold m_clear
  simp only [mm_sI, mm_sJ, mm_sA, mm_IJ, mm_IA, mm_JI, mm_JA, mm_AI, mm_AJ, mm_ssI, mm_ssJ, mm_ssA, mm_zI, mm_zJ, mm_zA, mm_nI, mm_nJ, mm_nA, Nat.left_eq_add, Nat.add_eq_left, Nat.add_left_cancel_iff, Nat.reduceEqDiff, Int.reduceEq, false_and, and_false, if_false, if_true, and_self, true_and, true_or, or_true, false_or, or_false]
theorem MI.cfG {u r ln on : Int} {e root : Int64} (M1 : MI x n L Q D U V h0 (m_newS h x r)) (e1 : ∀ j, cq_I (m_newS h x r) x j = cq_I h x j) (hQ : 0 ≤ Q) : MI x n L Q D U V h0 (m_cfG h x u r ln on e root) ∧ ∀ j, cq_I (m_cfG h x u r ln on e root) x j = cq_I h x j := by
  unfold m_cfG
  generalize m_slotN h x r = s
  generalize m_newS h x r = g at M1 e1 ⊢
  have M2 := MI.clear M1 (s := s) hQ
  have e2 : ∀ j, cq_I (m_clear g x s) x j = cq_I h x j := fun j => clear_x.trans (e1 j)
  generalize m_clear g x s = g2 at M2 e2 ⊢
  refine ⟨MI.cfS (MI.sJ M2 (by decide)), fun j => ?_⟩
  rw [cfS_x, mm_IJ]
  exact e2 j
theorem MI.cfQ0 (M : MI x n L Q D U V h0 h) {l u v ln on : Int} {who e : Int64} (hQ : 0 ≤ Q) (hu : 0 ≤ u ∧ u < 6) (hv : 0 ≤ v ∧ v < 6) (hR : rdI x h l) (hA : m_cfA1 h x l u ln on who e = 0) : MI x n L (Q + 1) (D + 1) U V h0 (m_cfQ0 h x u v ln on who e) := by
  have M1 := MI.newS M (r := 6 * u + v) (by omega)
  unfold m_cfA1 at hA
  by_cases c1 : ln < 1 ∨ cq_I h (x + 16) u < ln ∨ ln < cq_I h (x + 16) u - 1
  · rw [if_pos c1] at hA; exact absurd hA (by decide)
  rw [if_neg c1] at hA
  by_cases c2 : m_cfH h x u ln e ≠ -2
  · rw [if_pos c2] at hA; exact absurd hA (by decide)
  rw [if_neg c2] at hA
  unfold m_cfA2 at hA
  by_cases c3 : on ≠ 0 ∧ (cq_I h (x + 23) u < on ∨ cq_I h (x + 28) (61 * u + on) = 0)
  · rw [if_pos c3] at hA; exact absurd hA (by decide)
  rw [if_neg c3] at hA
  by_cases c4 : cq_I h x 85 = 100
  · rw [if_pos c4] at hA; exact absurd hA (by decide)
  rw [if_neg c4] at hA
  by_cases c5 : 10 < cq_I h x 81
  · rw [if_pos c5] at hA; exact absurd hA (by decide)
  rw [if_neg c5] at hA
  have hR' := hR
  obtain ⟨r1, r2, r3, r4, r5, r6, r7, r8⟩ := hR'
  unfold m_cfQ0
  generalize m_cfR h x u ln on who e = root at hA ⊢
  have hO0 : m_openA (m_cfG h x u (6 * u + v) ln on e root) x l (m_slotN h x (6 * u + v)) = 0 := by
    unfold m_cfG
    refine cfG_0 (k := m_cfK h x u ln root) ?_ ?_ ?_
    · rw [m_newS_x]; exact ⟨r8.1, Int.not_lt.mp c5⟩
    · unfold m_cfK m_cfC
      rw [m_newS_x, m_newS_J]
    · rw [← hA]
      unfold m_tg m_bytes
      have i62 : cq_I (m_newS h x (6 * u + v)) (x + 62) = cq_I h (x + 62) := funext fun j => m_newS_I (by decide) (by decide)
      rw [i62, m_newS_x, m_newS_x]
  generalize m_slotN h x (6 * u + v) = s at hO0 ⊢
  clear hA c2 c1 c3
  have e1 := fun j => m_newS_x (h := h) (x := x) (r := 6 * u + v) (j := j)
  have M2 : MI x n L Q D U V h0 (m_cfG h x u (6 * u + v) ln on e root) ∧ ∀ j, cq_I (m_cfG h x u (6 * u + v) ln on e root) x j = cq_I h x j := MI.cfG M1 e1 hQ
  generalize m_cfG h x u (6 * u + v) ln on e root = G at M2 hO0 ⊢
  have hRG : rdI x G l := by
    unfold rdI
    simp only [M2.2]
    exact hR
  have M3 := MI.openQ M2.1 (u := u) hRG hO0
  have e85 : cq_I (m_openQ G x u s) x 85 = cq_I h x 85 := (openQ_x (h := G) (x := x) (u := u) (s := s) (j := 85) (by decide)).trans (M2.2 85)
  generalize m_openQ G x u s = G3 at M3 e85 ⊢
  exact MI.cfD M3 (fun q => c4 (e85.symm.trans q))
theorem MI.cfQ (M : MI x n L Q D U V h0 h) {l u v : Int} (hQ : 0 ≤ Q) (hu : 0 ≤ u ∧ u < 6) (hv : 0 ≤ v ∧ v < 6) (hR : rdI x h l) (hA : m_cfA h x l u (6 * u + v) = 0) : MI x n L (Q + 1) (D + 1) U V h0 (m_cfQ h x u v) := by
  unfold m_cfA m_cfA0 at hA
  unfold m_cfQ m_cfQ1
  generalize (m_bytes h x 19 2).toInt32.toInt = ln at hA ⊢
  generalize (m_bytes h x 21 2).toInt32.toInt = on at hA ⊢
  generalize m_bytes h x 3 8 = who at hA ⊢
  generalize m_bytes h x 11 8 = e at hA ⊢
  by_cases c : m_cfI h x (6 * u + v) e = -2
  · rw [if_pos c] at hA
    rw [if_pos c]
    exact MI.cfQ0 M hQ hu hv hR hA
  · rw [if_neg c] at hA
    rw [if_neg c]
    exact (MI.front (MI.openQ M hR hA)).up (by omega) (Int.le_refl _)
theorem MI.eL {g : cx_Q} (M : MI x n L Q D U V h0 h) (e : eL x h g) : MI x n L Q D U V h0 g := by
  have fI : ∀ o : Nat, 1 ≤ o → cq_I g (x + o) = cq_I h (x + o) := fun o q => funext fun j => (e.2.2.2.2 (x + o) j (fun w => by omega)).1
  refine ⟨⟨e.1.trans M.1.1, e.2.1.trans M.1.2.1, e.2.2.1.trans M.1.2.2.1, e.2.2.2.1.trans M.1.2.2.2.1, fun a w => ?_⟩, ?_, fun o j q1 q2 => ?_, fun j => ?_, ?_, ?_, ?_, ?_⟩
  · have nt : ∀ j : Int, ¬ (a = x ∧ 77 ≤ j ∧ j ≤ 83) := fun j q => w (by omega)
    exact ⟨(funext fun j => (e.2.2.2.2 a j (nt j)).1).trans (M.1.2.2.2.2 a w).1, (funext fun j => (e.2.2.2.2 a j (nt j)).2).trans (M.1.2.2.2.2 a w).2⟩
  · have := M.2.1
    unfold CRatchetPostLaw_law_r3677_28c36a.rS at this ⊢
    rw [e.2.1, e.2.2.1, e.2.2.2.1]
    exact this
  · rw [fI o q1]
    exact M.2.2.1 o j q1 q2
  · by_cases w : 77 ≤ j ∧ j ≤ 83
    · unfold rX
      rw [if_neg (by omega), if_neg (by omega), if_neg (by omega), if_neg (by omega), if_neg (by omega), if_neg (by omega), if_neg (by omega)]
      trivial
    · rw [(e.2.2.2.2 x j (fun q => w q.2)).1]
      exact M.2.2.2.1 j
  · rw [fI 11 (by decide)]; exact M.2.2.2.2.1
  · rw [fI 16 (by decide)]; exact M.2.2.2.2.2.1
  · rw [(e.2.2.2.2 x 0 (fun q => by omega)).1]; exact M.2.2.2.2.2.2.1
  · rw [(e.2.2.2.2 x 86 (fun q => by omega)).1]; exact M.2.2.2.2.2.2.2
theorem MI.rl (M : MI x n L Q D U V h0 h) {l : Int} : MI x n L Q D U V h0 (m_rl h x l) := by
  unfold m_rl m_rl4 m_rl3 m_rl1
  (repeat' (first | with_reducible assumption | with_reducible refine MI.sJx ?_ | with_reducible refine MI.sJ ?_ (by decide) | with_reducible refine MI.sx ?_ ?_ (by decide) | with_reducible refine MI.sI ?_ ?_ (by decide) (by decide) | with_reducible refine MI.draw ?_)) <;> (try first | exact True.intro | exact ⟨by omega, by omega⟩)
theorem rl_rdI (M : MI x n L Q D U V h0 h) {l u : Int} (hl : 0 ≤ l ∧ l < 80) (hk : m_rlOk h x l u) : rdI x (m_rl h x l) l := by
  obtain ⟨k1, k2, k3, k4, k5⟩ := hk
  have z := M.r63 l
  have hd : 0 ≤ m_hd h x l ∧ m_hd h x l ≤ 23 := by
    unfold m_hd
    split <;> omega
  have M3 : MI x n L Q D U V h0 (m_rl3 h x l) := by
    unfold m_rl3 m_rl1
    (repeat' (first | with_reducible assumption | with_reducible refine MI.sJx ?_ | with_reducible refine MI.sJ ?_ (by decide) | with_reducible refine MI.sx ?_ ?_ (by decide) | with_reducible refine MI.sI ?_ ?_ (by decide) (by decide) | with_reducible refine MI.draw ?_)) <;> (try first | exact True.intro | exact ⟨by omega, by omega⟩)
  have b1 := m_bytes_2r (h := m_rl3 h x l) (x := x) (p := m_hd h x l + 8) M3.r62
  have b2 := m_bytes_2r (h := m_rl3 h x l) (x := x) (p := m_hd h x l + 10) M3.r62
  unfold m_rl m_rl4
  generalize (m_bytes (m_rl3 h x l) x (m_hd h x l + 8) 2).toInt32.toInt = p1 at b1 ⊢
  generalize (m_bytes (m_rl3 h x l) x (m_hd h x l + 10) 2).toInt32.toInt = p2 at b2 ⊢
  generalize m_bytes (m_rl3 h x l) x (m_hd h x l) 8 = p3
  unfold rdI m_rl3 m_rl1
  simp only [mm_sI, mm_sJ, mm_sA, mm_IJ, mm_IA, mm_JI, mm_JA, mm_AI, mm_AJ, mm_ssI, mm_ssJ, mm_ssA, mm_zI, mm_zJ, mm_zA, mm_nI, mm_nJ, mm_nA, Nat.left_eq_add, Nat.add_eq_left, Nat.add_left_cancel_iff, Nat.reduceEqDiff, Int.reduceEq, false_and, and_false, if_false, if_true, and_self, true_and, true_or, or_true, false_or, or_false]
  generalize m_hd h x l = d at hd k2 k3 k4 ⊢
  refine ⟨hl, ?_, ?_, ?_, ?_, ?_, ?_, ?_⟩
  all_goals omega
end
