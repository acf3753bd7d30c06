/-! the reference: a SESSION is begun; a letter is written: from the call on -/
section
variable {x : Nat} {n L Q D : Int} {U V : Int → Int} {h0 h : cx_Q}
theorem MI.bn0 (M : MI x n L Q D U V h0 h) {v : Int} : MI x n L Q D U V h0 (m_bn0 h x v) := by
  unfold m_bn0
  split
  · exact M
  · (repeat' (first | with_reducible assumption | with_reducible refine MI.sJx ?_ | with_reducible refine MI.sJ ?_ (by decide) | with_reducible refine MI.sx ?_ ?_ (by decide) | with_reducible refine MI.sI ?_ ?_ (by decide) (by decide) | with_reducible refine MI.draw ?_)) <;> (try first | exact True.intro | exact ⟨by omega, by omega⟩)
theorem MI.bnC (M : MI x n L Q D U V h0 h) {u v : Int} (h63 : cq_I h x 63 ≠ 100) : MI x n L Q (D + 1) U V h0 (m_bnC h x u v) := by
  have a63 := M.x63
  have M1 := M.bn0 (v := v)
  unfold m_bnC
  generalize m_bn0 h x v = g at M1 ⊢
  (repeat' (first | with_reducible assumption | with_reducible refine MI.sJx ?_ | with_reducible refine MI.sJ ?_ (by decide) | with_reducible refine MI.sx ?_ ?_ (by decide) | with_reducible refine MI.sI ?_ ?_ (by decide) (by decide) | with_reducible refine MI.draw ?_)) <;> (try first | exact True.intro | exact ⟨by omega, by omega⟩)
theorem MI.bn1 (M : MI x n L Q D U V h0 h) {s v k : Int} {R ot eO : Int64} : MI x n L Q D U V h0 (m_bn1 h x s v k R ot eO) := by
  unfold m_bn1
  (repeat' (first | with_reducible assumption | with_reducible refine MI.sJx ?_ | with_reducible refine MI.sJ ?_ (by decide) | with_reducible refine MI.sx ?_ ?_ (by decide) | with_reducible refine MI.sI ?_ ?_ (by decide) (by decide) | with_reducible refine MI.draw ?_)) <;> (try first | exact True.intro | exact ⟨by omega, by omega⟩)
theorem MI.turnS (M : MI x n L Q D U V h0 h) {s : Int} : MI x n L Q D U V h0 (m_turnS h x s) := by
  unfold m_turnS
  (repeat' (first | with_reducible assumption | with_reducible refine MI.sJx ?_ | with_reducible refine MI.sJ ?_ (by decide) | with_reducible refine MI.sx ?_ ?_ (by decide) | with_reducible refine MI.sI ?_ ?_ (by decide) (by decide) | with_reducible refine MI.draw ?_)) <;> (try first | exact True.intro | exact ⟨by omega, by omega⟩)
theorem MI.begin (M : MI x n L Q D U V h0 h) {u v : Int} (hQ : 0 ≤ Q) (hu : 0 ≤ u ∧ u < 6) (hv : 0 ≤ v ∧ v < 6) (h63 : cq_I h x 63 ≠ 100) : MI x n L Q (D + 1 + 1) U V h0 (m_begin h x u v) := by
  have M1 := M.bnC (u := u) (v := v) h63
  unfold m_begin
  generalize m_bnR (m_bnC h x u v) x u v (m_leastOnce h x v) (cq_J h (x + 20) v) = R
  generalize cq_J (m_bnC h x u v) x 32 = e
  generalize cq_J h (x + 20) v = ot
  generalize m_leastOnce h x v = k
  generalize m_bnC h x u v = g at M1 ⊢
  have M2 := M1.newS (r := 6 * u + v) (by omega)
  unfold m_bn2 m_turn3
  generalize m_slotN g x (6 * u + v) = s
  generalize m_newS g x (6 * u + v) = g2 at M2 ⊢
  exact MI.turnS (MI.sJ (MI.sJ (MI.draw (MI.bn1 (MI.clear M2 hQ))) (by decide)) (by decide))
theorem bn0_x {v j : Int} : cq_I (m_bn0 h x v) x j = cq_I h x j := by
  unfold m_bn0
  split
  · rfl
  · rw [mm_sI, if_neg (fun e => by omega)]
theorem begin_x {u v j : Int} (hj : j ≠ 63) : cq_I (m_begin h x u v) x j = cq_I h x j := by
  unfold m_begin m_bn2 m_turn3 m_turnS m_bn1
  simp only [mm_sI, mm_sJ, mm_sA, mm_IJ, mm_IA, mm_JI, mm_JA, mm_AI, mm_AJ, mm_ssI, mm_ssJ, mm_ssA, mm_zI, mm_zJ, mm_zA, mm_nI, mm_nJ, mm_nA, Nat.left_eq_add, Nat.add_eq_left, Nat.add_left_cancel_iff, Nat.reduceEqDiff, Int.reduceEq, false_and, and_false, if_false, if_true, and_self, true_and, true_or, or_true, false_or, or_false, m_draw_I, clear_x, m_newS_x]
  unfold m_bnC
  simp only [m_draw_I, mm_sI, mm_sJ, mm_sA, mm_IJ, mm_IA, mm_JI, mm_JA, mm_AI, mm_AJ, mm_ssI, mm_ssJ, mm_ssA, mm_zI, mm_zJ, mm_zA, mm_nI, mm_nJ, mm_nA, Nat.left_eq_add, Nat.add_eq_left, Nat.add_left_cancel_iff, Nat.reduceEqDiff, Int.reduceEq, false_and, and_false, if_false, if_true, and_self, true_and, true_or, or_true, false_or, or_false]
  rw [if_neg hj]
  exact bn0_x
end
