/-! the reference, exactly: a letter is opened behind a TURN -/
def TU (x : Nat) (s u : Int) (X V O : Int64) (g g' : cx_Q) : Prop := (∀ j, cq_I g' x j = cq_I g x j) ∧ (∀ o j, 1 ≤ o → ¬ ((o = 33 ∨ o = 35 ∨ o = 39 ∨ o = 40 ∨ o = 41 ∨ o = 42) ∧ j = s) → ¬ (o = 12 ∧ j = u) → cq_I g' (x + o) j = cq_I g (x + o) j) ∧ (∀ o j, 1 ≤ o → ¬ ((o = 31 ∨ o = 32 ∨ o = 34 ∨ o = 36 ∨ o = 37 ∨ o = 38) ∧ j = s) → cq_J g' (x + o) j = cq_J g (x + o) j) ∧ (cq_I g' (x + 12) u = cq_I g (x + 12) u + 1) ∧ (cq_I g' (x + 33) s = 1) ∧ (cq_I g' (x + 35) s = 1) ∧ (cq_I g' (x + 39) s = 1) ∧ (cq_I g' (x + 40) s = 0) ∧ (cq_I g' (x + 41) s = 0) ∧ (cq_I g' (x + 42) s = cq_I g (x + 40) s) ∧ (cq_J g' (x + 31) s = f_key 1 (f_key 1 (cq_J g (x + 31) s) X) (f_common V (cq_J g x 79))) ∧ (cq_J g' (x + 32) s = f_key 2 (f_key 1 (cq_J g (x + 31) s) X) (f_common V (cq_J g x 79))) ∧ (cq_J g' (x + 34) s = f_key 2 (cq_J g (x + 31) s) X) ∧ (cq_J g' (x + 36) s = V) ∧ (cq_J g' (x + 37) s = O) ∧ (cq_J g' (x + 38) s = cq_J g x 79)
theorem TU.x_ {x : Nat} {s u : Int} {X V O : Int64} {g g' : cx_Q} (F_ : TU x s u X V O g g') : ∀ j, cq_I g' x j = cq_I g x j := F_.1
theorem TU.I_ {x : Nat} {s u : Int} {X V O : Int64} {g g' : cx_Q} (F_ : TU x s u X V O g g') : ∀ o j, 1 ≤ o → ¬ ((o = 33 ∨ o = 35 ∨ o = 39 ∨ o = 40 ∨ o = 41 ∨ o = 42) ∧ j = s) → ¬ (o = 12 ∧ j = u) → cq_I g' (x + o) j = cq_I g (x + o) j := F_.2.1
theorem TU.J_ {x : Nat} {s u : Int} {X V O : Int64} {g g' : cx_Q} (F_ : TU x s u X V O g g') : ∀ o j, 1 ≤ o → ¬ ((o = 31 ∨ o = 32 ∨ o = 34 ∨ o = 36 ∨ o = 37 ∨ o = 38) ∧ j = s) → cq_J g' (x + o) j = cq_J g (x + o) j := F_.2.2.1
theorem TU.i12 {x : Nat} {s u : Int} {X V O : Int64} {g g' : cx_Q} (F_ : TU x s u X V O g g') : cq_I g' (x + 12) u = cq_I g (x + 12) u + 1 := F_.2.2.2.1
theorem TU.i33 {x : Nat} {s u : Int} {X V O : Int64} {g g' : cx_Q} (F_ : TU x s u X V O g g') : cq_I g' (x + 33) s = 1 := F_.2.2.2.2.1
theorem TU.i35 {x : Nat} {s u : Int} {X V O : Int64} {g g' : cx_Q} (F_ : TU x s u X V O g g') : cq_I g' (x + 35) s = 1 := F_.2.2.2.2.2.1
theorem TU.i39 {x : Nat} {s u : Int} {X V O : Int64} {g g' : cx_Q} (F_ : TU x s u X V O g g') : cq_I g' (x + 39) s = 1 := F_.2.2.2.2.2.2.1
theorem TU.i40 {x : Nat} {s u : Int} {X V O : Int64} {g g' : cx_Q} (F_ : TU x s u X V O g g') : cq_I g' (x + 40) s = 0 := F_.2.2.2.2.2.2.2.1
theorem TU.i41 {x : Nat} {s u : Int} {X V O : Int64} {g g' : cx_Q} (F_ : TU x s u X V O g g') : cq_I g' (x + 41) s = 0 := F_.2.2.2.2.2.2.2.2.1
theorem TU.i42 {x : Nat} {s u : Int} {X V O : Int64} {g g' : cx_Q} (F_ : TU x s u X V O g g') : cq_I g' (x + 42) s = cq_I g (x + 40) s := F_.2.2.2.2.2.2.2.2.2.1
theorem TU.j31 {x : Nat} {s u : Int} {X V O : Int64} {g g' : cx_Q} (F_ : TU x s u X V O g g') : cq_J g' (x + 31) s = f_key 1 (f_key 1 (cq_J g (x + 31) s) X) (f_common V (cq_J g x 79)) := F_.2.2.2.2.2.2.2.2.2.2.1
theorem TU.j32 {x : Nat} {s u : Int} {X V O : Int64} {g g' : cx_Q} (F_ : TU x s u X V O g g') : cq_J g' (x + 32) s = f_key 2 (f_key 1 (cq_J g (x + 31) s) X) (f_common V (cq_J g x 79)) := F_.2.2.2.2.2.2.2.2.2.2.2.1
theorem TU.j34 {x : Nat} {s u : Int} {X V O : Int64} {g g' : cx_Q} (F_ : TU x s u X V O g g') : cq_J g' (x + 34) s = f_key 2 (cq_J g (x + 31) s) X := F_.2.2.2.2.2.2.2.2.2.2.2.2.1
theorem TU.j36 {x : Nat} {s u : Int} {X V O : Int64} {g g' : cx_Q} (F_ : TU x s u X V O g g') : cq_J g' (x + 36) s = V := F_.2.2.2.2.2.2.2.2.2.2.2.2.2.1
theorem TU.j37 {x : Nat} {s u : Int} {X V O : Int64} {g g' : cx_Q} (F_ : TU x s u X V O g g') : cq_J g' (x + 37) s = O := F_.2.2.2.2.2.2.2.2.2.2.2.2.2.2.1
theorem TU.j38 {x : Nat} {s u : Int} {X V O : Int64} {g g' : cx_Q} (F_ : TU x s u X V O g g') : cq_J g' (x + 38) s = cq_J g x 79 := F_.2.2.2.2.2.2.2.2.2.2.2.2.2.2.2
section
variable {x : Nat} {s u : Int} {g : cx_Q} {k X : Int64}
theorem turn_q : TU x s u X (dV (cq_J g (x + 1) u) (cq_I g (x + 12) u)) (dO (cq_J g (x + 1) u) (cq_I g (x + 12) u)) g (m_turn g x u s X) := by
  -- before the draw
  have a_x : ∀ j, cq_I (m_turn2 (m_turn1 g x s) x s X) x j = cq_I g x j := fun j => by
    unfold m_turn2 m_turn1
    simp only [mm_sI, mm_sJ, mm_sA, mm_IJ, mm_IA, mm_JI, mm_JA, mm_AI, mm_AJ, mm_ssI, mm_ssJ, mm_ssA, mm_zI, mm_zJ, mm_zA, mm_nI, mm_nJ, mm_nA, Nat.left_eq_add, Nat.add_eq_left, Nat.add_left_cancel_iff, Nat.reduceEqDiff, Int.reduceEq, false_and, and_false, if_false, if_true, and_self, true_and, true_or, or_true, false_or, or_false]
  have a_I : ∀ o j, 1 ≤ o → cq_I (m_turn2 (m_turn1 g x s) x s X) (x + o) j = if o = 35 ∧ j = s then 1 else if o = 39 ∧ j = s then 1 else if o = 41 ∧ j = s then 0 else if o = 40 ∧ j = s then 0 else if o = 42 ∧ j = s then cq_I g (x + 40) s else cq_I g (x + o) j := fun o j _ => by
    unfold m_turn2 m_turn1
    simp only [mm_sI, mm_sJ, mm_sA, mm_IJ, mm_IA, mm_JI, mm_JA, mm_AI, mm_AJ, mm_ssI, mm_ssJ, mm_ssA, mm_zI, mm_zJ, mm_zA, mm_nI, mm_nJ, mm_nA, Nat.add_left_cancel_iff]
  have a_J : ∀ o j, 1 ≤ o → cq_J (m_turn2 (m_turn1 g x s) x s X) (x + o) j = if o = 31 ∧ j = s then f_key 1 (cq_J g (x + 31) s) X else if o = 34 ∧ j = s then f_key 2 (cq_J g (x + 31) s) X else if o = 38 ∧ j = s then cq_J g x 79 else cq_J g (x + o) j := fun o j _ => by
    unfold m_turn2 m_turn1
    simp only [mm_sI, mm_sJ, mm_sA, mm_IJ, mm_IA, mm_JI, mm_JA, mm_AI, mm_AJ, mm_ssI, mm_ssJ, mm_ssA, mm_zI, mm_zJ, mm_zA, mm_nI, mm_nJ, mm_nA, Nat.add_left_cancel_iff, Nat.reduceEqDiff, false_and, if_false]
  unfold m_turn
  generalize m_turn2 (m_turn1 g x s) x s X = g1 at a_x a_I a_J ⊢
  have D := draw_q (x := x) (u := u) (g := g1)
  have d3 := draw_31 (x := x) (u := u) (g := g1)
  have e1 : cq_J g1 (x + 1) u = cq_J g (x + 1) u := by rw [a_J 1 u (by decide), if_neg (by omega), if_neg (by omega), if_neg (by omega)]
  have e12 : cq_I g1 (x + 12) u = cq_I g (x + 12) u := by rw [a_I 12 u (by decide), if_neg (by omega), if_neg (by omega), if_neg (by omega), if_neg (by omega), if_neg (by omega)]
  rw [e1, e12] at d3
  have D12 := D.i12
  rw [e12] at D12
  generalize dV (cq_J g (x + 1) u) (cq_I g (x + 12) u) = V at d3 ⊢
  generalize dO (cq_J g (x + 1) u) (cq_I g (x + 12) u) = O at d3 ⊢
  generalize m_draw g1 x u = g2 at D d3 D12 ⊢
  -- behind it
  have b_x : ∀ j, cq_I (m_turnS (m_turn3 g2 x s) x s) x j = cq_I g2 x j := fun j => by
    unfold m_turnS m_turn3
    simp only [mm_sI, mm_sJ, mm_sA, mm_IJ, mm_IA, mm_JI, mm_JA, mm_AI, mm_AJ, mm_ssI, mm_ssJ, mm_ssA, mm_zI, mm_zJ, mm_zA, mm_nI, mm_nJ, mm_nA, Nat.left_eq_add, Nat.add_eq_left, Nat.add_left_cancel_iff, Nat.reduceEqDiff, Int.reduceEq, false_and, and_false, if_false, if_true, and_self, true_and, true_or, or_true, false_or, or_false]
  have b_I : ∀ o j, 1 ≤ o → cq_I (m_turnS (m_turn3 g2 x s) x s) (x + o) j = if o = 33 ∧ j = s then 1 else cq_I g2 (x + o) j := fun o j _ => by
    unfold m_turnS m_turn3
    simp only [mm_sI, mm_sJ, mm_sA, mm_IJ, mm_IA, mm_JI, mm_JA, mm_AI, mm_AJ, mm_ssI, mm_ssJ, mm_ssA, mm_zI, mm_zJ, mm_zA, mm_nI, mm_nJ, mm_nA, Nat.add_left_cancel_iff]
  have b_J : ∀ o j, 1 ≤ o → cq_J (m_turnS (m_turn3 g2 x s) x s) (x + o) j = if o = 31 ∧ j = s then f_key 1 (cq_J g2 (x + 31) s) (f_common V (cq_J g2 (x + 38) s)) else if o = 32 ∧ j = s then f_key 2 (cq_J g2 (x + 31) s) (f_common V (cq_J g2 (x + 38) s)) else if o = 37 ∧ j = s then O else if o = 36 ∧ j = s then V else cq_J g2 (x + o) j := fun o j _ => by
    unfold m_turnS m_turn3
    simp only [mm_sI, mm_sJ, mm_sA, mm_IJ, mm_IA, mm_JI, mm_JA, mm_AI, mm_AJ, mm_ssI, mm_ssJ, mm_ssA, mm_zI, mm_zJ, mm_zA, mm_nI, mm_nJ, mm_nA, Nat.add_left_cancel_iff, Nat.reduceEqDiff, false_and, and_self, if_false, if_true, d3.1, d3.2]
  have c38 : cq_J g2 (x + 38) s = cq_J g x 79 := by rw [D.J_ 38 s (by decide), a_J 38 s (by decide), if_neg (by omega), if_neg (by omega), if_pos ⟨rfl, rfl⟩]
  have c31 : cq_J g2 (x + 31) s = f_key 1 (cq_J g (x + 31) s) X := by rw [D.J_ 31 s (by decide), a_J 31 s (by decide), if_pos ⟨rfl, rfl⟩]
  rw [c38, c31] at b_J
  generalize m_turnS (m_turn3 g2 x s) x s = g3 at b_x b_I b_J ⊢
  have DI : ∀ o j, 1 ≤ o → ¬ (o = 12 ∧ j = u) → cq_I g2 (x + o) j = cq_I g1 (x + o) j := D.I_
  refine ⟨fun j => by rw [b_x, D.x_, a_x], fun o j w1 w2 w3 => ?_, fun o j w1 w2 => ?_, ?_, ?_, ?_, ?_, ?_, ?_, ?_, ?_, ?_, ?_, ?_, ?_, ?_⟩
  · rw [b_I o j w1, if_neg (fun q => w2 ⟨by omega, q.2⟩), DI o j w1 w3, a_I o j w1, if_neg (fun q => w2 ⟨by omega, q.2⟩), if_neg (fun q => w2 ⟨by omega, q.2⟩), if_neg (fun q => w2 ⟨by omega, q.2⟩), if_neg (fun q => w2 ⟨by omega, q.2⟩), if_neg (fun q => w2 ⟨by omega, q.2⟩)]
  · rw [b_J o j w1, if_neg (fun q => w2 ⟨by omega, q.2⟩), if_neg (fun q => w2 ⟨by omega, q.2⟩), if_neg (fun q => w2 ⟨by omega, q.2⟩), if_neg (fun q => w2 ⟨by omega, q.2⟩), D.J_ o j w1, a_J o j w1, if_neg (fun q => w2 ⟨by omega, q.2⟩), if_neg (fun q => w2 ⟨by omega, q.2⟩), if_neg (fun q => w2 ⟨by omega, q.2⟩)]
  · rw [b_I 12 u (by decide), if_neg (by omega), D12]
  · rw [b_I 33 s (by decide), if_pos ⟨rfl, rfl⟩]
  · rw [b_I 35 s (by decide), if_neg (by omega), DI 35 s (by decide) (by omega), a_I 35 s (by decide), if_pos ⟨rfl, rfl⟩]
  · rw [b_I 39 s (by decide), if_neg (by omega), DI 39 s (by decide) (by omega), a_I 39 s (by decide), if_neg (by omega), if_pos ⟨rfl, rfl⟩]
  · rw [b_I 40 s (by decide), if_neg (by omega), DI 40 s (by decide) (by omega), a_I 40 s (by decide), if_neg (by omega), if_neg (by omega), if_neg (by omega), if_pos ⟨rfl, rfl⟩]
  · rw [b_I 41 s (by decide), if_neg (by omega), DI 41 s (by decide) (by omega), a_I 41 s (by decide), if_neg (by omega), if_neg (by omega), if_pos ⟨rfl, rfl⟩]
  · rw [b_I 42 s (by decide), if_neg (by omega), DI 42 s (by decide) (by omega), a_I 42 s (by decide), if_neg (by omega), if_neg (by omega), if_neg (by omega), if_neg (by omega), if_pos ⟨rfl, rfl⟩]
  · rw [b_J 31 s (by decide), if_pos ⟨rfl, rfl⟩]
  · rw [b_J 32 s (by decide), if_neg (by omega), if_pos ⟨rfl, rfl⟩]
  · rw [b_J 34 s (by decide), if_neg (by omega), if_neg (by omega), if_neg (by omega), if_neg (by omega), D.J_ 34 s (by decide), a_J 34 s (by decide), if_neg (by omega), if_pos ⟨rfl, rfl⟩]
  · rw [b_J 36 s (by decide), if_neg (by omega), if_neg (by omega), if_neg (by omega), if_pos ⟨rfl, rfl⟩]
  · rw [b_J 37 s (by decide), if_neg (by omega), if_neg (by omega), if_pos ⟨rfl, rfl⟩]
  · rw [b_J 38 s (by decide), if_neg (by omega), if_neg (by omega), if_neg (by omega), if_neg (by omega), c38]
end
