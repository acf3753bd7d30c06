/-! class and reference side by side: a SESSION is BEGUN, the reference's side -/
/-- what the reference tells behind a SESSION that was BEGUN: s its slot, w its row, k the ONCE key, R the first ROOT, ot the other's number, eO the fresh one -/
def BN (x : Nat) (u v w s k : Int) (R ot eO : Int64) (g g' : cx_Q) : Prop := (∀ j, cq_I g' x j = cq_I g x j) ∧ (∀ o j, 1 ≤ o → ¬ (o = 12 ∧ j = u) → ¬ (o = 30 ∧ j = w) → ¬ (o = 29 ∧ 4 * w ≤ j ∧ j < 4 * w + 4) → ¬ (((31 ≤ o ∧ o ≤ 47) ∨ o = 53) ∧ j = s) → cq_I g' (x + o) j = cq_I g (x + o) j) ∧ (∀ o j, 1 ≤ o → ¬ ((31 ≤ o ∧ o ≤ 47) ∧ j = s) → cq_J g' (x + o) j = cq_J g (x + o) j) ∧ (cq_I g' (x + 12) u = cq_I g (x + 12) u + 1) ∧ (NQ x w s g g') ∧ (cq_J g' (x + 31) s = f_key 1 R (f_common (dV (cq_J g (x + 1) u) (cq_I g (x + 12) u)) ot)) ∧ (cq_J g' (x + 32) s = f_key 2 R (f_common (dV (cq_J g (x + 1) u) (cq_I g (x + 12) u)) ot)) ∧ (cq_I g' (x + 33) s = 1) ∧ (cq_I g' (x + 35) s = 0) ∧ (cq_J g' (x + 36) s = dV (cq_J g (x + 1) u) (cq_I g (x + 12) u)) ∧ (cq_J g' (x + 37) s = dO (cq_J g (x + 1) u) (cq_I g (x + 12) u)) ∧ (cq_J g' (x + 38) s = ot) ∧ (cq_I g' (x + 39) s = 1) ∧ (cq_I g' (x + 40) s = 0) ∧ (cq_I g' (x + 41) s = 0) ∧ (cq_I g' (x + 42) s = 0) ∧ (cq_I g' (x + 43) s = 1) ∧ (cq_I g' (x + 44) s = 1) ∧ (cq_J g' (x + 45) s = eO) ∧ (cq_I g' (x + 46) s = cq_I g (x + 16) v) ∧ (cq_I g' (x + 47) s = k) ∧ (cq_I g' (x + 53) s = 0)
theorem BN.x_ {x : Nat} {u v w s k : Int} {R ot eO : Int64} {g g' : cx_Q} (F_ : BN x u v w s k R ot eO g g') : ∀ j, cq_I g' x j = cq_I g x j := F_.1
theorem BN.I_ {x : Nat} {u v w s k : Int} {R ot eO : Int64} {g g' : cx_Q} (F_ : BN x u v w s k R ot eO g g') : ∀ o j, 1 ≤ o → ¬ (o = 12 ∧ j = u) → ¬ (o = 30 ∧ j = w) → ¬ (o = 29 ∧ 4 * w ≤ j ∧ j < 4 * w + 4) → ¬ (((31 ≤ o ∧ o ≤ 47) ∨ o = 53) ∧ j = s) → cq_I g' (x + o) j = cq_I g (x + o) j := F_.2.1
theorem BN.J_ {x : Nat} {u v w s k : Int} {R ot eO : Int64} {g g' : cx_Q} (F_ : BN x u v w s k R ot eO g g') : ∀ o j, 1 ≤ o → ¬ ((31 ≤ o ∧ o ≤ 47) ∧ j = s) → cq_J g' (x + o) j = cq_J g (x + o) j := F_.2.2.1
theorem BN.i12 {x : Nat} {u v w s k : Int} {R ot eO : Int64} {g g' : cx_Q} (F_ : BN x u v w s k R ot eO g g') : cq_I g' (x + 12) u = cq_I g (x + 12) u + 1 := F_.2.2.2.1
theorem BN.nq {x : Nat} {u v w s k : Int} {R ot eO : Int64} {g g' : cx_Q} (F_ : BN x u v w s k R ot eO g g') : NQ x w s g g' := F_.2.2.2.2.1
theorem BN.j31 {x : Nat} {u v w s k : Int} {R ot eO : Int64} {g g' : cx_Q} (F_ : BN x u v w s k R ot eO g g') : cq_J g' (x + 31) s = f_key 1 R (f_common (dV (cq_J g (x + 1) u) (cq_I g (x + 12) u)) ot) := F_.2.2.2.2.2.1
theorem BN.j32 {x : Nat} {u v w s k : Int} {R ot eO : Int64} {g g' : cx_Q} (F_ : BN x u v w s k R ot eO g g') : cq_J g' (x + 32) s = f_key 2 R (f_common (dV (cq_J g (x + 1) u) (cq_I g (x + 12) u)) ot) := F_.2.2.2.2.2.2.1
theorem BN.i33 {x : Nat} {u v w s k : Int} {R ot eO : Int64} {g g' : cx_Q} (F_ : BN x u v w s k R ot eO g g') : cq_I g' (x + 33) s = 1 := F_.2.2.2.2.2.2.2.1
theorem BN.i35 {x : Nat} {u v w s k : Int} {R ot eO : Int64} {g g' : cx_Q} (F_ : BN x u v w s k R ot eO g g') : cq_I g' (x + 35) s = 0 := F_.2.2.2.2.2.2.2.2.1
theorem BN.j36 {x : Nat} {u v w s k : Int} {R ot eO : Int64} {g g' : cx_Q} (F_ : BN x u v w s k R ot eO g g') : cq_J g' (x + 36) s = dV (cq_J g (x + 1) u) (cq_I g (x + 12) u) := F_.2.2.2.2.2.2.2.2.2.1
theorem BN.j37 {x : Nat} {u v w s k : Int} {R ot eO : Int64} {g g' : cx_Q} (F_ : BN x u v w s k R ot eO g g') : cq_J g' (x + 37) s = dO (cq_J g (x + 1) u) (cq_I g (x + 12) u) := F_.2.2.2.2.2.2.2.2.2.2.1
theorem BN.j38 {x : Nat} {u v w s k : Int} {R ot eO : Int64} {g g' : cx_Q} (F_ : BN x u v w s k R ot eO g g') : cq_J g' (x + 38) s = ot := F_.2.2.2.2.2.2.2.2.2.2.2.1
theorem BN.i39 {x : Nat} {u v w s k : Int} {R ot eO : Int64} {g g' : cx_Q} (F_ : BN x u v w s k R ot eO g g') : cq_I g' (x + 39) s = 1 := F_.2.2.2.2.2.2.2.2.2.2.2.2.1
theorem BN.i40 {x : Nat} {u v w s k : Int} {R ot eO : Int64} {g g' : cx_Q} (F_ : BN x u v w s k R ot eO g g') : cq_I g' (x + 40) s = 0 := F_.2.2.2.2.2.2.2.2.2.2.2.2.2.1
theorem BN.i41 {x : Nat} {u v w s k : Int} {R ot eO : Int64} {g g' : cx_Q} (F_ : BN x u v w s k R ot eO g g') : cq_I g' (x + 41) s = 0 := F_.2.2.2.2.2.2.2.2.2.2.2.2.2.2.1
theorem BN.i42 {x : Nat} {u v w s k : Int} {R ot eO : Int64} {g g' : cx_Q} (F_ : BN x u v w s k R ot eO g g') : cq_I g' (x + 42) s = 0 := F_.2.2.2.2.2.2.2.2.2.2.2.2.2.2.2.1
theorem BN.i43 {x : Nat} {u v w s k : Int} {R ot eO : Int64} {g g' : cx_Q} (F_ : BN x u v w s k R ot eO g g') : cq_I g' (x + 43) s = 1 := F_.2.2.2.2.2.2.2.2.2.2.2.2.2.2.2.2.1
theorem BN.i44 {x : Nat} {u v w s k : Int} {R ot eO : Int64} {g g' : cx_Q} (F_ : BN x u v w s k R ot eO g g') : cq_I g' (x + 44) s = 1 := F_.2.2.2.2.2.2.2.2.2.2.2.2.2.2.2.2.2.1
theorem BN.j45 {x : Nat} {u v w s k : Int} {R ot eO : Int64} {g g' : cx_Q} (F_ : BN x u v w s k R ot eO g g') : cq_J g' (x + 45) s = eO := F_.2.2.2.2.2.2.2.2.2.2.2.2.2.2.2.2.2.2.1
theorem BN.i46 {x : Nat} {u v w s k : Int} {R ot eO : Int64} {g g' : cx_Q} (F_ : BN x u v w s k R ot eO g g') : cq_I g' (x + 46) s = cq_I g (x + 16) v := F_.2.2.2.2.2.2.2.2.2.2.2.2.2.2.2.2.2.2.2.1
theorem BN.i47 {x : Nat} {u v w s k : Int} {R ot eO : Int64} {g g' : cx_Q} (F_ : BN x u v w s k R ot eO g g') : cq_I g' (x + 47) s = k := F_.2.2.2.2.2.2.2.2.2.2.2.2.2.2.2.2.2.2.2.2.1
theorem BN.i53 {x : Nat} {u v w s k : Int} {R ot eO : Int64} {g g' : cx_Q} (F_ : BN x u v w s k R ot eO g g') : cq_I g' (x + 53) s = 0 := F_.2.2.2.2.2.2.2.2.2.2.2.2.2.2.2.2.2.2.2.2.2
theorem bn2_q {x : Nat} {g : cx_Q} {u v k : Int} {R ot eO : Int64} (h4 : 0 ≤ cq_I g (x + 30) (6 * u + v) ∧ cq_I g (x + 30) (6 * u + v) ≤ 4) : BN x u v (6 * u + v) (m_slotN g x (6 * u + v)) k R ot eO g (m_bn2 g x u v k R ot eO) := by
  obtain ⟨q1, q2, q3⟩ := newS_q (x := x) (g := g) (w := 6 * u + v) h4
  unfold m_bn2
  generalize m_newS g x (6 * u + v) = m at q1 q2 q3 ⊢
  generalize m_slotN g x (6 * u + v) = s at q1 ⊢
  have m12 : ∀ j, cq_I m (x + 12) j = cq_I g (x + 12) j := fun j => q2 _ _ (by omega) (by omega)
  have m16 : ∀ j, cq_I m (x + 16) j = cq_I g (x + 16) j := fun j => q2 _ _ (by omega) (by omega)
  have mx : ∀ j, cq_I m x j = cq_I g x j := fun j => q2 _ _ (by omega) (by omega)
  have m1 : ∀ j, cq_J m (x + 1) j = cq_J g (x + 1) j := fun j => by rw [q3]
  refine ⟨fun j => ?_, fun o j ho w1 w2 w3 w4 => ?_, fun o j ho w => ?_, ?_, ⟨?_, fun i i0 i1 => ?_⟩, ?_, ?_, ?_, ?_, ?_, ?_, ?_, ?_, ?_, ?_, ?_, ?_, ?_, ?_, ?_, ?_, ?_⟩
  · unfold m_turnS m_turn3 m_draw m_bn1 m_clear
    simp only [mm_sI, mm_sJ, mm_sA, mm_IJ, mm_IA, mm_JI, mm_JA, mm_AI, mm_AJ, mm_ssI, mm_ssJ, mm_ssA, mm_zI, mm_zJ, mm_zA, mm_nI, mm_nJ, mm_nA, Nat.left_eq_add, Nat.add_eq_left, Nat.add_left_cancel_iff, Nat.reduceEqDiff, Int.reduceEq, false_and, and_false, if_false, if_true, and_self, true_and, true_or, or_true, false_or, or_false]
    exact mx j
  · have e : ∀ o', (31 ≤ o' ∧ o' ≤ 47) ∨ o' = 53 → ¬ (o = o' ∧ j = s) := fun o' z y => w4 ⟨by omega, y.2⟩
    unfold m_turnS m_turn3 m_draw m_bn1 m_clear
    simp only [mm_sI, mm_sJ, mm_sA, mm_IJ, mm_IA, mm_JI, mm_JA, mm_AI, mm_AJ, mm_ssI, mm_ssJ, mm_ssA, mm_zI, mm_zJ, mm_zA, mm_nI, mm_nJ, mm_nA, Nat.left_eq_add, Nat.add_eq_left, Nat.add_left_cancel_iff, Nat.reduceEqDiff, Int.reduceEq, false_and, and_false, if_false, if_true, and_self, true_and, true_or, or_true, false_or, or_false, w1, e 33 (by omega), e 35 (by omega), e 39 (by omega), e 40 (by omega), e 41 (by omega), e 42 (by omega), e 43 (by omega), e 44 (by omega), e 46 (by omega), e 47 (by omega), e 53 (by omega)]
    exact q2 _ _ (fun z => w2 ⟨by omega, z.2⟩) (fun z => w3 ⟨by omega, z.2⟩)
  · have e : ∀ o', (31 ≤ o' ∧ o' ≤ 47) → ¬ (o = o' ∧ j = s) := fun o' z y => w ⟨by omega, y.2⟩
    have o0 : ¬ o = 0 := by omega
    unfold m_turnS m_turn3 m_draw m_bn1 m_clear
    simp only [mm_sI, mm_sJ, mm_sA, mm_IJ, mm_IA, mm_JI, mm_JA, mm_AI, mm_AJ, mm_ssI, mm_ssJ, mm_ssA, mm_zI, mm_zJ, mm_zA, mm_nI, mm_nJ, mm_nA, Nat.left_eq_add, Nat.add_eq_left, Nat.add_left_cancel_iff, Nat.reduceEqDiff, Int.reduceEq, false_and, and_false, if_false, if_true, and_self, true_and, true_or, or_true, false_or, or_false, o0, e 31 (by omega), e 32 (by omega), e 36 (by omega), e 37 (by omega), e 38 (by omega), e 45 (by omega)]
    rw [q3]
  · unfold m_turnS m_turn3 m_draw m_bn1 m_clear
    simp only [mm_sI, mm_sJ, mm_sA, mm_IJ, mm_IA, mm_JI, mm_JA, mm_AI, mm_AJ, mm_ssI, mm_ssJ, mm_ssA, mm_zI, mm_zJ, mm_zA, mm_nI, mm_nJ, mm_nA, Nat.left_eq_add, Nat.add_eq_left, Nat.add_left_cancel_iff, Nat.reduceEqDiff, Int.reduceEq, false_and, and_false, if_false, if_true, and_self, true_and, true_or, or_true, false_or, or_false]
    rw [m12]
  · unfold m_turnS m_turn3 m_draw m_bn1 m_clear
    simp only [mm_sI, mm_sJ, mm_sA, mm_IJ, mm_IA, mm_JI, mm_JA, mm_AI, mm_AJ, mm_ssI, mm_ssJ, mm_ssA, mm_zI, mm_zJ, mm_zA, mm_nI, mm_nJ, mm_nA, Nat.left_eq_add, Nat.add_eq_left, Nat.add_left_cancel_iff, Nat.reduceEqDiff, Int.reduceEq, false_and, and_false, if_false, if_true, and_self, true_and, true_or, or_true, false_or, or_false]
    exact q1.r30
  · unfold m_turnS m_turn3 m_draw m_bn1 m_clear
    simp only [mm_sI, mm_sJ, mm_sA, mm_IJ, mm_IA, mm_JI, mm_JA, mm_AI, mm_AJ, mm_ssI, mm_ssJ, mm_ssA, mm_zI, mm_zJ, mm_zA, mm_nI, mm_nJ, mm_nA, Nat.left_eq_add, Nat.add_eq_left, Nat.add_left_cancel_iff, Nat.reduceEqDiff, Int.reduceEq, false_and, and_false, if_false, if_true, and_self, true_and, true_or, or_true, false_or, or_false]
    exact q1.r29 i i0 i1
  · unfold m_turnS m_turn3 m_draw m_bn1 m_clear dV
    simp only [mm_sI, mm_sJ, mm_sA, mm_IJ, mm_IA, mm_JI, mm_JA, mm_AI, mm_AJ, mm_ssI, mm_ssJ, mm_ssA, mm_zI, mm_zJ, mm_zA, mm_nI, mm_nJ, mm_nA, Nat.left_eq_add, Nat.add_eq_left, Nat.add_left_cancel_iff, Nat.reduceEqDiff, Int.reduceEq, false_and, and_false, if_false, if_true, and_self, true_and, true_or, or_true, false_or, or_false]
    rw [m12, m1]
  · unfold m_turnS m_turn3 m_draw m_bn1 m_clear dV
    simp only [mm_sI, mm_sJ, mm_sA, mm_IJ, mm_IA, mm_JI, mm_JA, mm_AI, mm_AJ, mm_ssI, mm_ssJ, mm_ssA, mm_zI, mm_zJ, mm_zA, mm_nI, mm_nJ, mm_nA, Nat.left_eq_add, Nat.add_eq_left, Nat.add_left_cancel_iff, Nat.reduceEqDiff, Int.reduceEq, false_and, and_false, if_false, if_true, and_self, true_and, true_or, or_true, false_or, or_false]
    rw [m12, m1]
  · unfold m_turnS m_turn3 m_draw m_bn1 m_clear
    simp only [mm_sI, mm_sJ, mm_sA, mm_IJ, mm_IA, mm_JI, mm_JA, mm_AI, mm_AJ, mm_ssI, mm_ssJ, mm_ssA, mm_zI, mm_zJ, mm_zA, mm_nI, mm_nJ, mm_nA, Nat.left_eq_add, Nat.add_eq_left, Nat.add_left_cancel_iff, Nat.reduceEqDiff, Int.reduceEq, false_and, and_false, if_false, if_true, and_self, true_and, true_or, or_true, false_or, or_false]
  · unfold m_turnS m_turn3 m_draw m_bn1 m_clear
    simp only [mm_sI, mm_sJ, mm_sA, mm_IJ, mm_IA, mm_JI, mm_JA, mm_AI, mm_AJ, mm_ssI, mm_ssJ, mm_ssA, mm_zI, mm_zJ, mm_zA, mm_nI, mm_nJ, mm_nA, Nat.left_eq_add, Nat.add_eq_left, Nat.add_left_cancel_iff, Nat.reduceEqDiff, Int.reduceEq, false_and, and_false, if_false, if_true, and_self, true_and, true_or, or_true, false_or, or_false]
  · unfold m_turnS m_turn3 m_draw m_bn1 m_clear dV
    simp only [mm_sI, mm_sJ, mm_sA, mm_IJ, mm_IA, mm_JI, mm_JA, mm_AI, mm_AJ, mm_ssI, mm_ssJ, mm_ssA, mm_zI, mm_zJ, mm_zA, mm_nI, mm_nJ, mm_nA, Nat.left_eq_add, Nat.add_eq_left, Nat.add_left_cancel_iff, Nat.reduceEqDiff, Int.reduceEq, false_and, and_false, if_false, if_true, and_self, true_and, true_or, or_true, false_or, or_false]
    rw [m12, m1]
  · unfold m_turnS m_turn3 m_draw m_bn1 m_clear dO dV
    simp only [mm_sI, mm_sJ, mm_sA, mm_IJ, mm_IA, mm_JI, mm_JA, mm_AI, mm_AJ, mm_ssI, mm_ssJ, mm_ssA, mm_zI, mm_zJ, mm_zA, mm_nI, mm_nJ, mm_nA, Nat.left_eq_add, Nat.add_eq_left, Nat.add_left_cancel_iff, Nat.reduceEqDiff, Int.reduceEq, false_and, and_false, if_false, if_true, and_self, true_and, true_or, or_true, false_or, or_false]
    rw [m12, m1]
  · unfold m_turnS m_turn3 m_draw m_bn1 m_clear
    simp only [mm_sI, mm_sJ, mm_sA, mm_IJ, mm_IA, mm_JI, mm_JA, mm_AI, mm_AJ, mm_ssI, mm_ssJ, mm_ssA, mm_zI, mm_zJ, mm_zA, mm_nI, mm_nJ, mm_nA, Nat.left_eq_add, Nat.add_eq_left, Nat.add_left_cancel_iff, Nat.reduceEqDiff, Int.reduceEq, false_and, and_false, if_false, if_true, and_self, true_and, true_or, or_true, false_or, or_false]
  · unfold m_turnS m_turn3 m_draw m_bn1 m_clear
    simp only [mm_sI, mm_sJ, mm_sA, mm_IJ, mm_IA, mm_JI, mm_JA, mm_AI, mm_AJ, mm_ssI, mm_ssJ, mm_ssA, mm_zI, mm_zJ, mm_zA, mm_nI, mm_nJ, mm_nA, Nat.left_eq_add, Nat.add_eq_left, Nat.add_left_cancel_iff, Nat.reduceEqDiff, Int.reduceEq, false_and, and_false, if_false, if_true, and_self, true_and, true_or, or_true, false_or, or_false]
  · unfold m_turnS m_turn3 m_draw m_bn1 m_clear
    simp only [mm_sI, mm_sJ, mm_sA, mm_IJ, mm_IA, mm_JI, mm_JA, mm_AI, mm_AJ, mm_ssI, mm_ssJ, mm_ssA, mm_zI, mm_zJ, mm_zA, mm_nI, mm_nJ, mm_nA, Nat.left_eq_add, Nat.add_eq_left, Nat.add_left_cancel_iff, Nat.reduceEqDiff, Int.reduceEq, false_and, and_false, if_false, if_true, and_self, true_and, true_or, or_true, false_or, or_false]
  · unfold m_turnS m_turn3 m_draw m_bn1 m_clear
    simp only [mm_sI, mm_sJ, mm_sA, mm_IJ, mm_IA, mm_JI, mm_JA, mm_AI, mm_AJ, mm_ssI, mm_ssJ, mm_ssA, mm_zI, mm_zJ, mm_zA, mm_nI, mm_nJ, mm_nA, Nat.left_eq_add, Nat.add_eq_left, Nat.add_left_cancel_iff, Nat.reduceEqDiff, Int.reduceEq, false_and, and_false, if_false, if_true, and_self, true_and, true_or, or_true, false_or, or_false]
  · unfold m_turnS m_turn3 m_draw m_bn1 m_clear
    simp only [mm_sI, mm_sJ, mm_sA, mm_IJ, mm_IA, mm_JI, mm_JA, mm_AI, mm_AJ, mm_ssI, mm_ssJ, mm_ssA, mm_zI, mm_zJ, mm_zA, mm_nI, mm_nJ, mm_nA, Nat.left_eq_add, Nat.add_eq_left, Nat.add_left_cancel_iff, Nat.reduceEqDiff, Int.reduceEq, false_and, and_false, if_false, if_true, and_self, true_and, true_or, or_true, false_or, or_false]
  · unfold m_turnS m_turn3 m_draw m_bn1 m_clear
    simp only [mm_sI, mm_sJ, mm_sA, mm_IJ, mm_IA, mm_JI, mm_JA, mm_AI, mm_AJ, mm_ssI, mm_ssJ, mm_ssA, mm_zI, mm_zJ, mm_zA, mm_nI, mm_nJ, mm_nA, Nat.left_eq_add, Nat.add_eq_left, Nat.add_left_cancel_iff, Nat.reduceEqDiff, Int.reduceEq, false_and, and_false, if_false, if_true, and_self, true_and, true_or, or_true, false_or, or_false]
  · unfold m_turnS m_turn3 m_draw m_bn1 m_clear
    simp only [mm_sI, mm_sJ, mm_sA, mm_IJ, mm_IA, mm_JI, mm_JA, mm_AI, mm_AJ, mm_ssI, mm_ssJ, mm_ssA, mm_zI, mm_zJ, mm_zA, mm_nI, mm_nJ, mm_nA, Nat.left_eq_add, Nat.add_eq_left, Nat.add_left_cancel_iff, Nat.reduceEqDiff, Int.reduceEq, false_and, and_false, if_false, if_true, and_self, true_and, true_or, or_true, false_or, or_false]
  · unfold m_turnS m_turn3 m_draw m_bn1 m_clear
    simp only [mm_sI, mm_sJ, mm_sA, mm_IJ, mm_IA, mm_JI, mm_JA, mm_AI, mm_AJ, mm_ssI, mm_ssJ, mm_ssA, mm_zI, mm_zJ, mm_zA, mm_nI, mm_nJ, mm_nA, Nat.left_eq_add, Nat.add_eq_left, Nat.add_left_cancel_iff, Nat.reduceEqDiff, Int.reduceEq, false_and, and_false, if_false, if_true, and_self, true_and, true_or, or_true, false_or, or_false]
  · unfold m_turnS m_turn3 m_draw m_bn1 m_clear
    simp only [mm_sI, mm_sJ, mm_sA, mm_IJ, mm_IA, mm_JI, mm_JA, mm_AI, mm_AJ, mm_ssI, mm_ssJ, mm_ssA, mm_zI, mm_zJ, mm_zA, mm_nI, mm_nJ, mm_nA, Nat.left_eq_add, Nat.add_eq_left, Nat.add_left_cancel_iff, Nat.reduceEqDiff, Int.reduceEq, false_and, and_false, if_false, if_true, and_self, true_and, true_or, or_true, false_or, or_false]
    rw [m16]
  · unfold m_turnS m_turn3 m_draw m_bn1 m_clear
    simp only [mm_sI, mm_sJ, mm_sA, mm_IJ, mm_IA, mm_JI, mm_JA, mm_AI, mm_AJ, mm_ssI, mm_ssJ, mm_ssA, mm_zI, mm_zJ, mm_zA, mm_nI, mm_nJ, mm_nA, Nat.left_eq_add, Nat.add_eq_left, Nat.add_left_cancel_iff, Nat.reduceEqDiff, Int.reduceEq, false_and, and_false, if_false, if_true, and_self, true_and, true_or, or_true, false_or, or_false]
  · unfold m_turnS m_turn3 m_draw m_bn1 m_clear
    simp only [mm_sI, mm_sJ, mm_sA, mm_IJ, mm_IA, mm_JI, mm_JA, mm_AI, mm_AJ, mm_ssI, mm_ssJ, mm_ssA, mm_zI, mm_zJ, mm_zA, mm_nI, mm_nJ, mm_nA, Nat.left_eq_add, Nat.add_eq_left, Nat.add_left_cancel_iff, Nat.reduceEqDiff, Int.reduceEq, false_and, and_false, if_false, if_true, and_self, true_and, true_or, or_true, false_or, or_false]
/-- a ONCE key is taken out of the DIRECTORY -/
def TQ (x : Nat) (v k : Int) (g g' : cx_Q) : Prop := (∀ j, cq_I g' x j = cq_I g x j) ∧ (∀ o j, 1 ≤ o → ¬ (o = 27 ∧ j = 61 * v + k ∧ k ≠ 0) → cq_I g' (x + o) j = cq_I g (x + o) j) ∧ (k ≠ 0 → cq_I g' (x + 27) (61 * v + k) = 0) ∧ (∀ o j, cq_J g' (x + o) j = cq_J g (x + o) j)
theorem TQ.x_ {x : Nat} {v k : Int} {g g' : cx_Q} (F_ : TQ x v k g g') : ∀ j, cq_I g' x j = cq_I g x j := F_.1
theorem TQ.I_ {x : Nat} {v k : Int} {g g' : cx_Q} (F_ : TQ x v k g g') : ∀ o j, 1 ≤ o → ¬ (o = 27 ∧ j = 61 * v + k ∧ k ≠ 0) → cq_I g' (x + o) j = cq_I g (x + o) j := F_.2.1
theorem TQ.i27 {x : Nat} {v k : Int} {g g' : cx_Q} (F_ : TQ x v k g g') : k ≠ 0 → cq_I g' (x + 27) (61 * v + k) = 0 := F_.2.2.1
theorem TQ.J_ {x : Nat} {v k : Int} {g g' : cx_Q} (F_ : TQ x v k g g') : ∀ o j, cq_J g' (x + o) j = cq_J g (x + o) j := F_.2.2.2
theorem bn0_q {x : Nat} {g : cx_Q} {v : Int} : TQ x v (m_leastOnce g x v) g (m_bn0 g x v) := by
  unfold m_bn0
  by_cases w : m_leastOnce g x v = 0
  · rw [if_pos w]
    exact ⟨fun _ => rfl, fun _ _ _ _ => rfl, fun q => absurd w q, fun _ _ => rfl⟩
  · rw [if_neg w]
    generalize m_leastOnce g x v = k at w
    exact ⟨fun j => by rw [mm_sI, if_neg (fun z => by omega)], fun o j ho z => by rw [mm_sI, if_neg (fun y => z ⟨by omega, y.2, w⟩)], fun _ => by rw [mm_sI, if_pos ⟨rfl, rfl⟩], fun _ _ => rfl⟩
section
variable {c x : Nat} {n : Int} {pe : Int → Nat} {ro : Int → Int → Nat} {pa lb tp rd en op ob : Nat} {T Lf : Int → Nat} {h g h' g' : cx_Q} {v : Int}
theorem fx_take (Q : TQ x v (m_leastOnce g x v) g g') (F : FX c x n pe ro pa lb tp rd en op ob T Lf h g) (hv : 0 ≤ v ∧ v < n) (e : h' = if cq_I h (pe v) 12 < cq_I h (pe v) 11 then cq_sI h (pe v) 12 (cq_I h (pe v) 12 + 1) else h) : FX c x n pe ro pa lb tp rd en op ob T Lf h' g' := by
  have f := F.fu v hv.1 hv.2
  have ls := f.least
  have o60 := f.o60
  have ot := f.ot
  have on := f.on
  rw [ls] at Q
  clear ls
  have ex : evx (fun a => a = pe v) h h' := by
    rw [e]
    split
    · exact evx.sI (P := fun a => a = pe v) evx.refl rfl
    · exact evx.refl
  have eI : ∀ j, j ≠ 12 → cq_I h' (pe v) j = cq_I h (pe v) j := fun j w => by
    rw [e]
    split
    · rw [mm_sI, if_neg (fun z => w z.2)]
    · rfl
  have e12 : cq_I h' (pe v) 12 = if cq_I h (pe v) 12 < cq_I h (pe v) 11 then cq_I h (pe v) 12 + 1 else cq_I h (pe v) 12 := by
    rw [e]
    split
    · rw [mm_sI, if_pos ⟨rfl, rfl⟩]
    · rfl
  have eJ : cq_J h' = cq_J h := by rw [e]; split <;> rfl
  have eA : cq_A h' = cq_A h := by rw [e]; split <;> rfl
  have es : cq_s h' = cq_s h := by rw [e]; split <;> rfl
  have pp : ∀ k, 1 ≤ k → ¬ pe v + k = pe v := fun k w => by omega
  have kr : loC (cq_I h (pe v) 11) (cq_I h (pe v) 12) = 0 ∨ (1 ≤ loC (cq_I h (pe v) 11) (cq_I h (pe v) 12) ∧ loC (cq_I h (pe v) 11) (cq_I h (pe v) 12) ≤ 60) := by unfold loC; split <;> omega
  have I : ∀ o j, 1 ≤ o → o ≠ 27 → cq_I g' (x + o) j = cq_I g (x + o) j := fun o j h1 h2 => Q.I_ o j h1 (fun z => h2 z.1)
  have J := Q.J_
  refine F.upU hv ex (fun a w => Or.inl w) (fun o j h1 h2 h3 w => ⟨Q.I_ o j h1 (fun z => w (Or.inr (Or.inr (Or.inl ⟨by omega, by omega, by omega⟩)))), J o j⟩) (fun j _ => Q.x_ j) (by rw [eA]) ?_
  have I23 := I 23 v (by decide) (by decide)
  have I16 := I 16 v (by decide) (by decide)
  have I58 := I 58 v (by decide) (by decide)
  have I11 := I 11 v (by decide) (by decide)
  refine ⟨by rw [es]; exact f.s0, by rw [es]; exact f.s1, by rw [es]; exact f.s2, by rw [es]; exact f.s3, by rw [es]; exact f.s4, by rw [es]; exact f.s5, by rw [eA]; exact f.a8, by rw [eA]; exact f.a9, by rw [eA]; exact f.a10, by rw [eA]; exact f.a14, by rw [eA]; exact f.a15, by rw [eJ, J]; exact f.sd, by rw [eI 1 (by decide), I 12 v (by decide) (by decide)]; exact f.dr, by rw [I11, eA]; exact f.n0, by rw [I11, eA, es, eJ, J, J]; exact f.n1, by rw [J]; exact f.sb, by rw [eI 4 (by decide), I16]; exact f.ln, by rw [I16]; exact f.l20, by rw [eJ, J]; exact f.lo, by rw [eJ, J]; exact f.so, by rw [eJ, J]; exact f.sp, fun k k1 k2 => ?_, by rw [eI 11 (by decide), I23]; exact f.on, by rw [I23]; exact f.o60, fun k k1 k2 => ?_, fun k k1 k2 => ?_, fun k k1 => ?_, ?_, fun k k1 k2 => ?_, by rw [eI 16 (by decide), I58]; exact f.hd, by rw [I58]; exact f.h100, fun k k1 k2 => ?_⟩
  · rw [I16] at k2
    rw [eA, es, eJ, J, J]
    exact f.lk k k1 k2
  · rw [I23] at k2
    rw [eA, es, eJ, J, J]
    exact f.ok k k1 k2
  · rw [I23] at k2
    rw [ex.I f.s3 rfl (pp 3 (by decide)), I 28 _ (by decide) (by decide)]
    exact f.ou k k1 k2
  · rw [I23] at k1
    rw [ex.I f.s3 rfl (pp 3 (by decide))]
    exact f.oz k k1
  · rw [e12, I23]
    split <;> omega
  · rw [I23] at k2
    have od := f.od k k1 k2
    rw [e12]
    unfold loC at Q
    by_cases w : cq_I h (pe v) 12 < cq_I h (pe v) 11
    · rw [if_pos w] at Q ⊢
      by_cases w2 : k = cq_I h (pe v) 12 + 1
      · rw [w2, Q.i27 (by omega)]
        exact ⟨fun q => absurd rfl q, fun q => by omega⟩
      · rw [Q.I_ 27 _ (by decide) (by omega), od]
        omega
    · rw [if_neg w] at Q ⊢
      rw [Q.I_ 27 _ (by decide) (fun z => z.2.2 rfl), od]
  · rw [I58] at k2
    rw [eJ, J, ex.I f.s5 rfl (pp 5 (by decide)), I 59 _ (by decide) (by decide)]
    exact f.he k k1 k2
/-- a SESSION more was BEGUN -/
theorem fx_begun (F : FX c x n pe ro pa lb tp rd en op ob T Lf h g) (e63 : cq_I g' x 63 = cq_I g x 63 + 1) (ex : ∀ j, j ≠ 63 → cq_I g' x j = cq_I g x j) (eI : ∀ o j, 1 ≤ o → o ≤ 65 → o ∉ tL → cq_I g' (x + o) j = cq_I g (x + o) j) (eJ : ∀ o j, 1 ≤ o → o ≤ 65 → o ∉ tL → cq_J g' (x + o) j = cq_J g (x + o) j) (e : h' = cq_sI h c 4 (cq_I h c 4 + 1)) : FX c x n pe ro pa lb tp rd en op ob T Lf h' g' := by
  have fs := F.fs
  have exx : evx (fun a => a = c) h h' := by rw [e]; exact evx.sI (P := fun a => a = c) evx.refl rfl
  have cI : ∀ j, j ≠ 4 → cq_I h' c j = cq_I h c j := fun j w => by rw [e, mm_sI, if_neg (fun z => w z.2)]
  have c4 : cq_I h' c 4 = cq_I h c 4 + 1 := by rw [e, mm_sI, if_pos ⟨rfl, rfl⟩]
  have eA : cq_A h' = cq_A h := by rw [e]; rfl
  refine F.upS exx (fun o _ => False) (fun o j h1 h2 h3 _ => ⟨eI o j h1 h2 h3, eJ o j h1 h2 h3⟩) (fun a w => by rw [w, fs.s0]; rfl) (fun o j w => w.elim) (by rw [eA]) (by rw [eA]) (ex 0 (by decide)) (ex 72 (by decide)) ?_
  refine ⟨exx.s fs.s0 (by decide), exx.s fs.s1 (by decide), exx.s fs.s2 (by decide), by rw [eA]; exact fs.a8, by rw [eA]; exact fs.a10, by rw [cI 2 (by decide), ex 72 (by decide)]; exact fs.lc, by rw [cI 3 (by decide), ex 73 (by decide)]; exact fs.cc, by rw [c4, e63, fs.bc], by rw [cI 5 (by decide), ex 85 (by decide)]; exact fs.mc, by rw [cI 6 (by decide), ex 84 (by decide)]; exact fs.oc, by rw [cI 7 (by decide), ex 86 (by decide)]; exact fs.kc, by rw [cI 9 (by decide), ex 68 (by decide)]; exact fs.tc, by rw [cI 11 (by decide), ex 75 (by decide)]; exact fs.rc, fun k k0 k1 => ?_, fun k k0 k1 => ?_, fun k k0 k1 => by rw [ex 68 (by decide)] at k1; rw [eI 61 k (by decide) (by decide) (by decide)]; exact fs.tb k k0 k1⟩
  · rw [ex 68 (by decide)] at k1
    rw [exx.I fs.s1 rfl (ns fs.s1 fs.s0 (by decide)), eI 61 k (by decide) (by decide) (by decide)]
    exact fs.tp_ k k0 k1
  · rw [ex 75 (by decide)] at k1
    rw [exx.I fs.s2 rfl (ns fs.s2 fs.s0 (by decide)), eI 65 k (by decide) (by decide) (by decide)]
    exact fs.rd_ k k0 k1
end
