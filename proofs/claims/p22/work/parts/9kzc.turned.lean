/-! class and reference side by side: a SESSION that has opened a letter behind a TURN -/
def OK3 (x : Nat) (s n0 n1 : Int) (eo C R1 X2 V O : Int64) (g g' : cx_Q) : Prop := (∀ o j, inS s o j → o ≠ 33 → o ≠ 35 → o ≠ 39 → o ≠ 40 → o ≠ 41 → o ≠ 42 → o ≠ 43 → o ≠ 53 → o ≠ 55 → cq_I g' (x + o) j = cq_I g (x + o) j) ∧ (∀ o j, inS s o j → o ≠ 31 → o ≠ 32 → o ≠ 34 → o ≠ 36 → o ≠ 37 → o ≠ 38 → o ≠ 54 → o ≠ 56 → cq_J g' (x + o) j = cq_J g (x + o) j) ∧ (cq_I g' (x + 33) s = 1) ∧ (cq_I g' (x + 35) s = 1) ∧ (cq_I g' (x + 39) s = 1) ∧ (cq_I g' (x + 40) s = 0) ∧ (cq_I g' (x + 41) s = n1 + 1) ∧ (cq_I g' (x + 42) s = cq_I g (x + 40) s) ∧ (cq_I g' (x + 43) s = 0) ∧ (cq_I g' (x + 53) s = cq_I g (x + 53) s + n0 + n1) ∧ (cq_J g' (x + 31) s = f_key 1 R1 X2) ∧ (cq_J g' (x + 32) s = f_key 2 R1 X2) ∧ (cq_J g' (x + 34) s = nxI (n1.toNat + 1) C) ∧ (cq_J g' (x + 36) s = V) ∧ (cq_J g' (x + 37) s = O) ∧ (cq_J g' (x + 38) s = eo) ∧ (∀ k, 0 ≤ k → k < cq_I g (x + 53) s → cq_J g' (x + 54) (20 * s + k) = cq_J g (x + 54) (20 * s + k) ∧ cq_I g' (x + 55) (20 * s + k) = cq_I g (x + 55) (20 * s + k) ∧ cq_J g' (x + 56) (20 * s + k) = cq_J g (x + 56) (20 * s + k)) ∧ (∀ i, 0 ≤ i → i < n0 → cq_J g' (x + 54) (20 * s + (cq_I g (x + 53) s + i)) = cq_J g (x + 38) s ∧ cq_I g' (x + 55) (20 * s + (cq_I g (x + 53) s + i)) = cq_I g (x + 41) s + i ∧ cq_J g' (x + 56) (20 * s + (cq_I g (x + 53) s + i)) = lkC (nxI i.toNat (cq_J g (x + 34) s))) ∧ (∀ i, 0 ≤ i → i < n1 → cq_J g' (x + 54) (20 * s + (cq_I g (x + 53) s + n0 + i)) = eo ∧ cq_I g' (x + 55) (20 * s + (cq_I g (x + 53) s + n0 + i)) = i ∧ cq_J g' (x + 56) (20 * s + (cq_I g (x + 53) s + n0 + i)) = lkC (nxI i.toNat C))
theorem OK3.I_ {x : Nat} {s n0 n1 : Int} {eo C R1 X2 V O : Int64} {g g' : cx_Q} (F_ : OK3 x s n0 n1 eo C R1 X2 V O g g') : ∀ o j, inS s o j → o ≠ 33 → o ≠ 35 → o ≠ 39 → o ≠ 40 → o ≠ 41 → o ≠ 42 → o ≠ 43 → o ≠ 53 → o ≠ 55 → cq_I g' (x + o) j = cq_I g (x + o) j := F_.1
theorem OK3.J_ {x : Nat} {s n0 n1 : Int} {eo C R1 X2 V O : Int64} {g g' : cx_Q} (F_ : OK3 x s n0 n1 eo C R1 X2 V O g g') : ∀ o j, inS s o j → o ≠ 31 → o ≠ 32 → o ≠ 34 → o ≠ 36 → o ≠ 37 → o ≠ 38 → o ≠ 54 → o ≠ 56 → cq_J g' (x + o) j = cq_J g (x + o) j := F_.2.1
theorem OK3.i33 {x : Nat} {s n0 n1 : Int} {eo C R1 X2 V O : Int64} {g g' : cx_Q} (F_ : OK3 x s n0 n1 eo C R1 X2 V O g g') : cq_I g' (x + 33) s = 1 := F_.2.2.1
theorem OK3.i35 {x : Nat} {s n0 n1 : Int} {eo C R1 X2 V O : Int64} {g g' : cx_Q} (F_ : OK3 x s n0 n1 eo C R1 X2 V O g g') : cq_I g' (x + 35) s = 1 := F_.2.2.2.1
theorem OK3.i39 {x : Nat} {s n0 n1 : Int} {eo C R1 X2 V O : Int64} {g g' : cx_Q} (F_ : OK3 x s n0 n1 eo C R1 X2 V O g g') : cq_I g' (x + 39) s = 1 := F_.2.2.2.2.1
theorem OK3.i40 {x : Nat} {s n0 n1 : Int} {eo C R1 X2 V O : Int64} {g g' : cx_Q} (F_ : OK3 x s n0 n1 eo C R1 X2 V O g g') : cq_I g' (x + 40) s = 0 := F_.2.2.2.2.2.1
theorem OK3.i41 {x : Nat} {s n0 n1 : Int} {eo C R1 X2 V O : Int64} {g g' : cx_Q} (F_ : OK3 x s n0 n1 eo C R1 X2 V O g g') : cq_I g' (x + 41) s = n1 + 1 := F_.2.2.2.2.2.2.1
theorem OK3.i42 {x : Nat} {s n0 n1 : Int} {eo C R1 X2 V O : Int64} {g g' : cx_Q} (F_ : OK3 x s n0 n1 eo C R1 X2 V O g g') : cq_I g' (x + 42) s = cq_I g (x + 40) s := F_.2.2.2.2.2.2.2.1
theorem OK3.i43 {x : Nat} {s n0 n1 : Int} {eo C R1 X2 V O : Int64} {g g' : cx_Q} (F_ : OK3 x s n0 n1 eo C R1 X2 V O g g') : cq_I g' (x + 43) s = 0 := F_.2.2.2.2.2.2.2.2.1
theorem OK3.i53 {x : Nat} {s n0 n1 : Int} {eo C R1 X2 V O : Int64} {g g' : cx_Q} (F_ : OK3 x s n0 n1 eo C R1 X2 V O g g') : cq_I g' (x + 53) s = cq_I g (x + 53) s + n0 + n1 := F_.2.2.2.2.2.2.2.2.2.1
theorem OK3.j31 {x : Nat} {s n0 n1 : Int} {eo C R1 X2 V O : Int64} {g g' : cx_Q} (F_ : OK3 x s n0 n1 eo C R1 X2 V O g g') : cq_J g' (x + 31) s = f_key 1 R1 X2 := F_.2.2.2.2.2.2.2.2.2.2.1
theorem OK3.j32 {x : Nat} {s n0 n1 : Int} {eo C R1 X2 V O : Int64} {g g' : cx_Q} (F_ : OK3 x s n0 n1 eo C R1 X2 V O g g') : cq_J g' (x + 32) s = f_key 2 R1 X2 := F_.2.2.2.2.2.2.2.2.2.2.2.1
theorem OK3.j34 {x : Nat} {s n0 n1 : Int} {eo C R1 X2 V O : Int64} {g g' : cx_Q} (F_ : OK3 x s n0 n1 eo C R1 X2 V O g g') : cq_J g' (x + 34) s = nxI (n1.toNat + 1) C := F_.2.2.2.2.2.2.2.2.2.2.2.2.1
theorem OK3.j36 {x : Nat} {s n0 n1 : Int} {eo C R1 X2 V O : Int64} {g g' : cx_Q} (F_ : OK3 x s n0 n1 eo C R1 X2 V O g g') : cq_J g' (x + 36) s = V := F_.2.2.2.2.2.2.2.2.2.2.2.2.2.1
theorem OK3.j37 {x : Nat} {s n0 n1 : Int} {eo C R1 X2 V O : Int64} {g g' : cx_Q} (F_ : OK3 x s n0 n1 eo C R1 X2 V O g g') : cq_J g' (x + 37) s = O := F_.2.2.2.2.2.2.2.2.2.2.2.2.2.2.1
theorem OK3.j38 {x : Nat} {s n0 n1 : Int} {eo C R1 X2 V O : Int64} {g g' : cx_Q} (F_ : OK3 x s n0 n1 eo C R1 X2 V O g g') : cq_J g' (x + 38) s = eo := F_.2.2.2.2.2.2.2.2.2.2.2.2.2.2.2.1
theorem OK3.k_ {x : Nat} {s n0 n1 : Int} {eo C R1 X2 V O : Int64} {g g' : cx_Q} (F_ : OK3 x s n0 n1 eo C R1 X2 V O g g') : ∀ k, 0 ≤ k → k < cq_I g (x + 53) s → cq_J g' (x + 54) (20 * s + k) = cq_J g (x + 54) (20 * s + k) ∧ cq_I g' (x + 55) (20 * s + k) = cq_I g (x + 55) (20 * s + k) ∧ cq_J g' (x + 56) (20 * s + k) = cq_J g (x + 56) (20 * s + k) := F_.2.2.2.2.2.2.2.2.2.2.2.2.2.2.2.2.1
theorem OK3.m_ {x : Nat} {s n0 n1 : Int} {eo C R1 X2 V O : Int64} {g g' : cx_Q} (F_ : OK3 x s n0 n1 eo C R1 X2 V O g g') : ∀ i, 0 ≤ i → i < n0 → cq_J g' (x + 54) (20 * s + (cq_I g (x + 53) s + i)) = cq_J g (x + 38) s ∧ cq_I g' (x + 55) (20 * s + (cq_I g (x + 53) s + i)) = cq_I g (x + 41) s + i ∧ cq_J g' (x + 56) (20 * s + (cq_I g (x + 53) s + i)) = lkC (nxI i.toNat (cq_J g (x + 34) s)) := F_.2.2.2.2.2.2.2.2.2.2.2.2.2.2.2.2.2.1
theorem OK3.n_ {x : Nat} {s n0 n1 : Int} {eo C R1 X2 V O : Int64} {g g' : cx_Q} (F_ : OK3 x s n0 n1 eo C R1 X2 V O g g') : ∀ i, 0 ≤ i → i < n1 → cq_J g' (x + 54) (20 * s + (cq_I g (x + 53) s + n0 + i)) = eo ∧ cq_I g' (x + 55) (20 * s + (cq_I g (x + 53) s + n0 + i)) = i ∧ cq_J g' (x + 56) (20 * s + (cq_I g (x + 53) s + n0 + i)) = lkC (nxI i.toNat C) := F_.2.2.2.2.2.2.2.2.2.2.2.2.2.2.2.2.2.2
section
variable {m : cx_Q} {a q t p k b0 b1 b2 d : Nat} {s sz mm nr : Int} {u v r y o' : Int64} {o : Option Nat} {key : Int → Int64}
theorem trW_o (w : d ≠ a) : cq_I (trW m a q s u v o) d = cq_I m d ∧ cq_J (trW m a q s u v o) d = cq_J m d ∧ cq_A (trW m a q s u v o) d = cq_A m d := by
  unfold trW
  refine ⟨?_, ?_, ?_⟩ <;> (funext j; simp only [mm_sI, mm_sJ, mm_sA, mm_IJ, mm_IA, mm_JI, mm_JA, mm_AI, mm_AJ, mm_ssI, mm_ssJ, mm_ssA, mm_zI, mm_zJ, mm_zA, mm_nI, mm_nJ, mm_nA, w, Nat.left_eq_add, Nat.add_eq_left, Nat.add_left_cancel_iff, Nat.reduceEqDiff, Int.reduceEq, false_and, and_false, if_false, if_true, and_self, true_and, true_or, or_true, false_or, or_false])
theorem trW_i {j : Int} : cq_I (trW m a q s u v o) a j = if j = 15 then 1 else if j = 17 then 0 else if j = 16 then 0 else if j = 18 then s else cq_I m a j := by
  unfold trW
  simp only [mm_sI, mm_sJ, mm_sA, mm_IJ, mm_IA, mm_JI, mm_JA, mm_AI, mm_AJ, mm_ssI, mm_ssJ, mm_ssA, mm_zI, mm_zJ, mm_zA, mm_nI, mm_nJ, mm_nA, Nat.left_eq_add, Nat.add_eq_left, Nat.add_left_cancel_iff, Nat.reduceEqDiff, Int.reduceEq, false_and, and_false, if_false, if_true, and_self, true_and, true_or, or_true, false_or, or_false]
theorem trW_j {j : Int} : cq_J (trW m a q s u v o) a j = if j = 6 then v else if j = 13 then u else cq_J m a j := by
  unfold trW
  simp only [mm_sI, mm_sJ, mm_sA, mm_IJ, mm_IA, mm_JI, mm_JA, mm_AI, mm_AJ, mm_ssI, mm_ssJ, mm_ssA, mm_zI, mm_zJ, mm_zA, mm_nI, mm_nJ, mm_nA, Nat.left_eq_add, Nat.add_eq_left, Nat.add_left_cancel_iff, Nat.reduceEqDiff, Int.reduceEq, false_and, and_false, if_false, if_true, and_self, true_and, true_or, or_true, false_or, or_false]
theorem trW_a {j : Int} : cq_A (trW m a q s u v o) a j = if j = 11 then some q else if j = 7 then some q else if j = 14 then o else cq_A m a j := by
  unfold trW
  simp only [mm_sI, mm_sJ, mm_sA, mm_IJ, mm_IA, mm_JI, mm_JA, mm_AI, mm_AJ, mm_ssI, mm_ssJ, mm_ssA, mm_zI, mm_zJ, mm_zA, mm_nI, mm_nJ, mm_nA, Nat.left_eq_add, Nat.add_eq_left, Nat.add_left_cancel_iff, Nat.reduceEqDiff, Int.reduceEq, false_and, and_false, if_false, if_true, and_self, true_and, true_or, or_true, false_or, or_false]
theorem tsW_o (w : d ≠ a) : cq_I (tsW m a t q r y) d = cq_I m d ∧ cq_J (tsW m a t q r y) d = cq_J m d ∧ cq_A (tsW m a t q r y) d = cq_A m d := by
  unfold tsW
  refine ⟨?_, ?_, ?_⟩ <;> (funext j; simp only [mm_sI, mm_sJ, mm_sA, mm_IJ, mm_IA, mm_JI, mm_JA, mm_AI, mm_AJ, mm_ssI, mm_ssJ, mm_ssA, mm_zI, mm_zJ, mm_zA, mm_nI, mm_nJ, mm_nA, w, Nat.left_eq_add, Nat.add_eq_left, Nat.add_left_cancel_iff, Nat.reduceEqDiff, Int.reduceEq, false_and, and_false, if_false, if_true, and_self, true_and, true_or, or_true, false_or, or_false])
theorem tsW_i {j : Int} : cq_I (tsW m a t q r y) a j = cq_I m a j := by
  unfold tsW
  simp only [mm_sI, mm_sJ, mm_sA, mm_IJ, mm_IA, mm_JI, mm_JA, mm_AI, mm_AJ, mm_ssI, mm_ssJ, mm_ssA, mm_zI, mm_zJ, mm_zA, mm_nI, mm_nJ, mm_nA]
theorem tsW_j {j : Int} : cq_J (tsW m a t q r y) a j = if j = 6 then f_key 1 r y else if j = 8 then f_key 2 r y else cq_J m a j := by
  unfold tsW
  simp only [mm_sI, mm_sJ, mm_sA, mm_IJ, mm_IA, mm_JI, mm_JA, mm_AI, mm_AJ, mm_ssI, mm_ssJ, mm_ssA, mm_zI, mm_zJ, mm_zA, mm_nI, mm_nJ, mm_nA, Nat.left_eq_add, Nat.add_eq_left, Nat.add_left_cancel_iff, Nat.reduceEqDiff, Int.reduceEq, false_and, and_false, if_false, if_true, and_self, true_and, true_or, or_true, false_or, or_false]
theorem tsW_a {j : Int} : cq_A (tsW m a t q r y) a j = if j = 9 then some q else if j = 7 then some q else if j = 12 then some t else cq_A m a j := by
  unfold tsW
  simp only [mm_sI, mm_sJ, mm_sA, mm_IJ, mm_IA, mm_JI, mm_JA, mm_AI, mm_AJ, mm_ssI, mm_ssJ, mm_ssA, mm_zI, mm_zJ, mm_zA, mm_nI, mm_nJ, mm_nA, Nat.left_eq_add, Nat.add_eq_left, Nat.add_left_cancel_iff, Nat.reduceEqDiff, Int.reduceEq, false_and, and_false, if_false, if_true, and_self, true_and, true_or, or_true, false_or, or_false]
theorem coD_o (w : d ≠ p) {i : Int} : cq_I (coD m p t i) d = cq_I m d ∧ cq_A (coD m p t i) d = cq_A m d := by
  unfold coD
  refine ⟨?_, ?_⟩ <;> (funext j; simp only [mm_sI, mm_sJ, mm_sA, mm_IJ, mm_IA, mm_JI, mm_JA, mm_AI, mm_AJ, mm_ssI, mm_ssJ, mm_ssA, mm_zI, mm_zJ, mm_zA, mm_nI, mm_nJ, mm_nA, w, Nat.left_eq_add, Nat.add_eq_left, Nat.add_left_cancel_iff, Nat.reduceEqDiff, Int.reduceEq, false_and, and_false, if_false, if_true, and_self, true_and, true_or, or_true, false_or, or_false])
theorem coR_o (w : d ≠ a) {i : Int} : cq_I (coR m a v i) d = cq_I m d ∧ cq_J (coR m a v i) d = cq_J m d := by
  unfold coR
  refine ⟨?_, ?_⟩ <;> (funext j; simp only [mm_sI, mm_sJ, mm_sA, mm_IJ, mm_IA, mm_JI, mm_JA, mm_AI, mm_AJ, mm_ssI, mm_ssJ, mm_ssA, mm_zI, mm_zJ, mm_zA, mm_nI, mm_nJ, mm_nA, w, Nat.left_eq_add, Nat.add_eq_left, Nat.add_left_cancel_iff, Nat.reduceEqDiff, Int.reduceEq, false_and, and_false, if_false, if_true, and_self, true_and, true_or, or_true, false_or, or_false])
theorem coR_A {i : Int} : cq_A (coR m a v i) = cq_A m := Eq.trans rfl rfl
theorem coR_i {i j : Int} : cq_I (coR m a v i) a j = if j = 17 then i else cq_I m a j := by
  unfold coR
  simp only [mm_sI, mm_sJ, mm_sA, mm_IJ, mm_IA, mm_JI, mm_JA, mm_AI, mm_AJ, mm_ssI, mm_ssJ, mm_ssA, mm_zI, mm_zJ, mm_zA, mm_nI, mm_nJ, mm_nA, Nat.left_eq_add, Nat.add_eq_left, Nat.add_left_cancel_iff, Nat.reduceEqDiff, Int.reduceEq, false_and, and_false, if_false, if_true, and_self, true_and, true_or, or_true, false_or, or_false]
theorem coR_j {i j : Int} : cq_J (coR m a v i) a j = if j = 10 then v else cq_J m a j := by
  unfold coR
  simp only [mm_sI, mm_sJ, mm_sA, mm_IJ, mm_IA, mm_JI, mm_JA, mm_AI, mm_AJ, mm_ssI, mm_ssJ, mm_ssA, mm_zI, mm_zJ, mm_zA, mm_nI, mm_nJ, mm_nA, Nat.left_eq_add, Nat.add_eq_left, Nat.add_left_cancel_iff, Nat.reduceEqDiff, Int.reduceEq, false_and, and_false, if_false, if_true, and_self, true_and, true_or, or_true, false_or, or_false]
theorem kpW_j0 (w : b0 ≠ b2) : cq_J (kpW m k b0 b1 b2 sz mm o' nr key) b0 = kpG (cq_J m b0) sz mm (fun _ => o') := by
  unfold kpW
  funext j
  simp only [mm_sI, mm_sJ, mm_sA, mm_IJ, mm_IA, mm_JI, mm_JA, mm_AI, mm_AJ, mm_ssI, mm_ssJ, mm_ssA, mm_zI, mm_zJ, mm_zA, mm_nI, mm_nJ, mm_nA, rr_I, rr_J, rr_A, rr_IJ, rr_IA, rr_JI, rr_JA, rr_AI, rr_AJ, rr_sI, rr_sJ, rr_sA, rr_zI, rr_zJ, rr_zA, w, Nat.left_eq_add, Nat.add_eq_left, Nat.add_left_cancel_iff, Nat.reduceEqDiff, Int.reduceEq, false_and, and_false, if_false, if_true, and_self, true_and, true_or, or_true, false_or, or_false]
theorem kpW_i1 (w : b1 ≠ k) : cq_I (kpW m k b0 b1 b2 sz mm o' nr key) b1 = kpG (cq_I m b1) sz mm (fun i => nr + i) := by
  unfold kpW
  funext j
  simp only [mm_sI, mm_sJ, mm_sA, mm_IJ, mm_IA, mm_JI, mm_JA, mm_AI, mm_AJ, mm_ssI, mm_ssJ, mm_ssA, mm_zI, mm_zJ, mm_zA, mm_nI, mm_nJ, mm_nA, rr_I, rr_J, rr_A, rr_IJ, rr_IA, rr_JI, rr_JA, rr_AI, rr_AJ, rr_sI, rr_sJ, rr_sA, rr_zI, rr_zJ, rr_zA, w, Nat.left_eq_add, Nat.add_eq_left, Nat.add_left_cancel_iff, Nat.reduceEqDiff, Int.reduceEq, false_and, and_false, if_false, if_true, and_self, true_and, true_or, or_true, false_or, or_false]
theorem kpW_j2 (w : b0 ≠ b2) : cq_J (kpW m k b0 b1 b2 sz mm o' nr key) b2 = kpG (cq_J m b2) sz mm key := by
  have w' : ¬ b2 = b0 := fun z => w z.symm
  unfold kpW
  funext j
  simp only [mm_sI, mm_sJ, mm_sA, mm_IJ, mm_IA, mm_JI, mm_JA, mm_AI, mm_AJ, mm_ssI, mm_ssJ, mm_ssA, mm_zI, mm_zJ, mm_zA, mm_nI, mm_nJ, mm_nA, rr_I, rr_J, rr_A, rr_IJ, rr_IA, rr_JI, rr_JA, rr_AI, rr_AJ, rr_sI, rr_sJ, rr_sA, rr_zI, rr_zJ, rr_zA, w', Nat.left_eq_add, Nat.add_eq_left, Nat.add_left_cancel_iff, Nat.reduceEqDiff, Int.reduceEq, false_and, and_false, if_false, if_true, and_self, true_and, true_or, or_true, false_or, or_false]
end
section
variable {x a : Nat} {s : Int} {h g g' m : cx_Q}
theorem SR0.turn {p t q q2 : Nat} {n0 n1 pl d : Int} {eo C R1 X2 V O v6 : Int64} {o : Option Nat} {r1 r2 : Int → Int64} (F : SR0 x a s h g) (Q : OK3 x s n0 n1 eo C R1 X2 V O g g') (hn : 0 ≤ n0 ∧ 0 ≤ n1 ∧ cq_I g (x + 53) s + n0 + n1 ≤ 20) (sp : cq_s h p = 4) (ep : pl = n1) (e6 : v6 = nxI (n1.toNat + 1) C) (er1 : ∀ i, 0 ≤ i → i < n0 → r1 i = lkC (nxI i.toNat (cq_J g (x + 34) s))) (er2 : ∀ i, 0 ≤ i → i < n1 → r2 i = lkC (nxI i.toNat C))
    (e : ew (tsW (coD (coR (kpW (trW (kpW (cq_sI h a 5 0) (a + 1) (a + 2) (a + 3) (a + 4) (cq_I h (a + 1) 4) n0 (cq_J h a 13) (cq_I h a 17) r1) a q (cq_I h a 16) eo R1 o) (a + 1) (a + 2) (a + 3) (a + 4) (cq_I h (a + 1) 4 + n0) n1 eo 0 r2) a v6 (pl + 1)) p t d) a t q2 R1 X2) m) (st : cq_s m t = 6) (jt0 : cq_J m t 0 = V) (jt1 : cq_J m t 1 = O) : SR x a s m g' := by
  have k20 := F.k20
  have km := F.km
  have s0 := F.s0
  have s1 := F.s1
  have s2 := F.s2
  have s3 := F.s3
  have s4 := F.s4
  have n1' : a ≠ a + 1 := by omega
  have n2 : a ≠ a + 2 := by omega
  have n3 : a ≠ a + 3 := by omega
  have n4 : a ≠ a + 4 := by omega
  have np : ∀ {d k : Nat}, cq_s h d = k → k ≠ 4 → d ≠ p := fun w w2 z => w2 (by rw [← w, z, sp])
  have es : cq_s (tsW (coD (coR (kpW (trW (kpW (cq_sI h a 5 0) (a + 1) (a + 2) (a + 3) (a + 4) (cq_I h (a + 1) 4) n0 (cq_J h a 13) (cq_I h a 17) r1) a q (cq_I h a 16) eo R1 o) (a + 1) (a + 2) (a + 3) (a + 4) (cq_I h (a + 1) 4 + n0) n1 eo 0 r2) a v6 (pl + 1)) p t d) a t q2 R1 X2) = cq_s h := by
    rw [tsW_s, coD_s, coR_s, kpW_qs, trW_s, kpW_qs]
    exact Eq.trans rfl rfl
  have hI : ∀ j, cq_I m a j = if j = 17 then pl + 1 else if j = 15 then 1 else if j = 16 then 0 else if j = 18 then cq_I h a 16 else if j = 5 then 0 else cq_I h a j := fun j => by
    rw [e.I (k0 := 7) (by rw [es]; exact s0) rfl, tsW_i, (coD_o (np s0 (by decide))).1, coR_i, kpW_I n1' n3, trW_i, kpW_I n1' n3, mm_sI]
    by_cases w1 : j = 17
    · rw [if_pos w1, if_pos w1]
    rw [if_neg w1, if_neg w1, if_neg w1]
    simp only [eq_self_iff_true, true_and]
  have hJ : ∀ j, cq_J m a j = if j = 6 then f_key 1 R1 X2 else if j = 8 then f_key 2 R1 X2 else if j = 10 then v6 else if j = 13 then eo else cq_J h a j := fun j => by
    rw [e.J (k0 := 7) (by rw [es]; exact s0) (by decide), tsW_j, coD_J, coR_j, kpW_J n2 n4, trW_j, kpW_J n2 n4, mm_JI]
    by_cases w : j = 6
    · rw [if_pos w, if_pos w]
    · rw [if_neg w, if_neg w, if_neg w]
  have hA : ∀ j, cq_A m a j = if j = 9 then some q2 else if j = 7 then some q2 else if j = 12 then some t else if j = 11 then some q else if j = 14 then o else cq_A h a j := fun j => by
    rw [e.A (k0 := 7) (by rw [es]; exact s0) rfl, tsW_a, (coD_o (np s0 (by decide))).2, coR_A, kpW_qA, trW_a, kpW_qA]
    by_cases w : j = 7
    · rw [if_pos w, if_pos w]
    · rw [if_neg w, if_neg w, if_neg w]
      rfl
  have A1 : cq_A m (a + 1) = cq_A h (a + 1) := by
    rw [e.A (k0 := 1) (by rw [es]; exact s1) rfl, (tsW_o n1'.symm).2.2, (coD_o (np s1 (by decide))).2, coR_A, kpW_qA, (trW_o n1'.symm).2.2, kpW_qA]
    exact Eq.trans rfl rfl
  have I1 : cq_I m (a + 1) 4 = cq_I h (a + 1) 4 + n0 + n1 := by
    rw [e.I (k0 := 1) (by rw [es]; exact s1) rfl, (tsW_o n1'.symm).1, (coD_o (np s1 (by decide))).1, (coR_o n1'.symm).1, kpW_4]
  have J2 : cq_J m (a + 2) = kpG (kpG (cq_J h (a + 2)) (cq_I h (a + 1) 4) n0 (fun _ => cq_J h a 13)) (cq_I h (a + 1) 4 + n0) n1 (fun _ => eo) := by
    rw [e.J (k0 := 171) (by rw [es]; exact s2) (by decide), (tsW_o n2.symm).2.1, coD_J, (coR_o n2.symm).2, kpW_j0 (by omega), (trW_o n2.symm).2.1, kpW_j0 (by omega)]
    exact Eq.trans rfl rfl
  have I3 : cq_I m (a + 3) = kpG (kpG (cq_I h (a + 3)) (cq_I h (a + 1) 4) n0 (fun i => cq_I h a 17 + i)) (cq_I h (a + 1) 4 + n0) n1 (fun i => 0 + i) := by
    have e3 : cq_I (cq_sI h a 5 0) (a + 3) = cq_I h (a + 3) := by
      funext k
      rw [mm_sI, if_neg (fun q => by omega)]
    rw [e.I (k0 := 172) (by rw [es]; exact s3) rfl, (tsW_o n3.symm).1, (coD_o (np s3 (by decide))).1, (coR_o n3.symm).1, kpW_i1 (by omega), (trW_o n3.symm).1, kpW_i1 (by omega), e3]
  have J4 : cq_J m (a + 4) = kpG (kpG (cq_J h (a + 4)) (cq_I h (a + 1) 4) n0 r1) (cq_I h (a + 1) 4 + n0) n1 r2 := by
    rw [e.J (k0 := 173) (by rw [es]; exact s4) (by decide), (tsW_o n4.symm).2.1, coD_J, (coR_o n4.symm).2, kpW_j2 (by omega), (trW_o n4.symm).2.1, kpW_j2 (by omega)]
    exact Eq.trans rfl rfl
  have ms : ∀ {d k : Nat}, cq_s h d = k → k ≠ 99 → cq_s m d = k := fun w w2 => e.s (by rw [es]; exact w) w2
  clear e es
  have gI : ∀ o, ((31 ≤ o ∧ o ≤ 47) ∨ o = 53) → o ≠ 33 → o ≠ 35 → o ≠ 39 → o ≠ 40 → o ≠ 41 → o ≠ 42 → o ≠ 43 → o ≠ 53 → cq_I g' (x + o) s = cq_I g (x + o) s := fun o w w1 w2 w3 w4 w5 w6 w7 w8 => Q.I_ o s (Or.inl ⟨w, rfl⟩) w1 w2 w3 w4 w5 w6 w7 w8 (by omega)
  have gJ : ∀ o, ((31 ≤ o ∧ o ≤ 47) ∨ o = 53) → o ≠ 31 → o ≠ 32 → o ≠ 34 → o ≠ 36 → o ≠ 37 → o ≠ 38 → cq_J g' (x + o) s = cq_J g (x + o) s := fun o w w1 w2 w3 w4 w5 w6 => Q.J_ o s (Or.inl ⟨w, rfl⟩) w1 w2 w3 w4 w5 w6 (by omega) (by omega)
  have i35 := Q.i35
  refine ⟨ms s0 (by decide), ms s1 (by decide), ms s2 (by decide), ms s3 (by decide), ms s4 (by decide), (hA 19).trans F.a19, by rw [A1]; exact F.k0, by rw [A1]; exact F.k1, by rw [A1]; exact F.k2, (hI 0).trans (by rw [gI 44 (by omega) (by decide) (by decide) (by decide) (by decide) (by decide) (by decide) (by decide) (by decide)]; exact F.bg), (hJ 2).trans (by rw [gJ 45 (by omega) (by decide) (by decide) (by decide) (by decide) (by decide) (by decide)]; exact F.be), (hI 5).trans Q.i43.symm, fun w => absurd Q.i43 w, (hJ 6).trans Q.j31.symm, (hJ 8).trans Q.j32.symm, by rw [hA]; exact Option.some_ne_none _, by rw [Q.i33]; decide, ⟨fun w => (by rw [hA] at w; cases w), fun w => (by omega)⟩, fun _ => (hJ 10).trans (by rw [Q.j34, e6]; rfl), fun w => by omega, ⟨t, hA 12, st, by rw [jt0, Q.j36], by rw [jt1, Q.j37]⟩, (hJ 13).trans Q.j38.symm, (hI 15).trans Q.i39.symm, (hI 16).trans Q.i40.symm, (hI 17).trans (by rw [Q.i41, ep]; rfl), (hI 18).trans (by rw [Q.i42]; exact F.ns), by rw [I1, Q.i53, km], by rw [Q.i53]; omega, fun k k1 k2 => ?_⟩
  rw [Q.i53] at k2
  rw [J2, I3, J4]
  unfold kpG
  rw [km]
  by_cases w : cq_I g (x + 53) s + n0 ≤ k
  · have y := Q.n_ (k - (cq_I g (x + 53) s + n0)) (by omega) (by omega)
    have ee : cq_I g (x + 53) s + n0 + (k - (cq_I g (x + 53) s + n0)) = k := by omega
    rw [ee] at y
    have cc : cq_I g (x + 53) s + n0 ≤ k ∧ k < cq_I g (x + 53) s + n0 + n1 := by omega
    rw [if_pos cc, if_pos cc, if_pos cc, y.1, y.2.1, y.2.2, er2 _ (by omega) (by omega)]
    exact ⟨rfl, (by show 0 + (k - (cq_I g (x + 53) s + n0)) = k - (cq_I g (x + 53) s + n0); omega), rfl⟩
  · have cn : ¬ (cq_I g (x + 53) s + n0 ≤ k ∧ k < cq_I g (x + 53) s + n0 + n1) := fun q => w q.1
    rw [if_neg cn, if_neg cn, if_neg cn]
    by_cases w2 : cq_I g (x + 53) s ≤ k
    · have y := Q.m_ (k - cq_I g (x + 53) s) (by omega) (by omega)
      have ee : cq_I g (x + 53) s + (k - cq_I g (x + 53) s) = k := by omega
      rw [ee] at y
      have cc : cq_I g (x + 53) s ≤ k ∧ k < cq_I g (x + 53) s + n0 := by omega
      rw [if_pos cc, if_pos cc, if_pos cc, y.1, y.2.1, y.2.2, er1 _ (by omega) (by omega)]
      exact ⟨F.ot, by rw [F.nr], rfl⟩
    · have y := Q.k_ k k1 (by omega)
      have cc : ¬ (cq_I g (x + 53) s ≤ k ∧ k < cq_I g (x + 53) s + n0) := fun q => w2 q.1
      rw [if_neg cc, if_neg cc, if_neg cc, y.1, y.2.1, y.2.2]
      exact F.kk k k1 (by omega)
end
