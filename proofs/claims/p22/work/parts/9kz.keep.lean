/-! the reference, exactly: keys are KEPT, and one goes out -/
def KQ (x : Nat) (s n : Int) (g g' : cx_Q) : Prop := (∀ j, cq_I g' x j = cq_I g x j) ∧ (∀ j, cq_J g' x j = cq_J g x j) ∧ (∀ o j, 1 ≤ o → ¬ ((o = 41 ∨ o = 53) ∧ j = s) → ¬ (o = 55 ∧ 20 * s ≤ j ∧ j < 20 * s + 20) → cq_I g' (x + o) j = cq_I g (x + o) j) ∧ (∀ o j, 1 ≤ o → ¬ (o = 34 ∧ j = s) → ¬ ((o = 54 ∨ o = 56) ∧ 20 * s ≤ j ∧ j < 20 * s + 20) → cq_J g' (x + o) j = cq_J g (x + o) j) ∧ (cq_I g' (x + 41) s = cq_I g (x + 41) s + n) ∧ (cq_I g' (x + 53) s = cq_I g (x + 53) s + n) ∧ (cq_J g' (x + 34) s = nxI n.toNat (cq_J g (x + 34) s)) ∧ (∀ i, 0 ≤ i → i < 20 → cq_J g' (x + 54) (20 * s + i) = if cq_I g (x + 53) s ≤ i ∧ i < cq_I g (x + 53) s + n then cq_J g (x + 38) s else cq_J g (x + 54) (20 * s + i)) ∧ (∀ i, 0 ≤ i → i < 20 → cq_I g' (x + 55) (20 * s + i) = if cq_I g (x + 53) s ≤ i ∧ i < cq_I g (x + 53) s + n then cq_I g (x + 41) s + (i - cq_I g (x + 53) s) else cq_I g (x + 55) (20 * s + i)) ∧ (∀ i, 0 ≤ i → i < 20 → cq_J g' (x + 56) (20 * s + i) = if cq_I g (x + 53) s ≤ i ∧ i < cq_I g (x + 53) s + n then lkC (nxI (i - cq_I g (x + 53) s).toNat (cq_J g (x + 34) s)) else cq_J g (x + 56) (20 * s + i))
theorem KQ.x_ {x : Nat} {s n : Int} {g g' : cx_Q} (F_ : KQ x s n g g') : ∀ j, cq_I g' x j = cq_I g x j := F_.1
theorem KQ.xJ {x : Nat} {s n : Int} {g g' : cx_Q} (F_ : KQ x s n g g') : ∀ j, cq_J g' x j = cq_J g x j := F_.2.1
theorem KQ.I_ {x : Nat} {s n : Int} {g g' : cx_Q} (F_ : KQ x s n g g') : ∀ o j, 1 ≤ o → ¬ ((o = 41 ∨ o = 53) ∧ j = s) → ¬ (o = 55 ∧ 20 * s ≤ j ∧ j < 20 * s + 20) → cq_I g' (x + o) j = cq_I g (x + o) j := F_.2.2.1
theorem KQ.J_ {x : Nat} {s n : Int} {g g' : cx_Q} (F_ : KQ x s n g g') : ∀ o j, 1 ≤ o → ¬ (o = 34 ∧ j = s) → ¬ ((o = 54 ∨ o = 56) ∧ 20 * s ≤ j ∧ j < 20 * s + 20) → cq_J g' (x + o) j = cq_J g (x + o) j := F_.2.2.2.1
theorem KQ.i41 {x : Nat} {s n : Int} {g g' : cx_Q} (F_ : KQ x s n g g') : cq_I g' (x + 41) s = cq_I g (x + 41) s + n := F_.2.2.2.2.1
theorem KQ.i53 {x : Nat} {s n : Int} {g g' : cx_Q} (F_ : KQ x s n g g') : cq_I g' (x + 53) s = cq_I g (x + 53) s + n := F_.2.2.2.2.2.1
theorem KQ.j34 {x : Nat} {s n : Int} {g g' : cx_Q} (F_ : KQ x s n g g') : cq_J g' (x + 34) s = nxI n.toNat (cq_J g (x + 34) s) := F_.2.2.2.2.2.2.1
theorem KQ.k54 {x : Nat} {s n : Int} {g g' : cx_Q} (F_ : KQ x s n g g') : ∀ i, 0 ≤ i → i < 20 → cq_J g' (x + 54) (20 * s + i) = if cq_I g (x + 53) s ≤ i ∧ i < cq_I g (x + 53) s + n then cq_J g (x + 38) s else cq_J g (x + 54) (20 * s + i) := F_.2.2.2.2.2.2.2.1
theorem KQ.k55 {x : Nat} {s n : Int} {g g' : cx_Q} (F_ : KQ x s n g g') : ∀ i, 0 ≤ i → i < 20 → cq_I g' (x + 55) (20 * s + i) = if cq_I g (x + 53) s ≤ i ∧ i < cq_I g (x + 53) s + n then cq_I g (x + 41) s + (i - cq_I g (x + 53) s) else cq_I g (x + 55) (20 * s + i) := F_.2.2.2.2.2.2.2.2.1
theorem KQ.k56 {x : Nat} {s n : Int} {g g' : cx_Q} (F_ : KQ x s n g g') : ∀ i, 0 ≤ i → i < 20 → cq_J g' (x + 56) (20 * s + i) = if cq_I g (x + 53) s ≤ i ∧ i < cq_I g (x + 53) s + n then lkC (nxI (i - cq_I g (x + 53) s).toNat (cq_J g (x + 34) s)) else cq_J g (x + 56) (20 * s + i) := F_.2.2.2.2.2.2.2.2.2
theorem nxI_t {k : Nat} {u : Int64} : nxI (k + 1) u = nxI k (nx1 u) := by unfold nxI; rw [itN_t]
section
variable {x : Nat} {s : Int} {g g' : cx_Q}
theorem KQ.refl : KQ x s 0 g g := by
  refine ⟨fun _ => rfl, fun _ => rfl, fun _ _ _ _ _ => rfl, fun _ _ _ _ _ => rfl, by omega, by omega, ?_, fun i _ _ => ?_, fun i _ _ => ?_, fun i _ _ => ?_⟩
  · show _ = nxI 0 _
    rw [nxI_0]
  · rw [if_neg (by omega)]
  · rw [if_neg (by omega)]
  · rw [if_neg (by omega)]
theorem keep1_q (h0 : 0 ≤ cq_I g (x + 53) s ∧ cq_I g (x + 53) s < 20) : KQ x s 1 g (m_keep1 g x s) := by
  have n34 : nxI (1 : Int).toNat (cq_J g (x + 34) s) = f_key 4 (cq_J g (x + 34) s) (Int64.ofInt 0) := by
    show nxI 1 _ = _
    rw [nxI_s, nxI_0]
    rfl
  unfold m_keep1 m_step m_keepB m_keepA
  refine ⟨fun j => ?_, fun j => ?_, fun o j ho w1 w2 => ?_, fun o j ho w1 w2 => ?_, ?_, ?_, ?_, fun i i0 i1 => ?_, fun i i0 i1 => ?_, fun i i0 i1 => ?_⟩
  · simp only [mm_sI, mm_sJ, mm_sA, mm_IJ, mm_IA, mm_JI, mm_JA, mm_AI, mm_AJ, mm_ssI, mm_ssJ, mm_ssA, mm_zI, mm_zJ, mm_zA, mm_nI, mm_nJ, mm_nA, Nat.left_eq_add, Nat.add_eq_left, Nat.add_left_cancel_iff, Nat.reduceEqDiff, Int.reduceEq, false_and, and_false, if_false, if_true, and_self, true_and, true_or, or_true, false_or, or_false]
  · simp only [mm_sI, mm_sJ, mm_sA, mm_IJ, mm_IA, mm_JI, mm_JA, mm_AI, mm_AJ, mm_ssI, mm_ssJ, mm_ssA, mm_zI, mm_zJ, mm_zA, mm_nI, mm_nJ, mm_nA, Nat.left_eq_add, Nat.add_eq_left, Nat.add_left_cancel_iff, Nat.reduceEqDiff, Int.reduceEq, false_and, and_false, if_false, if_true, and_self, true_and, true_or, or_true, false_or, or_false]
  · have a1 : ¬ (x + o = x + 41 ∧ j = s) := fun q => w1 ⟨by omega, q.2⟩
    have a2 : ¬ (x + o = x + 53 ∧ j = s) := fun q => w1 ⟨by omega, q.2⟩
    have a3 : ¬ (x + o = x + 55 ∧ j = 20 * s + cq_I g (x + 53) s) := fun q => w2 ⟨by omega, by omega, by omega⟩
    simp only [mm_sI, mm_IJ, a1, a2, a3, if_false]
  · have a1 : ¬ (x + o = x + 34 ∧ j = s) := fun q => w1 ⟨by omega, q.2⟩
    have a2 : ¬ (x + o = x + 54 ∧ j = 20 * s + cq_I g (x + 53) s) := fun q => w2 ⟨by omega, by omega, by omega⟩
    have a3 : ¬ (x + o = x + 56 ∧ j = 20 * s + cq_I g (x + 53) s) := fun q => w2 ⟨by omega, by omega, by omega⟩
    simp only [mm_sJ, mm_JI, a1, a2, a3, if_false]
  · simp only [mm_sI, mm_sJ, mm_sA, mm_IJ, mm_IA, mm_JI, mm_JA, mm_AI, mm_AJ, mm_ssI, mm_ssJ, mm_ssA, mm_zI, mm_zJ, mm_zA, mm_nI, mm_nJ, mm_nA, Nat.left_eq_add, Nat.add_eq_left, Nat.add_left_cancel_iff, Nat.reduceEqDiff, Int.reduceEq, false_and, and_false, if_false, if_true, and_self, true_and, true_or, or_true, false_or, or_false]
  · simp only [mm_sI, mm_sJ, mm_sA, mm_IJ, mm_IA, mm_JI, mm_JA, mm_AI, mm_AJ, mm_ssI, mm_ssJ, mm_ssA, mm_zI, mm_zJ, mm_zA, mm_nI, mm_nJ, mm_nA, Nat.left_eq_add, Nat.add_eq_left, Nat.add_left_cancel_iff, Nat.reduceEqDiff, Int.reduceEq, false_and, and_false, if_false, if_true, and_self, true_and, true_or, or_true, false_or, or_false]
  · rw [n34]
    simp only [mm_sI, mm_sJ, mm_sA, mm_IJ, mm_IA, mm_JI, mm_JA, mm_AI, mm_AJ, mm_ssI, mm_ssJ, mm_ssA, mm_zI, mm_zJ, mm_zA, mm_nI, mm_nJ, mm_nA, Nat.left_eq_add, Nat.add_eq_left, Nat.add_left_cancel_iff, Nat.reduceEqDiff, Int.reduceEq, false_and, and_false, if_false, if_true, and_self, true_and, true_or, or_true, false_or, or_false]
  · simp only [mm_sI, mm_sJ, mm_sA, mm_IJ, mm_IA, mm_JI, mm_JA, mm_AI, mm_AJ, mm_ssI, mm_ssJ, mm_ssA, mm_zI, mm_zJ, mm_zA, mm_nI, mm_nJ, mm_nA, Nat.left_eq_add, Nat.add_eq_left, Nat.add_left_cancel_iff, Nat.reduceEqDiff, Int.reduceEq, false_and, and_false, if_false, if_true, and_self, true_and, true_or, or_true, false_or, or_false]
    by_cases w : i = cq_I g (x + 53) s
    · rw [if_pos (by omega), if_pos (by omega)]
    · rw [if_neg (by omega), if_neg (by omega)]
  · simp only [mm_sI, mm_sJ, mm_sA, mm_IJ, mm_IA, mm_JI, mm_JA, mm_AI, mm_AJ, mm_ssI, mm_ssJ, mm_ssA, mm_zI, mm_zJ, mm_zA, mm_nI, mm_nJ, mm_nA, Nat.left_eq_add, Nat.add_eq_left, Nat.add_left_cancel_iff, Nat.reduceEqDiff, Int.reduceEq, false_and, and_false, if_false, if_true, and_self, true_and, true_or, or_true, false_or, or_false]
    by_cases w : i = cq_I g (x + 53) s
    · rw [if_pos (by omega), if_pos (by omega)]
      omega
    · rw [if_neg (by omega), if_neg (by omega)]
  · simp only [mm_sI, mm_sJ, mm_sA, mm_IJ, mm_IA, mm_JI, mm_JA, mm_AI, mm_AJ, mm_ssI, mm_ssJ, mm_ssA, mm_zI, mm_zJ, mm_zA, mm_nI, mm_nJ, mm_nA, Nat.left_eq_add, Nat.add_eq_left, Nat.add_left_cancel_iff, Nat.reduceEqDiff, Int.reduceEq, false_and, and_false, if_false, if_true, and_self, true_and, true_or, or_true, false_or, or_false]
    by_cases w : i = cq_I g (x + 53) s
    · rw [if_pos (by omega), if_pos (by omega)]
      have e : (i - cq_I g (x + 53) s).toNat = 0 := by omega
      rw [e, nxI_0]
      rfl
    · rw [if_neg (by omega), if_neg (by omega)]
theorem KQ.next {g1 : cx_Q} {n : Int} (hn : 0 ≤ n) (h0 : 0 ≤ cq_I g (x + 53) s ∧ cq_I g (x + 53) s + (n + 1) ≤ 20) (A : KQ x s 1 g g1) (B : KQ x s n g1 g') : KQ x s (n + 1) g g' := by
  have e1 : (n + 1).toNat = n.toNat + 1 := by omega
  have j1 : cq_J g1 (x + 34) s = nx1 (cq_J g (x + 34) s) := by
    rw [A.j34]
    show nxI 1 _ = _
    rw [nxI_s, nxI_0]
  have i53 := A.i53
  have i41 := A.i41
  have j38 : cq_J g1 (x + 38) s = cq_J g (x + 38) s := A.J_ 38 s (by decide) (by omega) (by omega)
  refine ⟨fun j => (B.x_ j).trans (A.x_ j), fun j => (B.xJ j).trans (A.xJ j), fun o j ho w1 w2 => (B.I_ o j ho w1 w2).trans (A.I_ o j ho w1 w2), fun o j ho w1 w2 => (B.J_ o j ho w1 w2).trans (A.J_ o j ho w1 w2), by rw [B.i41, i41]; omega, by rw [B.i53, i53]; omega, by rw [B.j34, j1, e1, nxI_t], fun i i0 i1 => ?_, fun i i0 i1 => ?_, fun i i0 i1 => ?_⟩
  · rw [B.k54 i i0 i1, i53, j38, A.k54 i i0 i1]
    by_cases w : i = cq_I g (x + 53) s
    · rw [if_neg (by omega), if_pos (by omega), if_pos (by omega)]
    · by_cases w2 : cq_I g (x + 53) s ≤ i ∧ i < cq_I g (x + 53) s + (n + 1)
      · rw [if_pos (by omega), if_pos w2]
      · rw [if_neg (by omega), if_neg (by omega), if_neg w2]
  · rw [B.k55 i i0 i1, i53, i41, A.k55 i i0 i1]
    by_cases w : i = cq_I g (x + 53) s
    · rw [if_neg (by omega), if_pos (by omega), if_pos (by omega)]
    · by_cases w2 : cq_I g (x + 53) s ≤ i ∧ i < cq_I g (x + 53) s + (n + 1)
      · rw [if_pos (by omega), if_pos w2]
        omega
      · rw [if_neg (by omega), if_neg (by omega), if_neg w2]
  · rw [B.k56 i i0 i1, i53, j1, A.k56 i i0 i1]
    by_cases w : i = cq_I g (x + 53) s
    · rw [if_neg (by omega), if_pos (by omega), if_pos (by omega)]
    · by_cases w2 : cq_I g (x + 53) s ≤ i ∧ i < cq_I g (x + 53) s + (n + 1)
      · rw [if_pos (by omega), if_pos w2]
        have e2 : (i - cq_I g (x + 53) s).toNat = (i - (cq_I g (x + 53) s + 1)).toNat + 1 := by omega
        rw [e2, nxI_t]
      · rw [if_neg (by omega), if_neg (by omega), if_neg w2]
theorem keep_q : ∀ {n : Nat} {g : cx_Q}, 0 ≤ cq_I g (x + 53) s ∧ cq_I g (x + 53) s + n ≤ 20 → KQ x s n g (m_keep x s n g) := by
  intro n
  induction n with
  | zero =>
    intro g _
    unfold m_keep
    rw [m_itd]
    exact KQ.refl
  | succ n ih =>
    intro g h0
    have A := keep1_q (x := x) (s := s) (g := g) (by omega)
    have e : m_keep x s (n + 1) g = m_keep x s n (m_keep1 g x s) := by
      unfold m_keep
      rw [m_itd]
    rw [e]
    have i53 := A.i53
    generalize m_keep1 g x s = g1 at A i53 ⊢
    have B := ih (g := g1) (by rw [i53]; omega)
    have e2 : ((n + 1 : Nat) : Int) = (n : Int) + 1 := by omega
    rw [e2]
    exact KQ.next (by omega) (by omega) A B
end
