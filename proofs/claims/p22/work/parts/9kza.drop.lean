/-! the reference, exactly: a KEPT key goes out; the TEXT is read -/
def PQ2 (x : Nat) (s i : Int) (g g' : cx_Q) : Prop := (∀ j, cq_I g' x j = cq_I g x j) ∧ (∀ j, cq_J g' x j = cq_J g x j) ∧ (∀ o j, 1 ≤ o → ¬ (o = 53 ∧ j = s) → ¬ (o = 55 ∧ 20 * s ≤ j ∧ j < 20 * s + 20) → o ∉ tL → cq_I g' (x + o) j = cq_I g (x + o) j) ∧ (∀ o j, 1 ≤ o → ¬ ((o = 54 ∨ o = 56) ∧ 20 * s ≤ j ∧ j < 20 * s + 20) → o ∉ tL → cq_J g' (x + o) j = cq_J g (x + o) j) ∧ (cq_I g' (x + 53) s = cq_I g (x + 53) s - 1) ∧ (∀ k, 0 ≤ k → k < 20 → cq_J g' (x + 54) (20 * s + k) = if i ≤ k ∧ k < cq_I g (x + 53) s - 1 then cq_J g (x + 54) (20 * s + (k + 1)) else cq_J g (x + 54) (20 * s + k)) ∧ (∀ k, 0 ≤ k → k < 20 → cq_I g' (x + 55) (20 * s + k) = if i ≤ k ∧ k < cq_I g (x + 53) s - 1 then cq_I g (x + 55) (20 * s + (k + 1)) else cq_I g (x + 55) (20 * s + k)) ∧ (∀ k, 0 ≤ k → k < 20 → cq_J g' (x + 56) (20 * s + k) = if i ≤ k ∧ k < cq_I g (x + 53) s - 1 then cq_J g (x + 56) (20 * s + (k + 1)) else cq_J g (x + 56) (20 * s + k))
theorem PQ2.x_ {x : Nat} {s i : Int} {g g' : cx_Q} (F_ : PQ2 x s i g g') : ∀ j, cq_I g' x j = cq_I g x j := F_.1
theorem PQ2.xJ {x : Nat} {s i : Int} {g g' : cx_Q} (F_ : PQ2 x s i g g') : ∀ j, cq_J g' x j = cq_J g x j := F_.2.1
theorem PQ2.I_ {x : Nat} {s i : Int} {g g' : cx_Q} (F_ : PQ2 x s i g g') : ∀ o j, 1 ≤ o → ¬ (o = 53 ∧ j = s) → ¬ (o = 55 ∧ 20 * s ≤ j ∧ j < 20 * s + 20) → o ∉ tL → cq_I g' (x + o) j = cq_I g (x + o) j := F_.2.2.1
theorem PQ2.J_ {x : Nat} {s i : Int} {g g' : cx_Q} (F_ : PQ2 x s i g g') : ∀ o j, 1 ≤ o → ¬ ((o = 54 ∨ o = 56) ∧ 20 * s ≤ j ∧ j < 20 * s + 20) → o ∉ tL → cq_J g' (x + o) j = cq_J g (x + o) j := F_.2.2.2.1
theorem PQ2.i53 {x : Nat} {s i : Int} {g g' : cx_Q} (F_ : PQ2 x s i g g') : cq_I g' (x + 53) s = cq_I g (x + 53) s - 1 := F_.2.2.2.2.1
theorem PQ2.k54 {x : Nat} {s i : Int} {g g' : cx_Q} (F_ : PQ2 x s i g g') : ∀ k, 0 ≤ k → k < 20 → cq_J g' (x + 54) (20 * s + k) = if i ≤ k ∧ k < cq_I g (x + 53) s - 1 then cq_J g (x + 54) (20 * s + (k + 1)) else cq_J g (x + 54) (20 * s + k) := F_.2.2.2.2.2.1
theorem PQ2.k55 {x : Nat} {s i : Int} {g g' : cx_Q} (F_ : PQ2 x s i g g') : ∀ k, 0 ≤ k → k < 20 → cq_I g' (x + 55) (20 * s + k) = if i ≤ k ∧ k < cq_I g (x + 53) s - 1 then cq_I g (x + 55) (20 * s + (k + 1)) else cq_I g (x + 55) (20 * s + k) := F_.2.2.2.2.2.2.1
theorem PQ2.k56 {x : Nat} {s i : Int} {g g' : cx_Q} (F_ : PQ2 x s i g g') : ∀ k, 0 ≤ k → k < 20 → cq_J g' (x + 56) (20 * s + k) = if i ≤ k ∧ k < cq_I g (x + 53) s - 1 then cq_J g (x + 56) (20 * s + (k + 1)) else cq_J g (x + 56) (20 * s + k) := F_.2.2.2.2.2.2.2
section
variable {x : Nat} {s : Int} {g g' : cx_Q}
theorem dk_v : ∀ {n : Nat} {k : Int} {g : cx_Q}, (∀ j, cq_J (m_dk x n k g) (x + 54) j = if k ≤ j ∧ j < k + n then cq_J g (x + 54) (j + 1) else cq_J g (x + 54) j) ∧ (∀ j, cq_I (m_dk x n k g) (x + 55) j = if k ≤ j ∧ j < k + n then cq_I g (x + 55) (j + 1) else cq_I g (x + 55) j) ∧ (∀ j, cq_J (m_dk x n k g) (x + 56) j = if k ≤ j ∧ j < k + n then cq_J g (x + 56) (j + 1) else cq_J g (x + 56) j) ∧ (∀ i j, i ≠ x + 55 → i ≠ x + 57 → cq_I (m_dk x n k g) i j = cq_I g i j) ∧ (∀ i j, i ≠ x + 54 → i ≠ x + 56 → cq_J (m_dk x n k g) i j = cq_J g i j) := by
  intro n
  induction n with
  | zero =>
    intro k g
    rw [m_dk_0]
    exact ⟨fun j => by rw [if_neg (by omega)], fun j => by rw [if_neg (by omega)], fun j => by rw [if_neg (by omega)], fun _ _ _ _ => rfl, fun _ _ _ _ => rfl⟩
  | succ n ih =>
    intro k g
    rw [m_dk_s]
    obtain ⟨a1, a2, a3, a4, a5⟩ := ih (k := k + 1) (g := m_dk1 g x k)
    have e54 : ∀ j, cq_J (m_dk1 g x k) (x + 54) j = if j = k then cq_J g (x + 54) (k + 1) else cq_J g (x + 54) j := fun j => by
      unfold m_dk1
      simp only [mm_sI, mm_sJ, mm_sA, mm_IJ, mm_IA, mm_JI, mm_JA, mm_AI, mm_AJ, mm_ssI, mm_ssJ, mm_ssA, mm_zI, mm_zJ, mm_zA, mm_nI, mm_nJ, mm_nA, Nat.left_eq_add, Nat.add_eq_left, Nat.add_left_cancel_iff, Nat.reduceEqDiff, Int.reduceEq, false_and, and_false, if_false, if_true, and_self, true_and, true_or, or_true, false_or, or_false]
    have e55 : ∀ j, cq_I (m_dk1 g x k) (x + 55) j = if j = k then cq_I g (x + 55) (k + 1) else cq_I g (x + 55) j := fun j => by
      unfold m_dk1
      simp only [mm_sI, mm_sJ, mm_sA, mm_IJ, mm_IA, mm_JI, mm_JA, mm_AI, mm_AJ, mm_ssI, mm_ssJ, mm_ssA, mm_zI, mm_zJ, mm_zA, mm_nI, mm_nJ, mm_nA, Nat.left_eq_add, Nat.add_eq_left, Nat.add_left_cancel_iff, Nat.reduceEqDiff, Int.reduceEq, false_and, and_false, if_false, if_true, and_self, true_and, true_or, or_true, false_or, or_false]
    have e56 : ∀ j, cq_J (m_dk1 g x k) (x + 56) j = if j = k then cq_J g (x + 56) (k + 1) else cq_J g (x + 56) j := fun j => by
      unfold m_dk1
      simp only [mm_sI, mm_sJ, mm_sA, mm_IJ, mm_IA, mm_JI, mm_JA, mm_AI, mm_AJ, mm_ssI, mm_ssJ, mm_ssA, mm_zI, mm_zJ, mm_zA, mm_nI, mm_nJ, mm_nA, Nat.left_eq_add, Nat.add_eq_left, Nat.add_left_cancel_iff, Nat.reduceEqDiff, Int.reduceEq, false_and, and_false, if_false, if_true, and_self, true_and, true_or, or_true, false_or, or_false]
    refine ⟨fun j => ?_, fun j => ?_, fun j => ?_, fun i j w1 w2 => ?_, fun i j w1 w2 => ?_⟩
    · rw [a1, e54, e54]
      by_cases w : j = k
      · rw [if_neg (by omega), if_pos w, if_pos (by omega), w]
      · by_cases w2 : k ≤ j ∧ j < k + ((n + 1 : Nat) : Int)
        · rw [if_pos (by omega), if_neg (by omega), if_pos w2]
        · rw [if_neg (by omega), if_neg w, if_neg w2]
    · rw [a2, e55, e55]
      by_cases w : j = k
      · rw [if_neg (by omega), if_pos w, if_pos (by omega), w]
      · by_cases w2 : k ≤ j ∧ j < k + ((n + 1 : Nat) : Int)
        · rw [if_pos (by omega), if_neg (by omega), if_pos w2]
        · rw [if_neg (by omega), if_neg w, if_neg w2]
    · rw [a3, e56, e56]
      by_cases w : j = k
      · rw [if_neg (by omega), if_pos w, if_pos (by omega), w]
      · by_cases w2 : k ≤ j ∧ j < k + ((n + 1 : Nat) : Int)
        · rw [if_pos (by omega), if_neg (by omega), if_pos w2]
        · rw [if_neg (by omega), if_neg w, if_neg w2]
    · rw [a4 i j w1 w2]
      unfold m_dk1
      simp only [mm_sI, mm_IJ, w1, w2, false_and, if_false]
    · rw [a5 i j w1 w2]
      unfold m_dk1
      simp only [mm_sJ, mm_JI, w1, w2, false_and, if_false]
theorem drop_q {i : Int} (hi : 0 ≤ i ∧ i < cq_I g (x + 53) s) (hk : cq_I g (x + 53) s ≤ 20) : PQ2 x s i g (m_drop g x s i) := by
  obtain ⟨a1, a2, a3, a4, a5⟩ := dk_v (x := x) (n := (cq_I g (x + 53) s - 1 - i).toNat) (k := 20 * s + i) (g := cq_sI g (x + 53) s (cq_I g (x + 53) s - 1))
  unfold m_drop
  generalize m_dk x (cq_I g (x + 53) s - 1 - i).toNat (20 * s + i) (cq_sI g (x + 53) s (cq_I g (x + 53) s - 1)) = g' at a1 a2 a3 a4 a5
  have n57 : 57 ∈ tL := by decide
  have o5 : ∀ o : Nat, o ∉ tL → o ≠ 57 := fun o w q => w (by rw [q]; exact n57)
  refine ⟨fun j => ?_, fun j => ?_, fun o j ho w1 w2 w3 => ?_, fun o j ho w w3 => ?_, ?_, fun k k0 k1 => ?_, fun k k0 k1 => ?_, fun k k0 k1 => ?_⟩
  · rw [a4 x j (by omega) (by omega), mm_sI, if_neg (fun q => by omega)]
  · rw [a5 x j (by omega) (by omega), mm_JI]
  · have := o5 o w3
    by_cases e : o = 55
    · rw [e, a2, if_neg (fun q => w2 ⟨e, by omega, by omega⟩), mm_sI, if_neg (fun q => by omega)]
    · rw [a4 (x + o) j (by omega) (by omega), mm_sI, if_neg (fun q => w1 ⟨by omega, q.2⟩)]
  · by_cases e : o = 54
    · rw [e, a1, if_neg (fun q => w ⟨Or.inl e, by omega, by omega⟩), mm_JI]
    · by_cases e2 : o = 56
      · rw [e2, a3, if_neg (fun q => w ⟨Or.inr e2, by omega, by omega⟩), mm_JI]
      · rw [a5 (x + o) j (by omega) (by omega), mm_JI]
  · rw [a4 (x + 53) s (by omega) (by omega), mm_sI, if_pos ⟨rfl, rfl⟩]
  · have e : 20 * s + k + 1 = 20 * s + (k + 1) := by omega
    rw [a1, mm_JI, e]
    by_cases w : i ≤ k ∧ k < cq_I g (x + 53) s - 1
    · rw [if_pos (by omega), if_pos w]
    · rw [if_neg (by omega), if_neg w]
  · have e : 20 * s + k + 1 = 20 * s + (k + 1) := by omega
    have c55 : ∀ j, cq_I (cq_sI g (x + 53) s (cq_I g (x + 53) s - 1)) (x + 55) j = cq_I g (x + 55) j := fun j => by rw [mm_sI, if_neg (fun q => by omega)]
    rw [a2, c55, c55, e]
    by_cases w : i ≤ k ∧ k < cq_I g (x + 53) s - 1
    · rw [if_pos (by omega), if_pos w]
    · rw [if_neg (by omega), if_neg w]
  · have e : 20 * s + k + 1 = 20 * s + (k + 1) := by omega
    rw [a3, mm_JI, e]
    by_cases w : i ≤ k ∧ k < cq_I g (x + 53) s - 1
    · rw [if_pos (by omega), if_pos w]
    · rw [if_neg (by omega), if_neg w]
/-- the TEXT is read with key k -/
def TQ2 (x : Nat) (k : Int64) (g g' : cx_Q) : Prop := (∀ j, j ≠ 75 → cq_I g' x j = cq_I g x j) ∧ (cq_I g' x 75 = cq_I g x 83) ∧ (∀ o j, 1 ≤ o → o ≠ 65 → cq_I g' (x + o) j = cq_I g (x + o) j) ∧ (∀ i j, cq_J g' i j = cq_J g i j) ∧ (∀ i, 0 ≤ i → i < cq_I g x 83 → cq_I g' (x + 65) i = cx_and (Int64.ofInt (cq_I g (x + 62) (cq_I g x 77 + cq_I g x 82 + i)) ^^^ f_key 5 k (Int64.ofInt i)).toInt32.toInt 255)
theorem TQ2.x_ {x : Nat} {k : Int64} {g g' : cx_Q} (F_ : TQ2 x k g g') : ∀ j, j ≠ 75 → cq_I g' x j = cq_I g x j := F_.1
theorem TQ2.x75 {x : Nat} {k : Int64} {g g' : cx_Q} (F_ : TQ2 x k g g') : cq_I g' x 75 = cq_I g x 83 := F_.2.1
theorem TQ2.I_ {x : Nat} {k : Int64} {g g' : cx_Q} (F_ : TQ2 x k g g') : ∀ o j, 1 ≤ o → o ≠ 65 → cq_I g' (x + o) j = cq_I g (x + o) j := F_.2.2.1
theorem TQ2.J_ {x : Nat} {k : Int64} {g g' : cx_Q} (F_ : TQ2 x k g g') : ∀ i j, cq_J g' i j = cq_J g i j := F_.2.2.2.1
theorem TQ2.r_ {x : Nat} {k : Int64} {g g' : cx_Q} (F_ : TQ2 x k g g') : ∀ i, 0 ≤ i → i < cq_I g x 83 → cq_I g' (x + 65) i = cx_and (Int64.ofInt (cq_I g (x + 62) (cq_I g x 77 + cq_I g x 82 + i)) ^^^ f_key 5 k (Int64.ofInt i)).toInt32.toInt 255 := F_.2.2.2.2
theorem rt_v {k : Int64} : ∀ {n : Nat} {i : Int} {g : cx_Q}, (∀ a j, a ≠ x + 65 → cq_I (m_rt x k n i g) a j = cq_I g a j) ∧ (∀ a j, cq_J (m_rt x k n i g) a j = cq_J g a j) ∧ (∀ j, cq_I (m_rt x k n i g) (x + 65) j = if i ≤ j ∧ j < i + n then cx_and (Int64.ofInt (cq_I g (x + 62) (cq_I g x 77 + cq_I g x 82 + j)) ^^^ f_key 5 k (Int64.ofInt j)).toInt32.toInt 255 else cq_I g (x + 65) j) := by
  intro n
  induction n with
  | zero =>
    intro i g
    have e : m_rt x k 0 i g = g := by unfold m_rt; rw [m_itq]
    rw [e]
    exact ⟨fun _ _ _ => rfl, fun _ _ => rfl, fun j => by rw [if_neg (by omega)]⟩
  | succ n ih =>
    intro i g
    rw [m_rt_s]
    obtain ⟨a1, a2, a3⟩ := ih (i := i + 1) (g := m_rt1 g x k i)
    have o : ∀ a j, a ≠ x + 65 → cq_I (m_rt1 g x k i) a j = cq_I g a j := fun a j w => by
      unfold m_rt1
      rw [mm_sI, if_neg (fun q => w q.1)]
    refine ⟨fun a j w => (a1 a j w).trans (o a j w), fun a j => (a2 a j).trans rfl, fun j => ?_⟩
    rw [a3, o x 77 (by omega), o x 82 (by omega), o (x + 62) _ (by omega)]
    by_cases w : j = i
    · rw [if_neg (by omega), if_pos (by omega)]
      unfold m_rt1
      rw [mm_sI, if_pos ⟨rfl, w⟩, w]
    · by_cases w2 : i ≤ j ∧ j < i + ((n + 1 : Nat) : Int)
      · rw [if_pos (by omega), if_pos w2]
      · rw [if_neg (by omega), if_neg w2]
        unfold m_rt1
        rw [mm_sI, if_neg (fun q => w q.2)]
theorem read_q {k : Int64} : TQ2 x k g (m_readText g x k) := by
  obtain ⟨a1, a2, a3⟩ := rt_v (x := x) (k := k) (n := (cq_I g x 83).toNat) (i := 0) (g := cq_sI g x 75 (cq_I g x 83))
  unfold m_readText
  have o : ∀ a j, a ≠ x → cq_I (cq_sI g x 75 (cq_I g x 83)) a j = cq_I g a j := fun a j w => by rw [mm_sI, if_neg (fun q => w q.1)]
  refine ⟨fun j w => ?_, ?_, fun o' j ho w => ?_, fun i j => ?_, fun i i0 i1 => ?_⟩
  · rw [a1 x j (by omega), mm_sI, if_neg (fun q => w q.2)]
  · rw [a1 x 75 (by omega), mm_sI, if_pos ⟨rfl, rfl⟩]
  · rw [a1 _ j (by omega), o _ j (by omega)]
  · rw [a2, mm_JI]
  · rw [a3, if_pos (by omega), o (x + 62) _ (by omega), mm_sI, if_neg (fun q => absurd q.2 (by decide)), mm_sI, if_neg (fun q => absurd q.2 (by decide))]
end
