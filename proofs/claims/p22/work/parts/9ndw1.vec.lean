/-! rows of numbers packed into one number, 128 bits each -/
def w_v : Nat → (Nat → Nat) → Nat
  | 0, _ => 0
  | n + 1, f => w_v n f + f n * 2 ^ (128 * n)
theorem wv_0 (f : Nat → Nat) : w_v 0 f = 0 := by rw [w_v]
theorem wv_s (n : Nat) (f : Nat → Nat) : w_v (n + 1) f = w_v n f + f n * 2 ^ (128 * n) := by rw [w_v]
theorem wv_add (f g : Nat → Nat) : ∀ n : Nat, w_v n f + w_v n g = w_v n (fun t => f t + g t)
  | 0 => by rw [wv_0, wv_0, wv_0]
  | n + 1 => by
    rw [wv_s, wv_s, wv_s, ← wv_add f g n, Nat.add_mul]
    generalize f n * 2 ^ (128 * n) = a
    generalize g n * 2 ^ (128 * n) = b
    omega
theorem wv_mul (f : Nat → Nat) (c : Nat) : ∀ n : Nat, w_v n f * c = w_v n (fun t => f t * c)
  | 0 => by rw [wv_0, wv_0, Nat.zero_mul]
  | n + 1 => by rw [wv_s, wv_s, ← wv_mul f c n, Nat.add_mul, Nat.mul_right_comm]
theorem wv_congr {f g : Nat → Nat} : ∀ {n : Nat}, (∀ t, t < n → f t = g t) → w_v n f = w_v n g
  | 0, _ => by rw [wv_0, wv_0]
  | n + 1, h => by rw [wv_s, wv_s, wv_congr (fun t q => h t (Nat.lt_succ_of_lt q)), h n (Nat.lt_succ_self n)]
theorem wv_lt {f : Nat → Nat} : ∀ {n : Nat}, (∀ t, t < n → f t < 2 ^ 128) → w_v n f < 2 ^ (128 * n)
  | 0, _ => by rw [wv_0]; exact Nat.two_pow_pos _
  | n + 1, h => by
    have i := wv_lt (fun t q => h t (Nat.lt_succ_of_lt q))
    have e : 2 ^ (128 * (n + 1)) = 2 ^ 128 * 2 ^ (128 * n) := by rw [Nat.mul_succ, Nat.pow_add, Nat.mul_comm]
    have m := Nat.mul_le_mul_right (2 ^ (128 * n)) (Nat.succ_le_of_lt (h n (Nat.lt_succ_self n)))
    rw [Nat.succ_mul] at m
    rw [wv_s, e]
    exact Nat.lt_of_lt_of_le (by rw [Nat.add_comm]; exact Nat.add_lt_add_left i _) m
theorem wv_bit {f : Nat → Nat} (j : Nat) : ∀ {n : Nat}, (∀ t, t < n → f t < 2 ^ 128) → Nat.testBit (w_v n f) j = (decide (j / 128 < n) && Nat.testBit (f (j / 128)) (j % 128))
  | 0, _ => by rw [wv_0, Nat.zero_testBit, decide_eq_false (Nat.not_lt_zero _), Bool.false_and]
  | n + 1, h => by
    have h' : ∀ t, t < n → f t < 2 ^ 128 := fun t q => h t (Nat.lt_succ_of_lt q)
    have fn := h n (Nat.lt_succ_self n)
    rw [wv_s, Nat.add_comm, Nat.mul_comm (f n), Nat.testBit_two_pow_mul_add (f n) (wv_lt h') j]
    by_cases q : j < 128 * n
    · have q1 : j / 128 < n := by omega
      have q2 : j / 128 < n + 1 := by omega
      rw [if_pos q, wv_bit j h', decide_eq_true q1, decide_eq_true q2]
    · rw [if_neg q]
      by_cases z : j / 128 = n
      · have z1 : j - 128 * n = j % 128 := by omega
        have z2 : j / 128 < n + 1 := by omega
        rw [z1, decide_eq_true z2, Bool.true_and, z]
      · have z2 : ¬ j / 128 < n + 1 := by omega
        have z3 : 128 ≤ j - 128 * n := by omega
        rw [decide_eq_false z2, Bool.false_and]
        exact Nat.testBit_lt_two_pow (Nat.lt_of_lt_of_le fn (Nat.pow_le_pow_right (by decide) z3))
theorem wv_and {f g : Nat → Nat} {n : Nat} (hf : ∀ t, t < n → f t < 2 ^ 128) (hg : ∀ t, t < n → g t < 2 ^ 128) : w_v n f &&& w_v n g = w_v n (fun t => f t &&& g t) := by
  apply Nat.eq_of_testBit_eq
  intro j
  rw [Nat.testBit_and, wv_bit j hf, wv_bit j hg, wv_bit j (fun t q => Nat.and_lt_two_pow _ (hg t q)), Nat.testBit_and]
  cases decide (j / 128 < n)
  · rfl
  · rw [Bool.true_and, Bool.true_and, Bool.true_and]
theorem wv_or {f g : Nat → Nat} {n : Nat} (hf : ∀ t, t < n → f t < 2 ^ 128) (hg : ∀ t, t < n → g t < 2 ^ 128) : w_v n f ||| w_v n g = w_v n (fun t => f t ||| g t) := by
  apply Nat.eq_of_testBit_eq
  intro j
  rw [Nat.testBit_or, wv_bit j hf, wv_bit j hg, wv_bit j (fun t q => Nat.or_lt_two_pow (hf t q) (hg t q)), Nat.testBit_or]
  cases decide (j / 128 < n)
  · rfl
  · rw [Bool.true_and, Bool.true_and, Bool.true_and]
theorem wv_xor {f g : Nat → Nat} {n : Nat} (hf : ∀ t, t < n → f t < 2 ^ 128) (hg : ∀ t, t < n → g t < 2 ^ 128) : w_v n f ^^^ w_v n g = w_v n (fun t => f t ^^^ g t) := by
  apply Nat.eq_of_testBit_eq
  intro j
  rw [Nat.testBit_xor, wv_bit j hf, wv_bit j hg, wv_bit j (fun t q => Nat.xor_lt_two_pow (hf t q) (hg t q)), Nat.testBit_xor]
  cases decide (j / 128 < n)
  · rfl
  · rw [Bool.true_and, Bool.true_and, Bool.true_and]
/-- a shift inside, then a mask that leaves nothing of the next one -/
theorem wv_sra {f m : Nat → Nat} {n k : Nat} (hf : ∀ t, t < n → f t < 2 ^ 128) (hk : k ≤ 128) (hm : ∀ t, t < n → m t < 2 ^ (128 - k)) : (w_v n f >>> k) &&& w_v n m = w_v n (fun t => (f t >>> k) &&& m t) := by
  have hm' : ∀ t, t < n → m t < 2 ^ 128 := fun t q => Nat.lt_of_lt_of_le (hm t q) (Nat.pow_le_pow_right (by decide) (by omega))
  apply Nat.eq_of_testBit_eq
  intro j
  rw [Nat.testBit_and, Nat.testBit_shiftRight, wv_bit (k + j) hf, wv_bit j hm', wv_bit j (fun t q => Nat.and_lt_two_pow _ (hm' t q)), Nat.testBit_and, Nat.testBit_shiftRight]
  by_cases q : j / 128 < n
  · rw [decide_eq_true q, Bool.true_and, Bool.true_and]
    by_cases c : j % 128 < 128 - k
    · have e1 : (k + j) / 128 = j / 128 := by omega
      have e2 : (k + j) % 128 = k + j % 128 := by omega
      rw [e1, e2, decide_eq_true q, Bool.true_and]
    · have z : Nat.testBit (m (j / 128)) (j % 128) = false := Nat.testBit_lt_two_pow (Nat.lt_of_lt_of_le (hm _ q) (Nat.pow_le_pow_right (by decide) (by omega)))
      rw [z, Bool.and_false, Bool.and_false]
  · rw [decide_eq_false q, Bool.false_and, Bool.false_and, Bool.and_false]
/-- the row from its d-th on -/
theorem wv_lane {f : Nat → Nat} {n : Nat} (d : Nat) (hf : ∀ t, t < n → f t < 2 ^ 128) : w_v n f >>> (128 * d) = w_v n (fun t => if t + d < n then f (t + d) else 0) := by
  apply Nat.eq_of_testBit_eq
  intro j
  rw [Nat.testBit_shiftRight, wv_bit _ hf, wv_bit j (fun t q => by
    by_cases c : t + d < n
    · rw [if_pos c]; exact hf _ c
    · rw [if_neg c]; exact Nat.two_pow_pos _)]
  have e1 : (128 * d + j) / 128 = j / 128 + d := by omega
  have e2 : (128 * d + j) % 128 = j % 128 := by omega
  rw [e1, e2]
  by_cases c : j / 128 + d < n
  · have q : j / 128 < n := by omega
    rw [if_pos c, decide_eq_true c, decide_eq_true q]
  · rw [if_neg c, decide_eq_false c, Nat.zero_testBit, Bool.false_and, Bool.and_false]
theorem wv_sub {f g : Nat → Nat} {n : Nat} (h : ∀ t, t < n → g t ≤ f t) : w_v n f - w_v n g = w_v n (fun t => f t - g t) := by
  have e := wv_add (fun t => f t - g t) g n
  rw [wv_congr (f := fun t => f t - g t + g t) (g := f) (fun t q => Nat.sub_add_cancel (h t q))] at e
  omega
theorem wv_app (f : Nat → Nat) (n : Nat) : ∀ k : Nat, w_v (n + k) f = w_v n f + w_v k (fun t => f (n + t)) * 2 ^ (128 * n)
  | 0 => by rw [wv_0, Nat.zero_mul]; rfl
  | k + 1 => by
    rw [← Nat.add_assoc, wv_s, wv_s, wv_app f n k, Nat.add_mul, Nat.mul_add, Nat.pow_add, Nat.add_assoc, Nat.mul_assoc (f (n + k)), Nat.mul_comm (2 ^ (128 * k))]
/-- any number is such a row -/
theorem wv_of {x : Nat} : ∀ {n : Nat}, x < 2 ^ (128 * n) → x = w_v n (fun k => x / 2 ^ (128 * k) % 2 ^ 128) := by
  intro n h
  apply Nat.eq_of_testBit_eq
  intro j
  rw [wv_bit j (fun t q => Nat.mod_lt _ (Nat.two_pow_pos _)), Nat.testBit_mod_two_pow, Nat.testBit_div_two_pow]
  have e : j % 128 + 128 * (j / 128) = j := Nat.mod_add_div _ _
  rw [e, decide_eq_true (Nat.mod_lt j (by decide : 0 < 128)), Bool.true_and]
  by_cases q : j / 128 < n
  · rw [decide_eq_true q, Bool.true_and]
  · rw [decide_eq_false q, Bool.false_and]
    exact Nat.testBit_lt_two_pow (Nat.lt_of_lt_of_le h (Nat.pow_le_pow_right (by decide) (by omega)))
/-- ones, and 0 1 2 .., by doubling -/
noncomputable def w_on (k : Nat) : Nat := Nat.rec (nat_lit 1) (fun k r => Nat.add r (Nat.shiftLeft r (Nat.mul (nat_lit 128) (Nat.pow (nat_lit 2) k)))) k
noncomputable def w_io (k : Nat) : Nat := Nat.rec (nat_lit 0) (fun k r => Nat.add r (Nat.shiftLeft (Nat.add r (Nat.mul (w_on k) (Nat.pow (nat_lit 2) k))) (Nat.mul (nat_lit 128) (Nat.pow (nat_lit 2) k)))) k
theorem wv_on_s (k : Nat) : w_on (k + 1) = w_on k + w_on k <<< (128 * 2 ^ k) := rfl
theorem wv_io_s (k : Nat) : w_io (k + 1) = w_io k + (w_io k + w_on k * 2 ^ k) <<< (128 * 2 ^ k) := rfl
theorem wv_on : ∀ k : Nat, w_on k = w_v (2 ^ k) (fun _ => 1)
  | 0 => by rw [Nat.pow_zero, wv_s, wv_0]; rfl
  | k + 1 => by rw [wv_on_s, Nat.pow_succ, Nat.mul_two, wv_app, wv_on k, Nat.shiftLeft_eq]
theorem wv_io : ∀ k : Nat, w_io k = w_v (2 ^ k) (fun t => t)
  | 0 => by rw [Nat.pow_zero, wv_s, wv_0]; rfl
  | k + 1 => by
    have e : w_v (2 ^ k) (fun t => 2 ^ k + t) = w_io k + w_on k * 2 ^ k := by
      rw [wv_io k, wv_on k, wv_mul, wv_add]
      exact wv_congr (fun t _ => by rw [Nat.one_mul, Nat.add_comm])
    rw [wv_io_s, Nat.pow_succ, Nat.mul_two, wv_app, e, Nat.shiftLeft_eq, ← wv_io k]
theorem wv_c (n c : Nat) : w_v n (fun _ => 1) * c = w_v n (fun _ => c) := by
  rw [wv_mul]
  exact wv_congr (fun _ _ => Nat.one_mul c)
/-- two parts of a number -/
theorem wp_and {k a b x y : Nat} (ha : a < 2 ^ k) (hb : b < 2 ^ k) : (2 ^ k * x + a) &&& (2 ^ k * y + b) = 2 ^ k * (x &&& y) + (a &&& b) := by
  apply Nat.eq_of_testBit_eq
  intro j
  rw [Nat.testBit_and, Nat.testBit_two_pow_mul_add x ha, Nat.testBit_two_pow_mul_add y hb, Nat.testBit_two_pow_mul_add _ (Nat.and_lt_two_pow _ hb)]
  split
  · rw [Nat.testBit_and]
  · rw [Nat.testBit_and]
theorem wp_xor {k a b x y : Nat} (ha : a < 2 ^ k) (hb : b < 2 ^ k) : (2 ^ k * x + a) ^^^ (2 ^ k * y + b) = 2 ^ k * (x ^^^ y) + (a ^^^ b) := by
  apply Nat.eq_of_testBit_eq
  intro j
  rw [Nat.testBit_xor, Nat.testBit_two_pow_mul_add x ha, Nat.testBit_two_pow_mul_add y hb, Nat.testBit_two_pow_mul_add _ (Nat.xor_lt_two_pow ha hb)]
  split
  · rw [Nat.testBit_xor]
  · rw [Nat.testBit_xor]
/-! the same with the names that the kernel works out -/
theorem wr_xor {f g : Nat → Nat} {n : Nat} (hf : ∀ t, t < n → f t < 2 ^ 128) (hg : ∀ t, t < n → g t < 2 ^ 128) : Nat.xor (w_v n f) (w_v n g) = w_v n (fun t => f t ^^^ g t) := wv_xor hf hg
theorem wr_and {f g : Nat → Nat} {n : Nat} (hf : ∀ t, t < n → f t < 2 ^ 128) (hg : ∀ t, t < n → g t < 2 ^ 128) : Nat.land (w_v n f) (w_v n g) = w_v n (fun t => f t &&& g t) := wv_and hf hg
theorem wr_add {f g : Nat → Nat} {n : Nat} : Nat.add (w_v n f) (w_v n g) = w_v n (fun t => f t + g t) := wv_add f g n
theorem wr_sub {f g : Nat → Nat} {n : Nat} (h : ∀ t, t < n → g t ≤ f t) : Nat.sub (w_v n f) (w_v n g) = w_v n (fun t => f t - g t) := wv_sub h
theorem wr_mul {f : Nat → Nat} {c n : Nat} : Nat.mul (w_v n f) c = w_v n (fun t => f t * c) := wv_mul f c n
theorem wr_sra {f m : Nat → Nat} {n k : Nat} (hf : ∀ t, t < n → f t < 2 ^ 128) (hk : k ≤ 128) (hm : ∀ t, t < n → m t < 2 ^ (128 - k)) : Nat.land (Nat.shiftRight (w_v n f) k) (w_v n m) = w_v n (fun t => (f t >>> k) &&& m t) := wv_sra hf hk hm
