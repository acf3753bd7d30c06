/-! the walk: those that are not far are gathered -/
theorem wf_bit {n s x p : Nat} (h : Nat.testBit x p = true) : (p < 128 * n → Nat.testBit (w_fo n s x) p = true) ∧ (128 * n ≤ p → Nat.testBit (w_fo n s x) (p - 128 * n + s) = true) := by
  have e : ∀ j, Nat.testBit (w_fo n s x) j = (Nat.testBit (x % 2 ^ (128 * n)) j || Nat.testBit ((x >>> (128 * n)) <<< s) j) := fun j => Nat.testBit_or _ _ _
  refine ⟨fun q => ?_, fun q => ?_⟩
  · rw [e, Nat.testBit_mod_two_pow, decide_eq_true q, h]
    rfl
  · rw [e, Nat.testBit_shiftLeft, Nat.testBit_shiftRight, decide_eq_true (by omega : p - 128 * n + s ≥ s), show 128 * n + (p - 128 * n + s - s) = p by omega, h, Bool.true_and, Bool.or_true]
theorem wf_one {n s x t r : Nat} (hr : r < 128) (ht : t < 2 * n) (h : Nat.testBit x (128 * t + r) = true) : Nat.testBit (w_fo n s x) (128 * (t % n) + (r + s * (t / n))) = true := by
  obtain ⟨a, b⟩ := wf_bit (n := n) (s := s) h
  by_cases q : t < n
  · rw [Nat.mod_eq_of_lt q, Nat.div_eq_of_lt q, Nat.mul_zero, Nat.add_zero]
    exact a (by omega)
  · have e1 : t % n = t - n := by rw [Nat.mod_eq_sub_mod (by omega), Nat.mod_eq_of_lt (by omega)]
    have e2 : t / n = 1 := by
      refine Nat.div_eq_of_lt_le ?_ ?_
      · omega
      · omega
    rw [e1, e2, Nat.mul_one]
    have := b (by omega)
    rw [show 128 * (t - n) + (r + s) = 128 * t + r - 128 * n + s by omega]
    exact this
/-- where a place's flag stands behind five foldings -/
def ws_pos (t s : Nat) : Nat := 128 * (t % 128) + (30 + 32 * s + (t / 2048 + 2 * (t % 2048 / 1024) + 4 * (t % 1024 / 512) + 8 * (t % 512 / 256) + 16 * (t % 256 / 128)))
theorem wf_5 {x t s : Nat} (ht : t < 4096) (hs : s < 2) (h : Nat.testBit x (128 * t + 30 + 32 * s) = true) : Nat.testBit (w_f5 x) (ws_pos t s) = true := by
  rw [Nat.add_assoc] at h
  have h1 := wf_one (n := 2048) (s := 1) (by omega) (by omega) h
  have h2 := wf_one (n := 1024) (s := 2) (by omega) (by omega) h1
  have h3 := wf_one (n := 512) (s := 4) (by omega) (by omega) h2
  have h4 := wf_one (n := 256) (s := 8) (by omega) (by omega) h3
  have h5 := wf_one (n := 128) (s := 16) (by omega) (by omega) h4
  have e : 128 * (t % 2048 % 1024 % 512 % 256 % 128) + (30 + 32 * s + 1 * (t / 2048) + 2 * (t % 2048 / 1024) + 4 * (t % 2048 % 1024 / 512) + 8 * (t % 2048 % 1024 % 512 / 256) + 16 * (t % 2048 % 1024 % 512 % 256 / 128)) = ws_pos t s := by
    unfold ws_pos
    omega
  rw [e] at h5
  exact h5
/-- the table's places, one behind another -/
noncomputable def w_tc (n : Nat) : Bool := Nat.rec true (fun t r => and (Nat.beq (w_en (Nat.pow (nat_lit 2) (ws_pos t (nat_lit 0)))) t) (and (Nat.beq (w_en (Nat.pow (nat_lit 2) (ws_pos t (nat_lit 1)))) (Nat.add (nat_lit 4096) t)) r)) n
set_option maxRecDepth 100000 in
theorem w_tc_ok : w_tc (nat_lit 4096) = true := by decide +kernel
theorem w_tc_1 : ∀ n, w_tc n = true → ∀ t, t < n → w_en (2 ^ ws_pos t 0) = t ∧ w_en (2 ^ ws_pos t 1) = 4096 + t
  | 0, _, t, q => absurd q (Nat.not_lt_zero t)
  | n + 1, h, t, q => by
    have e : w_tc (n + 1) = (Nat.beq (w_en (2 ^ ws_pos n 0)) n && (Nat.beq (w_en (2 ^ ws_pos n 1)) (4096 + n) && w_tc n)) := rfl
    rw [e, Bool.and_eq_true, Bool.and_eq_true] at h
    obtain ⟨h1, h2, h3⟩ := h
    by_cases z : t < n
    · exact w_tc_1 n h3 t z
    · have : t = n := by omega
      rw [this]
      exact ⟨Nat.eq_of_beq_eq_true h1, Nat.eq_of_beq_eq_true h2⟩
theorem w_tab {t s : Nat} (ht : t < 4096) (hs : s < 2) : w_en (2 ^ ws_pos t s) = s * 4096 + t := by
  obtain ⟨a, b⟩ := w_tc_1 4096 w_tc_ok t ht
  have : s = 0 ∨ s = 1 := by omega
  rcases this with rfl | rfl
  · rw [a]; omega
  · rw [b]
theorem w_en_lt (p : Nat) : w_en p < 65536 := Nat.mod_lt _ (by decide)
/-- a number's lowest bit -/
theorem wl_odd : ∀ (n y : Nat), y ≤ n → y ≠ 0 → ∃ a k, y = 2 ^ a * (2 * k + 1)
  | 0, y, h, z => absurd (Nat.le_zero.mp h) z
  | n + 1, y, h, z => by
    by_cases q : y % 2 = 1
    · exact ⟨0, y / 2, by rw [Nat.pow_zero]; omega⟩
    · obtain ⟨a, k, e⟩ := wl_odd n (y / 2) (by omega) (by omega)
      refine ⟨a + 1, k, ?_⟩
      have : y = 2 * (y / 2) := by omega
      rw [this, Nat.pow_succ, Nat.mul_comm (2 ^ a) 2, Nat.mul_assoc, ← e]
theorem wl_low {y : Nat} (h : y ≠ 0) : ∃ a, y - (y &&& (y - 1)) = 2 ^ a ∧ ∀ p, p ≠ a → Nat.testBit y p = true → Nat.testBit (y &&& (y - 1)) p = true := by
  obtain ⟨a, k, e⟩ := wl_odd y y (Nat.le_refl _) h
  have pos := Nat.two_pow_pos a
  have e1 : y = 2 ^ a * (2 * k + 1) + 0 := e
  have e2 : y - 1 = 2 ^ a * (2 * k) + (2 ^ a - 1) := by
    rw [e, Nat.mul_add, Nat.mul_one]
    omega
  have o1 : (2 * k + 1) &&& (2 * k) = 2 * k := by
    have := wp_and (k := 1) (a := 1) (b := 0) (x := k) (y := k) (by decide) (by decide)
    rw [Nat.and_self, Nat.and_zero, Nat.add_zero, Nat.add_zero] at this
    exact this
  have e3 : y &&& (y - 1) = 2 ^ a * (2 * k) := by
    have := wp_and (k := a) (a := 0) (b := 2 ^ a - 1) (x := 2 * k + 1) (y := 2 * k) pos (by omega)
    rw [o1, Nat.zero_and, Nat.add_zero, Nat.add_zero] at this
    rw [e2, e]
    exact this
  refine ⟨a, ?_, fun p q w => ?_⟩
  · rw [e3, e, Nat.mul_add, Nat.mul_one]
    omega
  · rw [e] at w
    rw [e3]
    rw [Nat.testBit_two_pow_mul] at w ⊢
    rw [Bool.and_eq_true] at w ⊢
    refine ⟨w.1, ?_⟩
    have pa : a ≤ p := of_decide_eq_true w.1
    obtain ⟨j, ej⟩ : ∃ j, p - a = j + 1 := ⟨p - a - 1, by omega⟩
    have w2 := w.2
    rw [ej, Nat.testBit_add_one] at w2 ⊢
    rw [show 2 * k / 2 = k by omega]
    rw [show (2 * k + 1) / 2 = k by omega] at w2
    exact w2
/-- a number stands in the row -/
def w_in (a S : Nat) : Prop := ∃ k, a / 2 ^ (128 * k) % 2 ^ 128 = S
theorem wi_push {a x : Nat} (hx : x < 2 ^ 128) : w_in (a <<< 128 + x) x := by
  refine ⟨0, ?_⟩
  rw [Nat.mul_zero, Nat.pow_zero, Nat.div_one, Nat.shiftLeft_eq, Nat.add_comm, Nat.add_mul_mod_self_right]
  exact Nat.mod_eq_of_lt hx
theorem wi_keep {a x S : Nat} (hx : x < 2 ^ 128) (h : w_in a S) : w_in (a <<< 128 + x) S := by
  obtain ⟨k, e⟩ := h
  refine ⟨k + 1, ?_⟩
  rw [show 128 * (k + 1) = 128 + 128 * k by omega, Nat.pow_add, ← Nat.div_div_eq_div_mul, Nat.shiftLeft_eq, Nat.add_comm, Nat.add_mul_div_right _ _ (Nat.two_pow_pos 128), Nat.div_eq_of_lt hx, Nat.zero_add]
  exact e
theorem wg_cond {b : Bool} {x y : Nat} : cond b x y = if b = true then x else y := by
  cases b
  · rfl
  · rfl
theorem wg_ex (b : Nat) (hb : b < 2 ^ 127) : ∀ (n y a : Nat), w_ex n b y a < w_big → (∀ S, w_in a S → w_in (w_ex n b y a) S) ∧ (∀ p, Nat.testBit y p = true → w_in (w_ex n b y a) (b + w_en (2 ^ p)))
  | 0, y, a, h => by
    have e : w_ex 0 b y a = cond (Nat.beq y 0) a w_big := rfl
    rw [e, wg_cond] at h ⊢
    by_cases z : Nat.beq y 0 = true
    · rw [if_pos z] at h ⊢
      refine ⟨fun S q => q, fun p q => ?_⟩
      rw [Nat.eq_of_beq_eq_true z, Nat.zero_testBit] at q
      exact absurd q (by decide)
    · rw [if_neg z] at h
      exact absurd h (Nat.lt_irrefl _)
  | n + 1, y, a, h => by
    have e : w_ex (n + 1) b y a = cond (Nat.beq y 0) a (w_ex n b (y &&& (y - 1)) (a <<< 128 + (b + w_en (y - (y &&& (y - 1)))))) := rfl
    rw [e, wg_cond] at h ⊢
    by_cases z : Nat.beq y 0 = true
    · rw [if_pos z] at h ⊢
      refine ⟨fun S q => q, fun p q => ?_⟩
      rw [Nat.eq_of_beq_eq_true z, Nat.zero_testBit] at q
      exact absurd q (by decide)
    · rw [if_neg z] at h ⊢
      have y0 : y ≠ 0 := fun w => z (by rw [w]; rfl)
      obtain ⟨i1, i2⟩ := wg_ex b hb n _ _ h
      obtain ⟨c, c1, c2⟩ := wl_low y0
      have hx : b + w_en (y - (y &&& (y - 1))) < 2 ^ 128 := by
        have := w_en_lt (y - (y &&& (y - 1)))
        have : (2 : Nat) ^ 127 + 65536 ≤ 2 ^ 128 := by decide
        omega
      refine ⟨fun S q => i1 S (wi_keep hx q), fun p q => ?_⟩
      by_cases w : p = c
      · have := i1 _ (wi_push (a := a) hx)
        rw [c1, ← w] at this
        rw [w] at this ⊢
        rw [c1]
        exact this
      · exact i2 p (c2 p w q)
theorem wg_mono (b : Nat) : ∀ (n y a : Nat), w_big ≤ a → w_big ≤ w_ex n b y a
  | 0, y, a, h => by
    have e : w_ex 0 b y a = cond (Nat.beq y 0) a w_big := rfl
    rw [e, wg_cond]
    split
    · exact h
    · exact Nat.le_refl _
  | n + 1, y, a, h => by
    have e : w_ex (n + 1) b y a = cond (Nat.beq y 0) a (w_ex n b (y &&& (y - 1)) (a <<< 128 + (b + w_en (y - (y &&& (y - 1)))))) := rfl
    rw [e, wg_cond]
    split
    · exact h
    · exact wg_mono b n _ _ (Nat.le_trans (Nat.le_trans h Nat.le_shiftLeft) (Nat.le_add_right _ _))
theorem wg_grm : ∀ (n b a : Nat), w_big ≤ a → w_big ≤ w_gr n b a
  | 0, b, a, h => h
  | n + 1, b, a, h => by
    have e : w_gr (n + 1) b a = cond (Nat.ble w_big a) w_big (w_gr n (b + 2) (w_ex 60 (b * 4096 + 1) (w_f5 (w_G b)) a)) := rfl
    rw [e, wg_cond, if_pos (Nat.ble_eq_true_of_le h)]
    exact Nat.le_refl _
theorem wg_bit {t s : Nat} (ht : t < 4096) (hs : s < 2) : Nat.testBit w_bit (128 * t + 30 + 32 * s) = true := by
  unfold w_bit
  rw [wx_Lc, wv_bit _ (wl_c (by decide)), show (128 * t + 30 + 32 * s) / 128 = t by omega, show (128 * t + 30 + 32 * s) % 128 = 30 + 32 * s by omega, decide_eq_true ht, Bool.true_and]
  have : s = 0 ∨ s = 1 := by omega
  rcases this with rfl | rfl
  · decide
  · decide
theorem wg_gr : ∀ (n b a : Nat), b + 2 * n < 2000000000 → w_gr n b a < w_big → (∀ S, w_in a S → w_in (w_gr n b a) S) ∧ (∀ k, k < n → ∀ t s, t < 4096 → s < 2 → Nat.testBit (w_F (b + 2 * k)) (128 * t + 30 + 32 * s) = false → w_in (w_gr n b a) ((b + 2 * k + s) * 4096 + t + 1)) := by
  intro n
  induction n with
  | zero =>
    intro b a _ h
    have e : w_gr 0 b a = a := rfl
    rw [e]
    exact ⟨fun S q => q, fun k q => absurd q (Nat.not_lt_zero k)⟩
  | succ n ih =>
    intro b a hb
    have hb2 : b + 2 + 2 * n < 2000000000 := by omega
    have hb3 : b * 4096 + 1 < 2 ^ 127 := Nat.lt_of_lt_of_le (by omega : b * 4096 + 1 < 10000000000000) (by decide)
    intro h
    have e : w_gr (n + 1) b a = cond (Nat.ble w_big a) w_big (w_gr n (b + 2) (w_ex 60 (b * 4096 + 1) (w_f5 (w_G b)) a)) := rfl
    rw [e, wg_cond] at h ⊢
    by_cases z : Nat.ble w_big a = true
    · rw [if_pos z] at h
      exact absurd h (Nat.lt_irrefl _)
    · rw [if_neg z] at h ⊢
      obtain ⟨i1, i2⟩ := ih (b + 2) _ hb2 h
      have lt : w_ex 60 (b * 4096 + 1) (w_f5 (w_G b)) a < w_big := by
        refine Nat.lt_of_not_le (fun w => ?_)
        exact absurd h (Nat.not_lt_of_le (wg_grm n (b + 2) _ w))
      obtain ⟨j1, j2⟩ := wg_ex (b * 4096 + 1) hb3 60 (w_f5 (w_G b)) a lt
      refine ⟨fun S q => i1 S (j1 S q), fun k q t s ht hs w => ?_⟩
      cases k with
      | zero =>
        rw [Nat.mul_zero, Nat.add_zero] at w ⊢
        have g1 : Nat.testBit (w_G b) (128 * t + 30 + 32 * s) = true := by
          have e1 : Nat.testBit (w_G b) (128 * t + 30 + 32 * s) = (Nat.testBit (w_F b) (128 * t + 30 + 32 * s) ^^ Nat.testBit w_bit (128 * t + 30 + 32 * s)) := Nat.testBit_xor _ _ _
          rw [e1, w, wg_bit ht hs]
          rfl
        have := i1 _ (j2 _ (wf_5 ht hs g1))
        rw [w_tab ht hs] at this
        rw [show (b + 0 + s) * 4096 + t + 1 = b * 4096 + 1 + (s * 4096 + t) by omega]
        exact this
      | succ k =>
        have := i2 k (by omega) t s ht hs (by rw [show b + 2 + 2 * k = b + 2 * (k + 1) by omega]; exact w)
        rw [show b + 2 + 2 * k = b + 2 * (k + 1) by omega] at this
        exact this
