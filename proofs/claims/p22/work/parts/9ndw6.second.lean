/-! the walk's second look: what each place of a row is -/
theorem w2_c (c : Nat) : w_2c c = w_v 2048 (fun _ => c) := by
  unfold w_2c w_2o
  rw [show w_on (nat_lit 11) = w_v 2048 (fun _ => 1) from (wv_on 11).trans (congrArg (fun n => w_v n (fun _ => 1)) (by decide : 2 ^ 11 = 2048))]
  exact wv_c 2048 c
def k_x (v d : Nat) : Nat := (((v + (18446744071562067967 + d)) % 18446744073709551616 ^^^ 6364136223846793005) * 11400714819323198485) % 18446744073709551616
def k_h (v d : Nat) : Nat := k_x v d ^^^ (k_x v d >>> 32)
def k_y (v d : Nat) : Nat := ((k_h v d + (18446744073709551616 - k_h v 0)) % 18446744073709551616 * 8180687416807346520) % 18446744073709551616
def k_f (v d t c : Nat) : Nat := (k_y v d * t + c) % 18446744073709551616
def k_k (v d : Nat) : Nat := ((k_f v d 3786 122293980863569600 * 26387 + 1206343275444309837479936 - k_f v d 26387 170213180857811360 * 3786) >>> 64) % 18446744073709551616
def k_g (v d : Nat) : Nat := (k_h v d + k_k v d + 18446744073709486080) % 18446744073709551616
def k_a (h : Nat) : Nat := h * 15485907386658061715 % 18446744073709551616
def k_b (a i : Nat) : Nat := (a + i * 15485907386658061715 % 18446744073709551616) % 18446744073709551616
def k_i (a i : Nat) : Nat := k_b a i ^^^ (k_b a i >>> 29)
def k_j (a g i : Nat) : Nat := ((k_i a i + (18446744073709551616 - k_i g i)) * 72 + 2048) % 18446744073709551616
theorem k_x_lt (v d : Nat) : k_x v d < 18446744073709551616 := Nat.mod_lt _ (by decide)
theorem k_h_lt (v d : Nat) : k_h v d < 18446744073709551616 := by
  have h := k_x_lt v d
  refine Nat.xor_lt_two_pow (n := 64) h ?_
  rw [Nat.shiftRight_eq_div_pow]
  omega
theorem k_y_lt (v d : Nat) : k_y v d < 18446744073709551616 := Nat.mod_lt _ (by decide)
theorem k_f_lt (v d t c : Nat) : k_f v d t c < 18446744073709551616 := Nat.mod_lt _ (by decide)
theorem k_k_lt (v d : Nat) : k_k v d < 18446744073709551616 := Nat.mod_lt _ (by decide)
theorem k_g_lt (v d : Nat) : k_g v d < 18446744073709551616 := Nat.mod_lt _ (by decide)
theorem k_a_lt (h : Nat) : k_a h < 18446744073709551616 := Nat.mod_lt _ (by decide)
theorem k_b_lt (a i : Nat) : k_b a i < 18446744073709551616 := Nat.mod_lt _ (by decide)
theorem k_i_lt (a i : Nat) : k_i a i < 18446744073709551616 := by
  have h := k_b_lt a i
  refine Nat.xor_lt_two_pow (n := 64) h ?_
  rw [Nat.shiftRight_eq_div_pow]
  omega
theorem k_j_lt (a g i : Nat) : k_j a g i < 18446744073709551616 := Nat.mod_lt _ (by decide)
theorem k_mm {x y : Nat} (hx : x < 18446744073709551616) (hy : y < 18446744073709551616) : x * y < 2 ^ 128 := Nat.lt_of_lt_of_le (Nat.mul_lt_mul'' hx hy) (by decide)
theorem k_s29 {x : Nat} (h : x < 18446744073709551616) : (x >>> 29) &&& 34359738367 = x >>> 29 := by
  rw [wm_35, Nat.shiftRight_eq_div_pow]
  omega
section
variable {v a g : Nat → Nat} {d i : Nat}
theorem w2_x (hv : ∀ k, k < 2048 → v k < 18446744073709551616) (hd : d ≤ 5) : w_2x (w_v 2048 v) d = w_v 2048 (fun k => k_x (v k) d) := by
  have e1 : w_2s (w_v 2048 v) d = w_v 2048 (fun k => (v k + (18446744071562067967 + d)) % 18446744073709551616) := by
    unfold w_2s
    rw [w2_c, w2_c, wr_add, wr_and (fun k q => ?_) (wl_c (by decide))]
    · exact wv_congr (fun k _ => wm_64 _)
    · have := hv k q
      have e : Nat.add (nat_lit 18446744071562067967) d = 18446744071562067967 + d := rfl
      exact Nat.lt_of_lt_of_le (by rw [e]; omega : v k + Nat.add (nat_lit 18446744071562067967) d < 4 * 18446744073709551616) (by decide)
  unfold w_2x
  rw [e1, w2_c, w2_c, wr_xor (fun k q => wb_64 (Nat.mod_lt _ (by decide))) (wl_c (by decide)), wr_mul, wr_and (fun k q => k_mm (Nat.xor_lt_two_pow (n := 64) (Nat.mod_lt _ (by decide)) (by decide)) (by decide)) (wl_c (by decide))]
  exact wv_congr (fun k _ => wm_64 _)
theorem w2_H (hv : ∀ k, k < 2048 → v k < 18446744073709551616) (hd : d ≤ 5) : w_2H (w_v 2048 v) d = w_v 2048 (fun k => k_h (v k) d) := by
  unfold w_2H
  rw [w2_x hv hd, w2_c, wr_sra (fun k q => wb_64 (k_x_lt _ _)) (by decide) (fun _ _ => by decide), wr_xor (fun k q => wb_64 (k_x_lt _ _)) (fun k q => Nat.and_lt_two_pow _ (by decide))]
  exact wv_congr (fun k _ => congrArg (fun z => k_x (v k) d ^^^ z) (ws_s32 (k_x_lt _ _)))
theorem w2_y (hv : ∀ k, k < 2048 → v k < 18446744073709551616) (hd : d ≤ 5) : w_2y (w_v 2048 v) d = w_v 2048 (fun k => k_y (v k) d) := by
  unfold w_2y w_2D
  rw [w2_H hv hd, w2_H hv (by decide), w2_c, w2_c, wr_sub (fun k q => Nat.le_of_lt (k_h_lt _ _)), wr_add, wr_and (fun k q => ?_) (wl_c (by decide)), wr_mul, wr_and (fun k q => k_mm (Nat.lt_of_le_of_lt Nat.and_le_right (by decide)) (by decide)) (wl_c (by decide))]
  · refine wv_congr (fun k _ => ?_)
    exact (wm_64 _).trans (congrArg (fun z => z * 8180687416807346520 % 18446744073709551616) (wm_64 _))
  · have h1 := k_h_lt (v k) d
    exact Nat.lt_of_lt_of_le (Nat.add_lt_add_of_lt_of_le h1 (Nat.sub_le _ _)) (by decide)
theorem w2_f (hv : ∀ k, k < 2048 → v k < 18446744073709551616) (hd : d ≤ 5) {t c : Nat} (ht : t < 65536) (hc : c < 18446744073709551616) : w_2f (w_v 2048 v) d t c = w_v 2048 (fun k => k_f (v k) d t c) := by
  unfold w_2f
  rw [w2_y hv hd, w2_c, w2_c, wr_mul, wr_add, wr_and (fun k q => ?_) (wl_c (by decide))]
  · exact wv_congr (fun k _ => wm_64 _)
  · have h1 := Nat.mul_lt_mul'' (k_y_lt (v k) d) ht
    exact Nat.lt_of_lt_of_le (Nat.add_lt_add h1 hc) (by decide)
theorem w2_k (hv : ∀ k, k < 2048 → v k < 18446744073709551616) (hd : d ≤ 5) : w_2k (w_v 2048 v) d = w_v 2048 (fun k => k_k (v k) d) := by
  unfold w_2k
  rw [w2_f hv hd (by decide) (by decide), w2_f hv hd (by decide) (by decide), w2_c, w2_c, wr_mul, wr_mul, wr_add, wr_sub (fun k q => ?_), wr_sra (fun k q => ?_) (by decide) (fun _ _ => by decide)]
  · exact wv_congr (fun k _ => wm_64 _)
  · have h1 := k_f_lt (v k) d 3786 122293980863569600
    refine Nat.lt_of_le_of_lt (Nat.sub_le _ _) ?_
    exact Nat.lt_of_lt_of_le (Nat.add_lt_add_right (Nat.mul_lt_mul_of_pos_right h1 (by decide)) _) (by decide)
  · have h2 := k_f_lt (v k) d 26387 170213180857811360
    exact Nat.le_trans (Nat.le_of_lt (Nat.mul_lt_mul_of_pos_right h2 (by decide))) (Nat.le_trans (by decide) (Nat.le_add_left _ _))
theorem w2_g (hv : ∀ k, k < 2048 → v k < 18446744073709551616) (hd : d ≤ 5) : w_2g (w_v 2048 v) d = w_v 2048 (fun k => k_g (v k) d) := by
  unfold w_2g
  rw [w2_H hv hd, w2_k hv hd, w2_c, w2_c, wr_add, wr_add, wr_and (fun k q => ?_) (wl_c (by decide))]
  · exact wv_congr (fun k _ => wm_64 _)
  · have h1 := k_h_lt (v k) d
    have h2 := k_k_lt (v k) d
    exact Nat.lt_of_lt_of_le (Nat.add_lt_add_right (Nat.add_lt_add h1 h2) _) (by decide)
theorem w2_a (ha : ∀ k, k < 2048 → a k < 18446744073709551616) : w_2a (w_v 2048 a) = w_v 2048 (fun k => k_a (a k)) := by
  unfold w_2a
  rw [w2_c, wr_mul, wr_and (fun k q => k_mm (ha k q) (by decide)) (wl_c (by decide))]
  exact wv_congr (fun k _ => wm_64 _)
theorem w2_i (ha : ∀ k, k < 2048 → a k < 18446744073709551616) : w_2i (w_v 2048 a) i = w_v 2048 (fun k => k_i (a k) i) := by
  have e1 : w_2b (w_v 2048 a) i = w_v 2048 (fun k => k_b (a k) i) := by
    unfold w_2b
    rw [w2_c, w2_c, wr_add, wr_and (fun k q => ?_) (wl_c (by decide))]
    · exact wv_congr (fun k _ => wm_64 _)
    · exact Nat.lt_of_lt_of_le (Nat.add_lt_add (ha k q) (Nat.mod_lt _ (by decide) : i * 15485907386658061715 % 18446744073709551616 < 18446744073709551616)) (by decide)
  unfold w_2i
  rw [e1, w2_c, wr_sra (fun k q => wb_64 (k_b_lt _ _)) (by decide) (fun _ _ => by decide), wr_xor (fun k q => wb_64 (k_b_lt _ _)) (fun k q => Nat.and_lt_two_pow _ (by decide))]
  exact wv_congr (fun k _ => congrArg (fun z => k_b (a k) i ^^^ z) (k_s29 (k_b_lt _ _)))
theorem w2_j (ha : ∀ k, k < 2048 → a k < 18446744073709551616) (hg : ∀ k, k < 2048 → g k < 18446744073709551616) : w_2j (w_v 2048 a) (w_v 2048 g) i = w_v 2048 (fun k => k_j (a k) (g k) i + 18446744073709547520) := by
  unfold w_2j
  rw [w2_i ha, w2_i hg, w2_c, w2_c, w2_c, w2_c, wr_sub (fun k q => Nat.le_of_lt (k_i_lt _ _)), wr_add, wr_mul, wr_add, wr_and (fun k q => ?_) (wl_c (by decide)), wr_add]
  · exact wv_congr (fun k _ => congrArg (fun z => z + 18446744073709547520) (wm_64 _))
  · have h1 := k_i_lt (a k) i
    have h2 : k_i (a k) i + (18446744073709551616 - k_i (g k) i) < 2 * 18446744073709551616 := Nat.lt_of_lt_of_le (Nat.add_lt_add_of_lt_of_le h1 (Nat.sub_le _ _)) (by decide)
    exact Nat.lt_of_lt_of_le (Nat.add_lt_add_right (Nat.mul_lt_mul_of_pos_right h2 (by decide)) _) (by decide)
theorem w2_e {p : Nat} : ∀ n, Nat.testBit (w_2e (w_v 2048 a) (w_v 2048 g) n) p = true → ∀ i, i < n → Nat.testBit (w_2j (w_v 2048 a) (w_v 2048 g) (i + 1)) p = true
  | 0, _, i, q => absurd q (Nat.not_lt_zero i)
  | n + 1, h, i, q => by
    have e : Nat.testBit (w_2e (w_v 2048 a) (w_v 2048 g) (n + 1)) p = (Nat.testBit (w_2j (w_v 2048 a) (w_v 2048 g) (n + 1)) p && Nat.testBit (w_2e (w_v 2048 a) (w_v 2048 g) n) p) := Nat.testBit_and _ _ _
    rw [e, Bool.and_eq_true] at h
    by_cases z : i < n
    · exact w2_e n h.2 i z
    · rw [show i = n by omega]
      exact h.1
theorem w2_far {x : Nat} (h : x < 18446744073709551616) (w : Nat.testBit (x + 18446744073709547520) 64 = true) : 4096 ≤ x := by
  rw [Nat.testBit_eq_decide_div_mod_eq] at w
  have := of_decide_eq_true w
  omega
theorem w2_t (hv : ∀ k, k < 2048 → v k < 18446744073709551616) (hd : d ≤ 5) (h : w_2t (w_v 2048 v) d = true) : ∀ k, k < 2048 → ∀ i, i < 141 → 4096 ≤ k_j (k_a (k_h (v k) 0)) (k_a (k_g (v k) d)) (i + 1) := by
  intro k hk i hi
  have e1 := Nat.eq_of_beq_eq_true h
  have e0 : Nat.testBit (w_2c (nat_lit 18446744073709551616)) (128 * k + 64) = true := by
    rw [w2_c, wv_bit _ (wl_c (by decide)), show (128 * k + 64) / 128 = k by omega, show (128 * k + 64) % 128 = 64 by omega, decide_eq_true hk]
    decide
  rw [← e1, w2_H hv (by decide), w2_g hv hd, w2_a (fun k _ => k_h_lt _ _), w2_a (fun k _ => k_g_lt _ _)] at e0
  have e2 := w2_e _ e0 i hi
  rw [w2_j (fun k _ => k_a_lt _) (fun k _ => k_a_lt _), wv_bit _ (fun k q => ?_), show (128 * k + 64) / 128 = k by omega, show (128 * k + 64) % 128 = 64 by omega, decide_eq_true hk, Bool.true_and] at e2
  · exact w2_far (k_j_lt _ _ _) e2
  · exact Nat.lt_of_lt_of_le (Nat.add_lt_add_right (k_j_lt _ _ _) _) (by decide)
end
