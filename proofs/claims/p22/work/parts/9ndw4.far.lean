/-! the first look: who is far -/
/-- four numbers below 2^32 in one place -/
theorem wq_and {s0 s1 s2 s3 : Nat} (h0 : s0 < 4294967296) (h1 : s1 < 4294967296) (h2 : s2 < 4294967296) : (s0 + s1 * 4294967296 + s2 * 18446744073709551616 + s3 * 79228162514264337593543950336) &&& 85070591670813493966310340604280700927 = s0 % 1073741824 + s1 % 1073741824 * 4294967296 + s2 % 1073741824 * 18446744073709551616 + s3 % 1073741824 * 79228162514264337593543950336 := by
  have e0 : s0 + s1 * 4294967296 + s2 * 18446744073709551616 + s3 * 79228162514264337593543950336 = 2 ^ 32 * (2 ^ 32 * (2 ^ 32 * s3 + s2) + s1) + s0 := by omega
  have a1 := wp_and (k := 32) (a := s0) (b := 1073741823) (x := 2 ^ 32 * (2 ^ 32 * s3 + s2) + s1) (y := 19807040614731026339882598399) h0 (by decide)
  have a2 := wp_and (k := 32) (a := s1) (b := 1073741823) (x := 2 ^ 32 * s3 + s2) (y := 4611686015206162431) h1 (by decide)
  have a3 := wp_and (k := 32) (a := s2) (b := 1073741823) (x := s3) (y := 1073741823) h2 (by decide)
  have b1 : (2 ^ 32 * 19807040614731026339882598399 + 1073741823 : Nat) = 85070591670813493966310340604280700927 := by decide
  have b2 : (2 ^ 32 * 4611686015206162431 + 1073741823 : Nat) = 19807040614731026339882598399 := by decide
  have b3 : (2 ^ 32 * 1073741823 + 1073741823 : Nat) = 4611686015206162431 := by decide
  rw [b1] at a1
  rw [b2] at a2
  rw [b3] at a3
  rw [e0, a1, a2, a3, wm_30, wm_30, wm_30, wm_30]
  omega
theorem wq_bit {x r c : Nat} (h : r < 128) (hc : ∀ t, t < 4101 → (fun t => (ws_v x c t &&& 85070591670813493966310340604280700927) + 83500651879030584948091775210379199263) t < 2 ^ 128) {t : Nat} (ht : t < 4101) : Nat.testBit (w_Y x c) (128 * t + r) = decide (((ws_v x c t &&& 85070591670813493966310340604280700927) + 83500651879030584948091775210379199263) / 2 ^ r % 2 = 1) := by
  have e1 : (128 * t + r) / 128 = t := by omega
  have e2 : (128 * t + r) % 128 = r := by omega
  rw [wx_Y, wv_bit _ hc, e1, e2, decide_eq_true ht, Bool.true_and, Nat.testBit_eq_decide_div_mod_eq]
theorem wq_lt (b d : Nat) : ∀ t, t < 4101 → (fun t => (ws_v b d t &&& 85070591670813493966310340604280700927) + 83500651879030584948091775210379199263) t < 2 ^ 128 := fun t _ => Nat.lt_of_le_of_lt (Nat.add_le_add_right Nat.and_le_right _) (by decide)
/-- far by one of both measures -/
def w_far (u q S d : Nat) : Prop := 2 * q + 1 ≤ (ws_p u (S + d) + 1073741824 + q - ws_p u S) % 1073741824
theorem wq_v0 {a1 a2 a3 a4 c1 c2 c3 c4 : Nat} (h1 : a1 < 1073741824) (h2 : a2 < 1073741824) (h3 : a3 < 1073741824) (h4 : a4 < 1073741824) : (c1 + c2 * 18446744073709551616 + (c3 + c4 * 18446744073709551616) * 4294967296) + (85855561645933111008130704972779921008 - (a1 + a2 * 18446744073709551616 + (a3 + a4 * 18446744073709551616) * 4294967296)) = (c1 + 1073741824 + 7118448 - a1) + (c3 + 1073741824 + 7118448 - a3) * 4294967296 + (c2 + 1073741824 + 9907713 - a2) * 18446744073709551616 + (c4 + 1073741824 + 9907713 - a4) * 79228162514264337593543950336 := by omega
theorem wq_v {b d t : Nat} (ht : t < 4096) (hd : d ≤ 5) : ws_v b d t = (ws_p 18446004347986313072 (b * 4096 + t + d) + 1073741824 + 7118448 - ws_p 18446004347986313072 (b * 4096 + t)) + (ws_p 18446004347986313072 ((b + 1) * 4096 + t + d) + 1073741824 + 7118448 - ws_p 18446004347986313072 ((b + 1) * 4096 + t)) * 4294967296 + (ws_p 18446460819989164424 (b * 4096 + t + d) + 1073741824 + 9907713 - ws_p 18446460819989164424 (b * 4096 + t)) * 18446744073709551616 + (ws_p 18446460819989164424 ((b + 1) * 4096 + t + d) + 1073741824 + 9907713 - ws_p 18446460819989164424 ((b + 1) * 4096 + t)) * 79228162514264337593543950336 := by
  unfold ws_v
  rw [if_pos (by omega)]
  unfold ws_q
  rw [← Nat.add_assoc (b * 4096), ← Nat.add_assoc ((b + 1) * 4096)]
  exact wq_v0 (ws_p_lt _ _) (ws_p_lt _ _) (ws_p_lt _ _) (ws_p_lt _ _)
theorem wq_s {u q S d : Nat} (hq : q < 1073741824) : ws_p u (S + d) + 1073741824 + q - ws_p u S < 4294967296 := by
  have h1 := ws_p_lt u (S + d)
  omega
theorem wq_Y {b d t : Nat} (ht : t < 4096) (hd : d ≤ 5) : (ws_v b d t &&& 85070591670813493966310340604280700927) + 83500651879030584948091775210379199263 = ((ws_p 18446004347986313072 (b * 4096 + t + d) + 1073741824 + 7118448 - ws_p 18446004347986313072 (b * 4096 + t)) % 1073741824 + 1059504927) + ((ws_p 18446004347986313072 ((b + 1) * 4096 + t + d) + 1073741824 + 7118448 - ws_p 18446004347986313072 ((b + 1) * 4096 + t)) % 1073741824 + 1059504927) * 4294967296 + ((ws_p 18446460819989164424 (b * 4096 + t + d) + 1073741824 + 9907713 - ws_p 18446460819989164424 (b * 4096 + t)) % 1073741824 + 1053926397) * 18446744073709551616 + ((ws_p 18446460819989164424 ((b + 1) * 4096 + t + d) + 1073741824 + 9907713 - ws_p 18446460819989164424 ((b + 1) * 4096 + t)) % 1073741824 + 1053926397) * 79228162514264337593543950336 := by
  rw [wq_v ht hd, wq_and (wq_s (by decide)) (wq_s (by decide)) (wq_s (by decide))]
  omega
theorem wq_n {y0 y1 y2 y3 : Nat} (h0 : y0 < 2147483648) (h1 : y1 < 2147483648) (h2 : y2 < 2147483648) (h3 : y3 < 2147483648) : (y0 + y1 * 4294967296 + y2 * 18446744073709551616 + y3 * 79228162514264337593543950336) / 2 ^ 30 % 2 = y0 / 1073741824 ∧ (y0 + y1 * 4294967296 + y2 * 18446744073709551616 + y3 * 79228162514264337593543950336) / 2 ^ 62 % 2 = y1 / 1073741824 ∧ (y0 + y1 * 4294967296 + y2 * 18446744073709551616 + y3 * 79228162514264337593543950336) / 2 ^ 94 % 2 = y2 / 1073741824 ∧ (y0 + y1 * 4294967296 + y2 * 18446744073709551616 + y3 * 79228162514264337593543950336) / 2 ^ 126 % 2 = y3 / 1073741824 := by
  refine ⟨by omega, by omega, by omega, by omega⟩
theorem wq_f {z0 z1 z2 z3 x : Nat} (e : x = (z0 % 1073741824 + 1059504927) + (z1 % 1073741824 + 1059504927) * 4294967296 + (z2 % 1073741824 + 1053926397) * 18446744073709551616 + (z3 % 1073741824 + 1053926397) * 79228162514264337593543950336) : (x / 2 ^ 30 % 2 = 1 → 2 * 7118448 + 1 ≤ z0 % 1073741824) ∧ (x / 2 ^ 62 % 2 = 1 → 2 * 7118448 + 1 ≤ z1 % 1073741824) ∧ (x / 2 ^ 94 % 2 = 1 → 2 * 9907713 + 1 ≤ z2 % 1073741824) ∧ (x / 2 ^ 126 % 2 = 1 → 2 * 9907713 + 1 ≤ z3 % 1073741824) := by
  obtain ⟨n0, n1, n2, n3⟩ := wq_n (y0 := z0 % 1073741824 + 1059504927) (y1 := z1 % 1073741824 + 1059504927) (y2 := z2 % 1073741824 + 1053926397) (y3 := z3 % 1073741824 + 1053926397) (by omega) (by omega) (by omega) (by omega)
  rw [e, n0, n1, n2, n3]
  refine ⟨fun q => ?_, fun q => ?_, fun q => ?_, fun q => ?_⟩
  all_goals omega
theorem wx_far {b d t : Nat} (ht : t < 4096) (hd : d ≤ 5) : (Nat.testBit (w_Y b d) (128 * t + 30) = true → w_far 18446004347986313072 7118448 (b * 4096 + t) d) ∧ (Nat.testBit (w_Y b d) (128 * t + 62) = true → w_far 18446004347986313072 7118448 ((b + 1) * 4096 + t) d) ∧ (Nat.testBit (w_Y b d) (128 * t + 94) = true → w_far 18446460819989164424 9907713 (b * 4096 + t) d) ∧ (Nat.testBit (w_Y b d) (128 * t + 126) = true → w_far 18446460819989164424 9907713 ((b + 1) * 4096 + t) d) := by
  have ht' : t < 4101 := by omega
  rw [wq_bit (by decide) (wq_lt b d) ht', wq_bit (by decide) (wq_lt b d) ht', wq_bit (by decide) (wq_lt b d) ht', wq_bit (by decide) (wq_lt b d) ht']
  obtain ⟨f0, f1, f2, f3⟩ := wq_f (wq_Y (b := b) ht hd)
  exact ⟨fun q => f0 (of_decide_eq_true q), fun q => f1 (of_decide_eq_true q), fun q => f2 (of_decide_eq_true q), fun q => f3 (of_decide_eq_true q)⟩
/-- far in one of both, for all five neighbours -/
def w_ok (S : Nat) : Prop := ∀ d, 1 ≤ d → d ≤ 5 → w_far 18446004347986313072 7118448 S d ∨ w_far 18446460819989164424 9907713 S d
theorem wx_Z {b d p : Nat} (h : Nat.testBit (w_Z b d) p = true) : Nat.testBit (w_Y b d) p = true ∨ Nat.testBit (w_Y b d) (p + 64) = true := by
  have e : Nat.testBit (w_Z b d) p = (Nat.testBit (w_Y b d) p || Nat.testBit (w_Y b d) (64 + p)) := by
    unfold w_Z
    exact (Nat.testBit_or _ _ _).trans (congrArg (fun z => Nat.testBit (w_Y b d) p || z) (Nat.testBit_shiftRight _))
  rw [e, Bool.or_eq_true, Nat.add_comm 64 p] at h
  exact h
theorem wx_F {b p : Nat} (h : Nat.testBit (w_F b) p = true) : ∀ d, 1 ≤ d → d ≤ 5 → Nat.testBit (w_Z b d) p = true := by
  have e : Nat.testBit (w_F b) p = (Nat.testBit (w_Z b 1) p && (Nat.testBit (w_Z b 2) p && (Nat.testBit (w_Z b 3) p && (Nat.testBit (w_Z b 4) p && (Nat.testBit (w_Z b 5) p && Nat.testBit w_bit p))))) := by
    unfold w_F
    rw [show ∀ x y : Nat, Nat.land x y = x &&& y from fun _ _ => rfl, show ∀ x y : Nat, Nat.land x y = x &&& y from fun _ _ => rfl, show ∀ x y : Nat, Nat.land x y = x &&& y from fun _ _ => rfl, show ∀ x y : Nat, Nat.land x y = x &&& y from fun _ _ => rfl, show ∀ x y : Nat, Nat.land x y = x &&& y from fun _ _ => rfl, Nat.testBit_and, Nat.testBit_and, Nat.testBit_and, Nat.testBit_and, Nat.testBit_and]
  rw [e] at h
  simp only [Bool.and_eq_true] at h
  obtain ⟨h1, h2, h3, h4, h5, _⟩ := h
  intro d d1 d5
  have : d = 1 ∨ d = 2 ∨ d = 3 ∨ d = 4 ∨ d = 5 := by omega
  rcases this with rfl | rfl | rfl | rfl | rfl
  · exact h1
  · exact h2
  · exact h3
  · exact h4
  · exact h5
theorem wx_ok {b t s : Nat} (ht : t < 4096) (hs : s < 2) (h : Nat.testBit (w_F b) (128 * t + 30 + 32 * s) = true) : w_ok ((b + s) * 4096 + t) := by
  intro d d1 d5
  have z := wx_Z (wx_F h d d1 d5)
  obtain ⟨f0, f1, f2, f3⟩ := wx_far (b := b) ht d5
  have : s = 0 ∨ s = 1 := by omega
  rcases this with rfl | rfl
  · rw [Nat.mul_zero, Nat.add_zero] at z
    rcases z with z | z
    · exact Or.inl (f0 z)
    · exact Or.inr (f2 (by rw [show 128 * t + 94 = 128 * t + 30 + 64 by omega]; exact z))
  · rw [show 128 * t + 30 + 32 * 1 = 128 * t + 62 by omega] at z
    rcases z with z | z
    · exact Or.inl (f1 z)
    · exact Or.inr (f3 (by rw [show 128 * t + 126 = 128 * t + 62 + 64 by omega]; exact z))
