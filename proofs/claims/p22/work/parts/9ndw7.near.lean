/-! two draws with one PUBLIC number would be near -/
/-- a draw: of h, where its user's draws begin, and of its number -/
def wd_a (h i : Nat) : Nat := (h + i) * 15485907386658061715 % 18446744073709551616
def wd_o (h i : Nat) : Nat := wd_a h i ^^^ (wd_a h i >>> 29)
theorem wd_a_lt (h i : Nat) : wd_a h i < 18446744073709551616 := Nat.mod_lt _ (by decide)
theorem wd_o_lt (h i : Nat) : wd_o h i < 18446744073709551616 := by
  have w := wd_a_lt h i
  refine Nat.xor_lt_two_pow (n := 64) w ?_
  rw [Nat.shiftRight_eq_div_pow]
  omega
theorem wd_top {a : Nat} (h : a < 18446744073709551616) : (a ^^^ (a >>> 29)) / 34359738368 = a / 34359738368 := by
  have e : (a ^^^ (a >>> 29)) / 2 ^ 35 = a / 2 ^ 35 ^^^ (a >>> 29) / 2 ^ 35 := Nat.xor_div_two_pow
  have z : (a >>> 29) / 2 ^ 35 = 0 := by
    rw [Nat.shiftRight_eq_div_pow]
    omega
  rw [z, Nat.xor_zero] at e
  exact e
/-- one PUBLIC number: then 72 times the difference is next to nothing -/
theorem wd_mod {X : Nat} {k w : Int} (e : (X : Int) = 18446744073709551616 * k + w) (h0 : 0 ≤ w) (h1 : w < 4096) : X % 18446744073709551616 < 4096 := by omega
theorem wd_sec {o o' : Nat} (h1 : o < 18446744073709551616) (h2 : o' < 18446744073709551616) {z : Int} (e : ((o % 2305843009213693949 : Nat) : Int) - ((o' % 2305843009213693949 : Nat) : Int) = 256204778801521550 * z) : ((o + (18446744073709551616 - o')) * 72 + 2048) % 18446744073709551616 < 4096 := by
  obtain ⟨a, ea⟩ : ∃ a, a = o / 2305843009213693949 := ⟨_, rfl⟩
  obtain ⟨b, eb⟩ : ∃ b, b = o' / 2305843009213693949 := ⟨_, rfl⟩
  obtain ⟨r, er⟩ : ∃ r, r = o % 2305843009213693949 := ⟨_, rfl⟩
  obtain ⟨s, es⟩ : ∃ s, s = o' % 2305843009213693949 := ⟨_, rfl⟩
  have d1 := Nat.div_add_mod o 2305843009213693949
  have d2 := Nat.div_add_mod o' 2305843009213693949
  have m1 : o % 2305843009213693949 < 2305843009213693949 := Nat.mod_lt _ (by decide)
  have m2 : o' % 2305843009213693949 < 2305843009213693949 := Nat.mod_lt _ (by decide)
  rw [← er, ← ea] at d1
  rw [← es, ← eb] at d2
  rw [← er] at m1
  rw [← es] at m2
  rw [← er, ← es] at e
  clear er es ea eb
  have a8 : a ≤ 8 := by omega
  have b8 : b ≤ 8 := by omega
  have z1 : z ≤ 9 := by omega
  have z2 : -9 ≤ z := by omega
  refine wd_mod (k := 72 + 9 * ((a : Int) - (b : Int)) + z) (w := 2048 - 16 * (9 * ((a : Int) - (b : Int)) + z) - 72 * ((a : Int) - (b : Int))) ?_ (by omega) (by omega)
  omega
/-- what is next to nothing of the draws is little of what they came of -/
theorem wd_v {a a' o o' : Nat} (ha : a < 18446744073709551616) (ha' : a' < 18446744073709551616) (ho : o / 34359738368 = a / 34359738368) (ho' : o' / 34359738368 = a' / 34359738368) (h1 : o < 18446744073709551616) (h2 : o' < 18446744073709551616) (n : ((o + (18446744073709551616 - o')) * 72 + 2048) % 18446744073709551616 < 4096) : ∃ z v : Int, 72 * ((a' : Int) - (a : Int)) = 18446744073709551616 * z + v ∧ -4947802327040 ≤ v ∧ v ≤ 4947802327040 := by
  obtain ⟨q, eq⟩ : ∃ q, q = ((o + (18446744073709551616 - o')) * 72 + 2048) / 18446744073709551616 := ⟨_, rfl⟩
  obtain ⟨r, er⟩ : ∃ r, r = ((o + (18446744073709551616 - o')) * 72 + 2048) % 18446744073709551616 := ⟨_, rfl⟩
  have e := Nat.div_add_mod ((o + (18446744073709551616 - o')) * 72 + 2048) 18446744073709551616
  rw [← eq, ← er] at e
  rw [← er] at n
  refine ⟨72 - (q : Int), 72 * ((a' : Int) - (a : Int)) - 18446744073709551616 * (72 - (q : Int)), by omega, ?_, ?_⟩
  · omega
  · omega
theorem wd_K {h h' i j : Nat} {z v : Int} (e : 72 * ((wd_a h' j : Int) - (wd_a h i : Int)) = 18446744073709551616 * z + v) : ∃ y : Int, 8180687416807346520 * ((h' : Int) - (h : Int) + ((j : Int) - (i : Int))) = 18446744073709551616 * y + v := by
  have e1 := Nat.div_add_mod ((h' + j) * 15485907386658061715) 18446744073709551616
  have e2 := Nat.div_add_mod ((h + i) * 15485907386658061715) 18446744073709551616
  obtain ⟨r1, er1⟩ : ∃ r, r = wd_a h' j := ⟨_, rfl⟩
  obtain ⟨r2, er2⟩ : ∃ r, r = wd_a h i := ⟨_, rfl⟩
  obtain ⟨q1, eq1⟩ : ∃ q, q = (h' + j) * 15485907386658061715 / 18446744073709551616 := ⟨_, rfl⟩
  obtain ⟨q2, eq2⟩ : ∃ q, q = (h + i) * 15485907386658061715 / 18446744073709551616 := ⟨_, rfl⟩
  rw [← eq1, show (h' + j) * 15485907386658061715 % 18446744073709551616 = r1 from er1.symm] at e1
  rw [← eq2, show (h + i) * 15485907386658061715 % 18446744073709551616 = r2 from er2.symm] at e2
  rw [← er1, ← er2] at e
  clear er1 er2 eq1 eq2
  refine ⟨z + 72 * ((q1 : Int) - (q2 : Int)) - 60 * ((h' : Int) - (h : Int) + ((j : Int) - (i : Int))), ?_⟩
  omega
/-- near in m, v: both measures are small -/
theorem wd_m1 {h h' m y v : Int} (e : 8180687416807346520 * (h' - h + m) = 18446744073709551616 * y + v) : ∃ Z : Int, h' * 18446004347986313072 - h * 18446004347986313072 = 18446744073709551616 * Z + (3786 * v + 739725723238544 * m) := ⟨3786 * y - 1678 * (h' - h) - 1679 * m, by omega⟩
theorem wd_m2 {h h' m y v : Int} (e : 8180687416807346520 * (h' - h + m) = 18446744073709551616 * y + v) : ∃ Z : Int, h' * 18446460819989164424 - h * 18446460819989164424 = 18446744073709551616 * Z + (26387 * v + 283253720387192 * m) := ⟨26387 * y - 11701 * (h' - h) - 11702 * m, by omega⟩
theorem wd_p {X X' q : Nat} {Z f : Int} (e : (X' : Int) - (X : Int) = 18446744073709551616 * Z + f) (f1 : -(17179869184 * ((q : Int) - 1)) ≤ f) (f2 : f ≤ 17179869184 * ((q : Int) - 1)) (hq : q < 100000000) : (X' / 17179869184 % 1073741824 + 1073741824 + q - X / 17179869184 % 1073741824) % 1073741824 ≤ 2 * q := by
  omega
theorem wd_far1 {S d : Nat} {m y v : Int} (e : 8180687416807346520 * ((ws_h (S + d) : Int) - (ws_h S : Int) + m) = 18446744073709551616 * y + v) (v1 : -4947802327040 ≤ v) (v2 : v ≤ 4947802327040) (m1 : -140 ≤ m) (m2 : m ≤ 140) : ¬ w_far 18446004347986313072 7118448 S d := by
  obtain ⟨Z, eZ⟩ := wd_m1 e
  have := wd_p (X := ws_h S * 18446004347986313072) (X' := ws_h (S + d) * 18446004347986313072) (q := 7118448) (Z := Z) (f := 3786 * v + 739725723238544 * m) (by rw [Int.natCast_mul, Int.natCast_mul]; exact eZ) (by omega) (by omega) (by decide)
  intro w
  unfold w_far ws_p at w
  rw [Nat.shiftRight_eq_div_pow, Nat.shiftRight_eq_div_pow] at w
  exact absurd (Nat.le_trans w this) (by decide)
theorem wd_far2 {S d : Nat} {m y v : Int} (e : 8180687416807346520 * ((ws_h (S + d) : Int) - (ws_h S : Int) + m) = 18446744073709551616 * y + v) (v1 : -4947802327040 ≤ v) (v2 : v ≤ 4947802327040) (m1 : -140 ≤ m) (m2 : m ≤ 140) : ¬ w_far 18446460819989164424 9907713 S d := by
  obtain ⟨Z, eZ⟩ := wd_m2 e
  have := wd_p (X := ws_h S * 18446460819989164424) (X' := ws_h (S + d) * 18446460819989164424) (q := 9907713) (Z := Z) (f := 26387 * v + 283253720387192 * m) (by rw [Int.natCast_mul, Int.natCast_mul]; exact eZ) (by omega) (by omega) (by decide)
  intro w
  unfold w_far ws_p at w
  rw [Nat.shiftRight_eq_div_pow, Nat.shiftRight_eq_div_pow] at w
  exact absurd (Nat.le_trans w this) (by decide)
/-! the second look finds m -/
theorem k_xs (S d : Nat) : k_x (S + 1) d = ws_x (S + d) := by
  unfold k_x ws_x
  rw [show S + 1 + (18446744071562067967 + d) = S + d + 18446744071562067968 by omega]
theorem k_hs (S d : Nat) : k_h (S + 1) d = ws_h (S + d) := by
  unfold k_h ws_h
  rw [k_xs]
theorem wd_y {h h' Y : Nat} {m y v : Int} (hh : h < 18446744073709551616) (e : 8180687416807346520 * ((h' : Int) - (h : Int) + m) = 18446744073709551616 * y + v) (eY : Y = ((h' + (18446744073709551616 - h)) % 18446744073709551616 * 8180687416807346520) % 18446744073709551616) : ∃ x : Int, (Y : Int) = 18446744073709551616 * x + (v - 8180687416807346520 * m) := by
  obtain ⟨D, eD⟩ : ∃ r, r = (h' + (18446744073709551616 - h)) % 18446744073709551616 := ⟨_, rfl⟩
  obtain ⟨q, eq⟩ : ∃ r, r = (h' + (18446744073709551616 - h)) / 18446744073709551616 := ⟨_, rfl⟩
  have e1 := Nat.div_add_mod (h' + (18446744073709551616 - h)) 18446744073709551616
  rw [← eD, ← eq] at e1
  rw [← eD] at eY
  have e2 := Nat.div_add_mod (D * 8180687416807346520) 18446744073709551616
  obtain ⟨q2, eq2⟩ : ∃ r, r = D * 8180687416807346520 / 18446744073709551616 := ⟨_, rfl⟩
  rw [← eq2, ← eY] at e2
  clear eD eq eY eq2
  refine ⟨y + 8180687416807346520 * (1 - (q : Int)) - (q2 : Int), ?_⟩
  omega
theorem wd_f1 {Y : Nat} {m x v : Int} (e : (Y : Int) = 18446744073709551616 * x + (v - 8180687416807346520 * m)) (v1 : -4947802327040 ≤ v) (v2 : v ≤ 4947802327040) (m1 : -140 ≤ m) (m2 : m ≤ 140) : (((Y * 3786 + 122293980863569600) % 18446744073709551616 : Nat) : Int) = 3786 * v + 739725723238544 * m + 122293980863569600 := by
  have : ((Y * 3786 + 122293980863569600 : Nat) : Int) = 18446744073709551616 * (3786 * x - 1679 * m) + (3786 * v + 739725723238544 * m + 122293980863569600) := by omega
  omega
theorem wd_f2 {Y : Nat} {m x v : Int} (e : (Y : Int) = 18446744073709551616 * x + (v - 8180687416807346520 * m)) (v1 : -4947802327040 ≤ v) (v2 : v ≤ 4947802327040) (m1 : -140 ≤ m) (m2 : m ≤ 140) : (((Y * 26387 + 170213180857811360) % 18446744073709551616 : Nat) : Int) = 26387 * v + 283253720387192 * m + 170213180857811360 := by
  have : ((Y * 26387 + 170213180857811360 : Nat) : Int) = 18446744073709551616 * (26387 * x - 11702 * m) + (26387 * v + 283253720387192 * m + 170213180857811360) := by omega
  omega
theorem wd_k {f1 f2 : Nat} {m v : Int} (e1 : (f1 : Int) = 3786 * v + 739725723238544 * m + 122293980863569600) (e2 : (f2 : Int) = 26387 * v + 283253720387192 * m + 170213180857811360) (m1 : -140 ≤ m) (m2 : m ≤ 140) : ((((f1 * 26387 + 1206343275444309837479936 - f2 * 3786) >>> 64) % 18446744073709551616 : Nat) : Int) = m + 65536 := by
  have e : f1 * 26387 + 1206343275444309837479936 - f2 * 3786 = 18446744073709551616 * (m + 65536).toNat := by omega
  rw [e, Nat.shiftRight_eq_div_pow, Nat.mul_div_cancel_left _ (by decide : 0 < 2 ^ 64)]
  omega
theorem wd_b {h' i j g kk : Nat} {m : Int} (hm : m = (j : Int) - (i : Int)) (ek : (kk : Int) = m + 65536) (eg : g = (h' + kk + 18446744073709486080) % 18446744073709551616) : (g * 15485907386658061715 % 18446744073709551616 + i * 15485907386658061715 % 18446744073709551616) % 18446744073709551616 = (h' + j) * 15485907386658061715 % 18446744073709551616 := by
  rw [← Nat.add_mod, ← Nat.add_mul]
  have e1 := Nat.div_add_mod (h' + kk + 18446744073709486080) 18446744073709551616
  rw [← eg] at e1
  obtain ⟨q, eq⟩ : ∃ r, r = (h' + kk + 18446744073709486080) / 18446744073709551616 := ⟨_, rfl⟩
  rw [← eq] at e1
  clear eg eq
  have e2 : h' + j + 18446744073709551616 = g + i + 18446744073709551616 * q := by omega
  have e3 : (h' + j) * 15485907386658061715 + 18446744073709551616 * 15485907386658061715 = (g + i) * 15485907386658061715 + 18446744073709551616 * (q * 15485907386658061715) := by
    rw [← Nat.add_mul, e2, Nat.add_mul, Nat.mul_assoc]
  have e4 := congrArg (fun z => z % 18446744073709551616) e3
  rw [Nat.add_mul_mod_self_left, Nat.add_mul_mod_self_left] at e4
  exact e4.symm
theorem wd_g {S d i j : Nat} {y v : Int} (e : 8180687416807346520 * ((ws_h (S + d) : Int) - (ws_h S : Int) + ((j : Int) - (i : Int))) = 18446744073709551616 * y + v) (v1 : -4947802327040 ≤ v) (v2 : v ≤ 4947802327040) (m1 : -140 ≤ (j : Int) - (i : Int)) (m2 : (j : Int) - (i : Int) ≤ 140) : k_i (k_a (k_g (S + 1) d)) i = wd_o (ws_h (S + d)) j := by
  have b : k_b (k_a (k_g (S + 1) d)) i = wd_a (ws_h (S + d)) j := by
    have ek : ((k_k (S + 1) d : Nat) : Int) = ((j : Int) - (i : Int)) + 65536 := by
      obtain ⟨x, ex⟩ := wd_y (Y := k_y (S + 1) d) (ws_h_lt S) e (by unfold k_y; rw [k_hs, k_hs, Nat.add_zero])
      exact wd_k (wd_f1 ex v1 v2 m1 m2) (wd_f2 ex v1 v2 m1 m2) m1 m2
    exact wd_b (h' := ws_h (S + d)) rfl ek (by unfold k_g; rw [k_hs])
  unfold k_i wd_o
  rw [b]
theorem wd_h (S i : Nat) : k_i (k_a (k_h (S + 1) 0)) i = wd_o (ws_h S) i := by
  have b : k_b (k_a (k_h (S + 1) 0)) i = wd_a (ws_h S) i := by
    unfold k_b k_a wd_a
    rw [k_hs, Nat.add_zero, ← Nat.add_mod, ← Nat.add_mul]
  unfold k_i wd_o
  rw [b]
/-- one PUBLIC number of two draws, i of S and j of S + d -/
def w_eq (S d i j : Nat) : Prop := ∃ z : Int, ((wd_o (ws_h S) i % 2305843009213693949 : Nat) : Int) - ((wd_o (ws_h (S + d)) j % 2305843009213693949 : Nat) : Int) = 256204778801521550 * z
theorem wd_main {S d i j : Nat} (h : w_eq S d i j) : (((wd_o (ws_h S) i + (18446744073709551616 - wd_o (ws_h (S + d)) j)) * 72 + 2048) % 18446744073709551616 < 4096) ∧ ∃ y v : Int, 8180687416807346520 * ((ws_h (S + d) : Int) - (ws_h S : Int) + ((j : Int) - (i : Int))) = 18446744073709551616 * y + v ∧ -4947802327040 ≤ v ∧ v ≤ 4947802327040 := by
  obtain ⟨z, e⟩ := h
  have n := wd_sec (wd_o_lt _ _) (wd_o_lt _ _) e
  obtain ⟨z', v, e', v1, v2⟩ := wd_v (wd_a_lt (ws_h S) i) (wd_a_lt (ws_h (S + d)) j) (wd_top (wd_a_lt _ _)) (wd_top (wd_a_lt _ _)) (wd_o_lt _ _) (wd_o_lt _ _) n
  obtain ⟨y, e2⟩ := wd_K e'
  exact ⟨n, y, v, e2, v1, v2⟩
