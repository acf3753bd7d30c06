/-! no two draws have one PUBLIC number: seeds and draws in the walk's words -/
theorem uu_int (z : Int) : uu (Int64.ofInt z) = (z % 18446744073709551616).toNat := by
  unfold uu
  rw [Int64.toBitVec_ofInt, BitVec.toNat_ofInt]
  omega
theorem uu_mx1 : uu (Int64.ofInt 6364136223846793005) = 6364136223846793005 := by decide
theorem uu_mx2 : uu (Int64.ofInt (-7046029254386353131)) = 11400714819323198485 := by decide
theorem uu_mx3 : uu (Int64.ofInt (-2960836687051489901)) = 15485907386658061715 := by decide
theorem f_mix_w {a b : Int64} {S i : Nat} (ha : uu a = (S + 18446744071562067968) % 18446744073709551616) (hb : uu b = i) : uu (f_mix a b) = wd_o (ws_h S) i := by
  have e1 : uu ((a ^^^ Int64.ofInt 6364136223846793005) * Int64.ofInt (-7046029254386353131)) = ws_x S := by
    unfold ws_x
    rw [uu_mul, uu_xor, uu_mx1, uu_mx2, ha]
  have e2 : uu ((a ^^^ Int64.ofInt 6364136223846793005) * Int64.ofInt (-7046029254386353131) ^^^ cx_lus ((a ^^^ Int64.ofInt 6364136223846793005) * Int64.ofInt (-7046029254386353131)) (Int32.ofInt 32)) = ws_h S := by
    rw [uu_xor, lus_l (k := 32) 32 rfl (by decide), e1]
    unfold ws_h
    rw [Nat.shiftRight_eq_div_pow]
  have e3 : uu ((((a ^^^ Int64.ofInt 6364136223846793005) * Int64.ofInt (-7046029254386353131) ^^^ cx_lus ((a ^^^ Int64.ofInt 6364136223846793005) * Int64.ofInt (-7046029254386353131)) (Int32.ofInt 32)) + b) * Int64.ofInt (-2960836687051489901)) = wd_a (ws_h S) i := by
    rw [uu_mul, uu_add, e2, uu_mx3, hb]
    unfold wd_a
    rw [Nat.mul_mod, Nat.mod_mod, ← Nat.mul_mod]
  unfold f_mix
  rw [uu_xor, lus_l (k := 29) 29 rfl (by decide), e3]
  unfold wd_o
  rw [Nat.shiftRight_eq_div_pow]
theorem zA_l (a : Nat) : a % 2305843009213693949 + 1 < 2 ^ 61 := by
  have h := Nat.mod_lt a (show 0 < 2305843009213693949 by decide)
  have : (2 : Nat) ^ 61 = 2305843009213693952 := by decide
  omega
theorem zA_b {i : Int} (i0 : 0 ≤ i) (i1 : i < 141) : uu (Int64.ofInt (i + 1)) = i.toNat + 1 := by
  rw [uu_int]
  omega
theorem dO_w {a : Int64} {S : Nat} {i : Int} (ha : uu a = (S + 18446744071562067968) % 18446744073709551616) (i0 : 0 ≤ i) (i1 : i < 141) : uu (dO a i) = 3 ^ (wd_o (ws_h S) (i.toNat + 1) % 2305843009213693949 + 1) % 2305843009213693951 := by
  unfold dO dV
  rw [f_power_v (by rw [uu3]; decide), uu3, f_asSecret_v, f_mix_w ha (zA_b i0 i1), Nat.mod_eq_of_lt (zA_l _)]
theorem sd_w {b u : Int} (b0 : -2147483648 ≤ b ∧ b < 2147483648) (u0 : 0 ≤ u ∧ u < 6) : uu (Int64.ofInt b + Int64.ofInt u) = ((b + u + 2147483648).toNat + 18446744071562067968) % 18446744073709551616 := by
  rw [uu_add, uu_int, uu_int]
  omega
theorem zA_0 {a b : Nat} {z : Int} (h : ((a + 1 : Nat) : Int) - ((b + 1 : Nat) : Int) = 256204778801521550 * z) : (a : Int) - (b : Int) = 256204778801521550 * z := by
  omega
theorem zA_n (hW : w_rg 3178) {S T i j : Nat} (le : S ≤ T) (l5 : T ≤ S + 5) (lt : S < 4295639040) (i1 : 1 ≤ i) (i2 : i ≤ 141) (j1 : 1 ≤ j) (j2 : j ≤ 141) (e : 3 ^ (wd_o (ws_h S) i % 2305843009213693949 + 1) % 2305843009213693951 = 3 ^ (wd_o (ws_h T) j % 2305843009213693949 + 1) % 2305843009213693951) : S = T ∧ i = j := by
  obtain ⟨z, hz⟩ := wu_int e
  obtain ⟨d, hd⟩ := Nat.le.dest le
  rw [← hd] at l5 hz ⊢
  have we : w_eq S d i j := ⟨z, zA_0 hz⟩
  by_cases y : d = 0 ∧ i = j
  · rw [y.1]
    exact ⟨rfl, y.2⟩
  · exact absurd we (wz_all hW lt (Nat.le_of_add_le_add_left l5) i1 i2 j1 j2 (fun y1 y2 => y ⟨y1, y2⟩))
theorem zA_i {i : Int} (i0 : 0 ≤ i) (i1 : i < 141) : 1 ≤ i.toNat + 1 ∧ i.toNat + 1 ≤ 141 := by
  omega
theorem zA_e {i j : Int} (i0 : 0 ≤ i) (j0 : 0 ≤ j) (e : i.toNat + 1 = j.toNat + 1) : i = j := by
  omega
theorem zA_u (hW : w_rg 3178) {a a' : Int64} {S T : Nat} {i j : Int} (ha : uu a = (S + 18446744071562067968) % 18446744073709551616) (ha' : uu a' = (T + 18446744071562067968) % 18446744073709551616) (le : S ≤ T) (l5 : T ≤ S + 5) (lt : S < 4295639040) (i0 : 0 ≤ i) (i1 : i < 141) (j0 : 0 ≤ j) (j1 : j < 141) (e : dO a i = dO a' j) : S = T ∧ i = j := by
  have h := zA_n hW le l5 lt (zA_i i0 i1).1 (zA_i i0 i1).2 (zA_i j0 j1).1 (zA_i j0 j1).2 ((dO_w ha i0 i1).symm.trans ((congrArg uu e).trans (dO_w ha' j0 j1)))
  exact ⟨h.1, zA_e i0 j0 h.2⟩
theorem zA_r {b u v : Int} (b0 : -2147483648 ≤ b ∧ b < 2147483648) (u0 : 0 ≤ u) (v6 : v < 6) (le : u ≤ v) : ((b + u + 2147483648).toNat ≤ (b + v + 2147483648).toNat ∧ (b + v + 2147483648).toNat ≤ (b + u + 2147483648).toNat + 5) ∧ (b + u + 2147483648).toNat < 4295639040 := by
  omega
theorem zA_q {b u v : Int} (b0 : -2147483648 ≤ b ∧ b < 2147483648) (u0 : 0 ≤ u) (v0 : 0 ≤ v) (e : (b + u + 2147483648).toNat = (b + v + 2147483648).toNat) : u = v := by
  omega
/-- no two draws have one PUBLIC number -/
theorem zAA_w (hW : w_rg 3178) {x : Nat} {n b : Int} {g : cx_Q} (hn : n ≤ 6) (b0 : -2147483648 ≤ b ∧ b < 2147483648) (sd : ∀ u, 0 ≤ u → u < n → cq_J g (x + 1) u = Int64.ofInt b + Int64.ofInt u) : zAA x n g := fun u v i j u0 u1 v0 v1 i0 i1 j0 j1 e => by
  rw [sd u u0 u1, sd v v0 v1] at e
  have u6 : u < 6 := Int.lt_of_lt_of_le u1 hn
  have v6 : v < 6 := Int.lt_of_lt_of_le v1 hn
  by_cases le : u ≤ v
  · obtain ⟨⟨r1, r2⟩, r3⟩ := zA_r b0 u0 v6 le
    obtain ⟨k1, k2⟩ := zA_u hW (sd_w b0 ⟨u0, u6⟩) (sd_w b0 ⟨v0, v6⟩) r1 r2 r3 i0 i1 j0 j1 e
    exact ⟨zA_q b0 u0 v0 k1, k2⟩
  · obtain ⟨⟨r1, r2⟩, r3⟩ := zA_r b0 v0 u6 (Int.le_of_lt (Int.not_le.mp le))
    obtain ⟨k1, k2⟩ := zA_u hW (sd_w b0 ⟨v0, v6⟩) (sd_w b0 ⟨u0, u6⟩) r1 r2 r3 j0 j1 i0 i1 e.symm
    exact ⟨(zA_q b0 v0 u0 k1).symm, k2.symm⟩
