/-! no two draws have one PUBLIC number: seeds and draws in the walk's words -/
theorem uu_xor (x y : Int64) : uu (x ^^^ y) = uu x ^^^ uu y := by
  unfold uu
  rw [Int64.toBitVec_xor, BitVec.toNat_xor]
theorem uu_int (z : Int) : uu (Int64.ofInt z) = (z % 18446744073709551616).toNat := by
  unfold uu
  rw [Int64.toBitVec_ofInt, BitVec.toNat_ofInt]
  rfl
theorem uu_mx1 : uu (Int64.ofInt 6364136223846793005) = 6364136223846793005 := by decide
theorem uu_mx2 : uu (Int64.ofInt (-7046029254386353131)) = 11400714819323198485 := by decide
theorem uu_mx3 : uu (Int64.ofInt (-2960836687051489901)) = 15485907386658061715 := by decide
theorem f_mix_w {a b : Int64} {S i : Nat} (ha : uu a = (S + 18446744071562067968) % 18446744073709551616) (hb : uu b = i) : uu (f_mix a b) = wd_o (ws_h S) i := by
  have e1 : uu ((a ^^^ Int64.ofInt 6364136223846793005) * Int64.ofInt (-7046029254386353131)) = ws_x S := by
    rw [uu_mul, uu_xor, uu_mx1, uu_mx2, ha]
    rfl
  have e2 : uu ((a ^^^ Int64.ofInt 6364136223846793005) * Int64.ofInt (-7046029254386353131) ^^^ cx_lus ((a ^^^ Int64.ofInt 6364136223846793005) * Int64.ofInt (-7046029254386353131)) (Int32.ofInt 32)) = ws_h S := by
    rw [uu_xor, lus_l 32 rfl (by decide), e1]
    unfold ws_h
    rw [Nat.shiftRight_eq_div_pow]
  have e3 : uu ((((a ^^^ Int64.ofInt 6364136223846793005) * Int64.ofInt (-7046029254386353131) ^^^ cx_lus ((a ^^^ Int64.ofInt 6364136223846793005) * Int64.ofInt (-7046029254386353131)) (Int32.ofInt 32)) + b) * Int64.ofInt (-2960836687051489901)) = wd_a (ws_h S) i := by
    rw [uu_mul, uu_add, e2, uu_mx3, hb]
    unfold wd_a
    rw [Nat.mul_mod, Nat.mod_mod, ← Nat.mul_mod]
  unfold f_mix
  rw [uu_xor, lus_l 29 rfl (by decide), e3]
  unfold wd_o
  rw [Nat.shiftRight_eq_div_pow]
theorem dO_w {a : Int64} {S : Nat} {i : Int} (ha : uu a = (S + 18446744071562067968) % 18446744073709551616) (i0 : 0 ≤ i) (i1 : i < 141) : uu (dO a i) = 3 ^ (wd_o (ws_h S) (i.toNat + 1) % 2305843009213693949 + 1) % 2305843009213693951 := by
  have hb : uu (Int64.ofInt (i + 1)) = i.toNat + 1 := by
    rw [uu_int]
    omega
  unfold dO dV
  rw [f_power_v (by rw [uu3]; decide), uu3, f_asSecret_v, f_mix_w ha hb]
  have lt := Nat.mod_lt (wd_o (ws_h S) (i.toNat + 1)) (show 0 < 2305843009213693949 by decide)
  rw [Nat.mod_eq_of_lt (show wd_o (ws_h S) (i.toNat + 1) % 2305843009213693949 + 1 < 2 ^ 61 by
    have : (2 : Nat) ^ 61 = 2305843009213693952 := by decide
    omega)]
theorem sd_w {b u : Int} (b0 : -2147483648 ≤ b ∧ b < 2147483648) (u0 : 0 ≤ u ∧ u < 6) : uu (Int64.ofInt b + Int64.ofInt u) = ((b + u + 2147483648).toNat + 18446744071562067968) % 18446744073709551616 := by
  rw [uu_add, uu_int, uu_int]
  omega
/-- no two draws have one PUBLIC number -/
theorem zAA_w (hW : w_rg 3178) {x : Nat} {n b : Int} {g : cx_Q} (hn : n ≤ 6) (b0 : -2147483648 ≤ b ∧ b < 2147483648) (sd : ∀ u, 0 ≤ u → u < n → cq_J g (x + 1) u = Int64.ofInt b + Int64.ofInt u) : zAA x n g := fun u u' i i' u0 u1 u0' u1' i0 i1 i0' i1' e => by
  rw [sd u u0 u1, sd u' u0' u1'] at e
  have h1 := dO_w (sd_w b0 ⟨u0, by omega⟩) i0 i1
  have h2 := dO_w (sd_w b0 ⟨u0', by omega⟩) i0' i1'
  rw [e, h2] at h1
  obtain ⟨z, hz⟩ := wu_int h1
  by_cases le : u ≤ u'
  · have eS : (b + u' + 2147483648).toNat = (b + u + 2147483648).toNat + (u' - u).toNat := by omega
    rw [eS] at hz
    have we : w_eq (b + u + 2147483648).toNat (u' - u).toNat (i.toNat + 1) (i'.toNat + 1) := ⟨-z, by omega⟩
    by_cases y : (u' - u).toNat = 0 ∧ i.toNat = i'.toNat
    · exact ⟨by omega, by omega⟩
    · exact absurd we (wz_all hW (by omega) (by omega) (by omega) (by omega) (by omega) (by omega) (fun y1 y2 => y ⟨y1, by omega⟩))
  · have eS : (b + u + 2147483648).toNat = (b + u' + 2147483648).toNat + (u - u').toNat := by omega
    rw [eS] at hz
    have we : w_eq (b + u' + 2147483648).toNat (u - u').toNat (i'.toNat + 1) (i.toNat + 1) := ⟨z, by omega⟩
    exact absurd we (wz_all hW (by omega) (by omega) (by omega) (by omega) (by omega) (by omega) (fun y1 _ => by omega))
