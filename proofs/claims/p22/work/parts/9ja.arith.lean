/-! the class and the reference reckon alike -/
/-- a long without its sign -/
def uu (x : Int64) : Nat := x.toBitVec.toNat
theorem uu_lt (x : Int64) : uu x < 18446744073709551616 := x.toBitVec.isLt
theorem uu_inj {x y : Int64} (q : uu x = uu y) : x = y := by
  apply Int64.toBitVec_inj.mp
  exact BitVec.eq_of_toNat_eq q
theorem uu_add (x y : Int64) : uu (x + y) = (uu x + uu y) % 18446744073709551616 := by
  unfold uu
  rw [Int64.toBitVec_add, BitVec.toNat_add]
theorem uu_mul (x y : Int64) : uu (x * y) = (uu x * uu y) % 18446744073709551616 := by
  unfold uu
  rw [Int64.toBitVec_mul, BitVec.toNat_mul]
theorem uu_sub (x y : Int64) : uu (x - y) = (18446744073709551616 - uu y + uu x) % 18446744073709551616 := by
  unfold uu
  rw [Int64.toBitVec_sub, BitVec.toNat_sub]
theorem uu_and (x y : Int64) : uu (x &&& y) = uu x &&& uu y := by
  unfold uu
  rw [Int64.toBitVec_and, BitVec.toNat_and]
theorem uu_of {n : Nat} (h : n < 18446744073709551616) : uu (Int64.ofInt (n : Int)) = n := by
  unfold uu
  rw [Int64.toBitVec_ofInt, BitVec.toNat_ofInt]
  omega
theorem uu_i {x : Int64} (h : uu x < 9223372036854775808) : x.toInt = uu x := by
  unfold uu at h ⊢
  rw [← Int64.toInt_toBitVec, BitVec.toInt_eq_toNat_cond]
  rw [if_pos (by omega)]
theorem uu_n {x : Int64} (h : ¬ uu x < 9223372036854775808) : x.toInt = (uu x : Int) - 18446744073709551616 := by
  unfold uu at h ⊢
  rw [← Int64.toInt_toBitVec, BitVec.toInt_eq_toNat_cond]
  rw [if_neg (by omega)]
  rfl
theorem sh_u : ∀ k : Fin 64, ((Int32.ofInt (k.1 : Int)).toInt64.toUInt64 &&& Int64.toUInt64 63) = UInt64.ofNat k.1 := by decide
theorem sh_s : ∀ k : Fin 64, (((Int32.ofInt (k.1 : Int)).toInt64 &&& 63).toBitVec.smod 64).toNat = k.1 := by decide
theorem uu_lus {x : Int64} {k : Nat} (h : k < 64) : uu (cx_lus x (Int32.ofInt (k : Int))) = uu x / 2 ^ k := by
  unfold cx_lus uu
  rw [sh_u ⟨k, h⟩]
  show (x.toUInt64 >>> UInt64.ofNat k).toBitVec.toNat = _
  rw [UInt64.toBitVec_shiftRight, BitVec.ushiftRight_eq', BitVec.toNat_ushiftRight, Nat.shiftRight_eq_div_pow]
  have : ((UInt64.ofNat k).toBitVec % 64).toNat = k := by
    rw [BitVec.toNat_umod]
    show (UInt64.ofNat k).toNat % 64 = k
    have : (UInt64.ofNat k).toNat = k % 2 ^ 64 := UInt64.toNat_ofNat'
    rw [this]
    omega
  rw [this]
  rfl
theorem uu_lsl {x : Int64} {k : Nat} (h : k < 64) : uu (cx_lsl x (Int32.ofInt (k : Int))) = uu x * 2 ^ k % 18446744073709551616 := by
  unfold cx_lsl uu
  rw [Int64.toBitVec_shiftLeft, BitVec.shiftLeft_eq', sh_s ⟨k, h⟩, BitVec.toNat_shiftLeft, Nat.shiftLeft_eq]
theorem uu_lsr {x : Int64} {k : Nat} (h : k < 64) (hx : uu x < 9223372036854775808) : uu (cx_lsr x (Int32.ofInt (k : Int))) = uu x / 2 ^ k := by
  unfold cx_lsr
  unfold uu at hx ⊢
  rw [Int64.toBitVec_shiftRight, BitVec.sshiftRight_eq', sh_s ⟨k, h⟩]
  rw [BitVec.toNat_sshiftRight_of_msb_false]
  · rw [Nat.shiftRight_eq_div_pow]
  · rw [BitVec.msb_eq_false_iff_two_mul_lt]; omega
/-- the bit at k -/
theorem bit_s {x : Int64} {k : Nat} (h : k < 63) : uu (cx_lsr x (Int32.ofInt (k : Int)) &&& Int64.ofInt 1) = uu x / 2 ^ k % 2 := by
  unfold cx_lsr uu
  rw [Int64.toBitVec_and, Int64.toBitVec_shiftRight, BitVec.sshiftRight_eq', sh_s ⟨k, by omega⟩]
  show (x.toBitVec.sshiftRight k &&& 1#64).toNat = _
  rw [BitVec.toNat_and]
  show (x.toBitVec.sshiftRight k).toNat &&& 1 = _
  rw [Nat.and_one_is_mod]
  have t1 : (x.toBitVec.sshiftRight k).toNat.testBit 0 = x.toBitVec.toNat.testBit k := by
    rw [BitVec.testBit_toNat, BitVec.testBit_toNat, BitVec.getLsbD_sshiftRight]
    rw [Nat.add_zero, if_pos (by omega)]
    simp
  rw [Nat.testBit_eq_decide_div_mod_eq, Nat.testBit_eq_decide_div_mod_eq] at t1
  rw [Nat.pow_zero, Nat.div_one] at t1
  have t2 := decide_eq_decide.mp t1
  omega
theorem uu_rm {x y : Int64} (hx : uu x < 9223372036854775808) (hy : uu y < 9223372036854775808) (h0 : 0 < uu y) : uu (cx_lrm x y) = uu x % uu y := by
  have e : uu (x / y) = uu x / uu y := by
    unfold uu at hx hy h0 ⊢
    rw [Int64.toBitVec_div, BitVec.sdiv_eq]
    rw [BitVec.msb_eq_false_iff_two_mul_lt.mpr (by omega), BitVec.msb_eq_false_iff_two_mul_lt.mpr (by omega)]
    show (x.toBitVec / y.toBitVec).toNat = _
    rw [BitVec.toNat_udiv]
  unfold cx_lrm
  have h1 := Nat.div_add_mod (uu x) (uu y)
  have h2 := Nat.mod_lt (uu x) h0
  rw [uu_sub, uu_mul, e]
  rw [Nat.mul_comm] at h1
  generalize uu x / uu y * uu y = w at h1
  omega
theorem and_m (x k : Nat) {m : Nat} (h : m = 2 ^ k - 1) : x &&& m = x % 2 ^ k := by rw [h]; exact Nat.and_two_pow_sub_one_eq_mod x k
theorem uuP : uu (Int64.ofInt 2305843009213693951) = 2305843009213693951 := by decide
theorem uuQ : uu (Int64.ofInt 2305843009213693950) = 2305843009213693950 := by decide
theorem uuR : uu (Int64.ofInt 2305843009213693949) = 2305843009213693949 := by decide
theorem uu31 : uu (Int64.ofInt 2147483647) = 2147483647 := by decide
theorem uu30 : uu (Int64.ofInt 1073741823) = 1073741823 := by decide
theorem uu32 : uu (Int64.ofInt 4294967295) = 4294967295 := by decide
theorem uu29 : uu (Int64.ofInt 536870911) = 536870911 := by decide
theorem uu0 : uu (Int64.ofInt 0) = 0 := by decide
theorem uu1 : uu (Int64.ofInt 1) = 1 := by decide
theorem uu2 : uu (Int64.ofInt 2) = 2 := by decide
theorem uu3 : uu (Int64.ofInt 3) = 3 := by decide
theorem uu4 : uu (Int64.ofInt 4) = 4 := by decide
theorem lsr_l {x : Int64} {k : Int} (n : Nat) (e : k = n) (h : n < 64) (hx : uu x < 9223372036854775808) : uu (cx_lsr x (Int32.ofInt k)) = uu x / 2 ^ n := by rw [e]; exact uu_lsr h hx
theorem lus_l {x : Int64} {k : Int} (n : Nat) (e : k = n) (h : n < 64) : uu (cx_lus x (Int32.ofInt k)) = uu x / 2 ^ n := by rw [e]; exact uu_lus h
theorem lsl_l {x : Int64} {k : Int} (n : Nat) (e : k = n) (h : n < 64) : uu (cx_lsl x (Int32.ofInt k)) = uu x * 2 ^ n % 18446744073709551616 := by rw [e]; exact uu_lsl h
/-- products of bounded numbers are bounded -/
theorem mul_b {a b A B : Nat} (ha : a ≤ A) (hb : b ≤ B) : a * b ≤ A * B := Nat.mul_le_mul ha hb
theorem sp (a k : Nat) : a = a / 2 ^ k * 2 ^ k + a % 2 ^ k := by have := Nat.div_add_mod a (2 ^ k); rw [Nat.mul_comm] at this; exact this.symm
theorem uu_add' {x y : Int64} (h : uu x + uu y < 18446744073709551616) : uu (x + y) = uu x + uu y := by rw [uu_add, Nat.mod_eq_of_lt h]
theorem uu_mul' {x y : Int64} (h : uu x * uu y < 18446744073709551616) : uu (x * y) = uu x * uu y := by rw [uu_mul, Nat.mod_eq_of_lt h]
theorem f_times_v {a b : Int64} (ha : uu a < 2305843009213693952) (hb : uu b < 2305843009213693952) : uu (f_times a b) = uu a * uu b % 2305843009213693951 := by
  unfold f_times
  dsimp only
  have A1 : uu (cx_lsr a (Int32.ofInt 31)) = uu a / 2 ^ 31 := lsr_l 31 rfl (by decide) (by omega)
  have B1 : uu (cx_lsr b (Int32.ofInt 31)) = uu b / 2 ^ 31 := lsr_l 31 rfl (by decide) (by omega)
  have A0 : uu (a &&& Int64.ofInt 2147483647) = uu a % 2 ^ 31 := by rw [uu_and, uu31]; exact and_m _ 31 rfl
  have B0 : uu (b &&& Int64.ofInt 2147483647) = uu b % 2 ^ 31 := by rw [uu_and, uu31]; exact and_m _ 31 rfl
  have sa := sp (uu a) 31
  have sb := sp (uu b) 31
  have la1 : uu a / 2 ^ 31 ≤ 1073741823 := by omega
  have lb1 : uu b / 2 ^ 31 ≤ 1073741823 := by omega
  have la0 : uu a % 2 ^ 31 ≤ 2147483647 := by omega
  have lb0 : uu b % 2 ^ 31 ≤ 2147483647 := by omega
  generalize cx_lsr a (Int32.ofInt 31) = a1 at *
  generalize cx_lsr b (Int32.ofInt 31) = b1 at *
  generalize a &&& Int64.ofInt 2147483647 = a0 at *
  generalize b &&& Int64.ofInt 2147483647 = b0 at *
  rw [← A1] at sa la1
  rw [← B1] at sb lb1
  rw [← A0] at sa la0
  rw [← B0] at sb lb0
  clear A1 B1 A0 B0
  have e11 := mul_b la1 lb1
  have e10 := mul_b la1 lb0
  have e01 := mul_b la0 lb1
  have e00 := mul_b la0 lb0
  have p11 : uu (a1 * b1) = uu a1 * uu b1 := uu_mul' (by omega)
  have p10 : uu (a1 * b0) = uu a1 * uu b0 := uu_mul' (by omega)
  have p01 : uu (a0 * b1) = uu a0 * uu b1 := uu_mul' (by omega)
  have p00 : uu (a0 * b0) = uu a0 * uu b0 := uu_mul' (by omega)
  have pm : uu (a1 * b0 + a0 * b1) = uu a1 * uu b0 + uu a0 * uu b1 := by rw [uu_add' (by omega), p10, p01]
  have key : uu a * uu b = 4611686018427387904 * (uu a1 * uu b1) + 2147483648 * (uu a1 * uu b0 + uu a0 * uu b1) + uu a0 * uu b0 := by
    rw [sa, sb]
    generalize uu a1 = A1
    generalize uu a0 = A0
    generalize uu b1 = B1
    generalize uu b0 = B0
    show (A1 * 2147483648 + A0) * (B1 * 2147483648 + B0) = _
    rw [Nat.add_mul, Nat.mul_add, Nat.mul_add, Nat.mul_add]
    have t1 : A1 * 2147483648 * (B1 * 2147483648) = 4611686018427387904 * (A1 * B1) := by rw [Nat.mul_mul_mul_comm, Nat.mul_comm]
    have t2 : A1 * 2147483648 * B0 = 2147483648 * (A1 * B0) := by rw [Nat.mul_comm A1, Nat.mul_assoc]
    have t3 : A0 * (B1 * 2147483648) = 2147483648 * (A0 * B1) := by rw [← Nat.mul_assoc, Nat.mul_comm]
    rw [t1, t2, t3]; omega
  rw [key]
  clear key sa sb
  rw [← p11, ← pm, ← p00]
  rw [← p11] at e11
  rw [← p00] at e00
  have em : uu (a1 * b0 + a0 * b1) ≤ 4611686014132420608 := by omega
  generalize a1 * b0 + a0 * b1 = md at *
  generalize a1 * b1 = hi at *
  generalize a0 * b0 = lo at *
  clear p11 p10 p01 p00 pm e10 e01
  have q1 : uu (Int64.ofInt 2 * hi) = 2 * uu hi := by rw [uu_mul' (by rw [uu2]; omega), uu2]
  have r1 := uu_rm (x := Int64.ofInt 2 * hi) (y := Int64.ofInt 2305843009213693951) (by omega) (by rw [uuP]; decide) (by rw [uuP]; decide)
  have l1 := uu_rm (x := lo) (y := Int64.ofInt 2305843009213693951) (by omega) (by rw [uuP]; decide) (by rw [uuP]; decide)
  have m1 : uu (cx_lsr md (Int32.ofInt 30)) = uu md / 2 ^ 30 := lsr_l 30 rfl (by decide) (by omega)
  have m0 : uu (cx_lsl (md &&& Int64.ofInt 1073741823) (Int32.ofInt 31)) = uu md % 2 ^ 30 * 2147483648 := by
    rw [lsl_l (k := 31) 31 rfl (by decide), uu_and, uu30, and_m _ 30 rfl]
    omega
  rw [uuP] at r1 l1
  generalize cx_lrm (Int64.ofInt 2 * hi) (Int64.ofInt 2305843009213693951) = R1 at *
  generalize cx_lrm lo (Int64.ofInt 2305843009213693951) = L1 at *
  generalize cx_lsr md (Int32.ofInt 30) = M1 at *
  generalize cx_lsl (md &&& Int64.ofInt 1073741823) (Int32.ofInt 31) = M0 at *
  have s2 : uu (R1 + M1) = uu R1 + uu M1 := uu_add' (by omega)
  have r2 := uu_rm (x := R1 + M1) (y := Int64.ofInt 2305843009213693951) (by omega) (by rw [uuP]; decide) (by rw [uuP]; decide)
  rw [uuP] at r2
  generalize cx_lrm (R1 + M1) (Int64.ofInt 2305843009213693951) = R2 at *
  have s3 : uu (R2 + M0) = uu R2 + uu M0 := uu_add' (by omega)
  have r3 := uu_rm (x := R2 + M0) (y := Int64.ofInt 2305843009213693951) (by omega) (by rw [uuP]; decide) (by rw [uuP]; decide)
  rw [uuP] at r3
  generalize cx_lrm (R2 + M0) (Int64.ofInt 2305843009213693951) = R3 at *
  have s4 : uu (R3 + L1) = uu R3 + uu L1 := uu_add' (by omega)
  have r4 := uu_rm (x := R3 + L1) (y := Int64.ofInt 2305843009213693951) (by omega) (by rw [uuP]; decide) (by rw [uuP]; decide)
  rw [uuP] at r4
  rw [r4]
  omega
theorem g_fold_v {a b : Int64} (ha : uu a < 2305843009213693952) (hb : uu b < 2305843009213693952) : uu (g_fold a b) % 2305843009213693951 = uu a * uu b % 2305843009213693951 ∧ uu (g_fold a b) < 4611686018427387902 := by
  unfold g_fold
  dsimp only
  have A1 : uu (cx_lus a (Int32.ofInt 32)) = uu a / 2 ^ 32 := lus_l 32 rfl (by decide)
  have B1 : uu (cx_lus b (Int32.ofInt 32)) = uu b / 2 ^ 32 := lus_l 32 rfl (by decide)
  have A0 : uu (a &&& Int64.ofInt 4294967295) = uu a % 2 ^ 32 := by rw [uu_and, uu32]; exact and_m _ 32 rfl
  have B0 : uu (b &&& Int64.ofInt 4294967295) = uu b % 2 ^ 32 := by rw [uu_and, uu32]; exact and_m _ 32 rfl
  have sa := sp (uu a) 32
  have sb := sp (uu b) 32
  have la1 : uu a / 2 ^ 32 ≤ 536870911 := by omega
  have lb1 : uu b / 2 ^ 32 ≤ 536870911 := by omega
  have la0 : uu a % 2 ^ 32 ≤ 4294967295 := by omega
  have lb0 : uu b % 2 ^ 32 ≤ 4294967295 := by omega
  generalize cx_lus a (Int32.ofInt 32) = a1 at *
  generalize cx_lus b (Int32.ofInt 32) = b1 at *
  generalize a &&& Int64.ofInt 4294967295 = a0 at *
  generalize b &&& Int64.ofInt 4294967295 = b0 at *
  rw [← A1] at sa la1
  rw [← B1] at sb lb1
  rw [← A0] at sa la0
  rw [← B0] at sb lb0
  clear A1 B1 A0 B0
  have e11 := mul_b la1 lb1
  have e10 := mul_b la1 lb0
  have e01 := mul_b la0 lb1
  have e00 := mul_b la0 lb0
  have p11 : uu (a1 * b1) = uu a1 * uu b1 := uu_mul' (by omega)
  have p10 : uu (a1 * b0) = uu a1 * uu b0 := uu_mul' (by omega)
  have p01 : uu (a0 * b1) = uu a0 * uu b1 := uu_mul' (by omega)
  have p00 : uu (a0 * b0) = uu a0 * uu b0 := uu_mul' (by omega)
  have pm : uu (a1 * b0 + a0 * b1) = uu a1 * uu b0 + uu a0 * uu b1 := by rw [uu_add' (by omega), p10, p01]
  have key : uu a * uu b = 18446744073709551616 * (uu a1 * uu b1) + 4294967296 * (uu a1 * uu b0 + uu a0 * uu b1) + uu a0 * uu b0 := by
    rw [sa, sb]
    generalize uu a1 = A1
    generalize uu a0 = A0
    generalize uu b1 = B1
    generalize uu b0 = B0
    show (A1 * 4294967296 + A0) * (B1 * 4294967296 + B0) = _
    rw [Nat.add_mul, Nat.mul_add, Nat.mul_add, Nat.mul_add]
    have t1 : A1 * 4294967296 * (B1 * 4294967296) = 18446744073709551616 * (A1 * B1) := by rw [Nat.mul_mul_mul_comm, Nat.mul_comm]
    have t2 : A1 * 4294967296 * B0 = 4294967296 * (A1 * B0) := by rw [Nat.mul_comm A1, Nat.mul_assoc]
    have t3 : A0 * (B1 * 4294967296) = 4294967296 * (A0 * B1) := by rw [← Nat.mul_assoc, Nat.mul_comm]
    rw [t1, t2, t3]; omega
  rw [key]
  clear key sa sb
  rw [← p11, ← pm, ← p00]
  rw [← p11] at e11
  rw [← p00] at e00
  have em : uu (a1 * b0 + a0 * b1) ≤ 4611686009837453310 := by omega
  generalize a1 * b0 + a0 * b1 = md at *
  generalize a1 * b1 = hi at *
  generalize a0 * b0 = lo at *
  clear p11 p10 p01 p00 pm e10 e01
  have q1 : uu (cx_lsl hi (Int32.ofInt 3)) = 8 * uu hi := by rw [lsl_l (k := 3) 3 rfl (by decide)]; omega
  have m1 : uu (cx_lus md (Int32.ofInt 29)) = uu md / 2 ^ 29 := lus_l 29 rfl (by decide)
  have m0 : uu (cx_lsl (md &&& Int64.ofInt 536870911) (Int32.ofInt 32)) = uu md % 2 ^ 29 * 4294967296 := by
    rw [lsl_l (k := 32) 32 rfl (by decide), uu_and, uu29, and_m _ 29 rfl]
    omega
  have l0 : uu (lo &&& Int64.ofInt 2305843009213693951) = uu lo % 2 ^ 61 := by rw [uu_and, uuP]; exact and_m _ 61 rfl
  have l1 : uu (cx_lus lo (Int32.ofInt 61)) = uu lo / 2 ^ 61 := lus_l 61 rfl (by decide)
  generalize cx_lsl hi (Int32.ofInt 3) = H at *
  generalize cx_lus md (Int32.ofInt 29) = M1 at *
  generalize cx_lsl (md &&& Int64.ofInt 536870911) (Int32.ofInt 32) = M0 at *
  generalize lo &&& Int64.ofInt 2305843009213693951 = L0 at *
  generalize cx_lus lo (Int32.ofInt 61) = L1 at *
  have s1 : uu (H + M1) = uu H + uu M1 := uu_add' (by omega)
  have s2 : uu (H + M1 + M0) = uu H + uu M1 + uu M0 := by rw [uu_add' (by omega), s1]
  have s3 : uu (H + M1 + M0 + L0) = uu H + uu M1 + uu M0 + uu L0 := by rw [uu_add' (by omega), s2]
  have s4 : uu (H + M1 + M0 + L0 + L1) = uu H + uu M1 + uu M0 + uu L0 + uu L1 := by rw [uu_add' (by omega), s3]
  have k : uu (H + M1 + M0 + L0 + L1) % 2305843009213693951 = (18446744073709551616 * uu hi + 4294967296 * uu md + uu lo) % 2305843009213693951 := by omega
  have kb : uu (H + M1 + M0 + L0 + L1) < 9223372036854775808 := by omega
  rw [← k]
  clear k s1 s2 s3 s4 q1 m1 m0 l0 l1 em e00 e11
  generalize H + M1 + M0 + L0 + L1 = sm at *
  have t0 : uu (sm &&& Int64.ofInt 2305843009213693951) = uu sm % 2 ^ 61 := by rw [uu_and, uuP]; exact and_m _ 61 rfl
  have t1 : uu (cx_lus sm (Int32.ofInt 61)) = uu sm / 2 ^ 61 := lus_l 61 rfl (by decide)
  rw [uu_add' (by omega), t0, t1]
  constructor <;> omega
theorem g_times_v {a b : Int64} (ha : uu a < 2305843009213693952) (hb : uu b < 2305843009213693952) : uu (g_times a b) = uu a * uu b % 2305843009213693951 := by
  obtain ⟨h1, h2⟩ := g_fold_v ha hb
  unfold g_times
  have hi : (g_fold a b).toInt = uu (g_fold a b) := uu_i (by omega)
  split
  · omega
  · rw [uu_sub, uuP]; omega
/-- the powers -/
theorem f_pw_v {b e : Int64} (hb : uu b < 2305843009213693952) : ∀ (n : Nat) (r : Int64), n ≤ 61 → uu r < 2305843009213693951 → uu (f_pw b e n r) = uu r ^ 2 ^ n * uu b ^ (uu e % 2 ^ n) % 2305843009213693951 := by
  intro n
  induction n with
  | zero => intro r _ hr; rw [f_pw, Nat.pow_zero, Nat.pow_one, Nat.mod_one, Nat.pow_zero, Nat.mul_one, Nat.mod_eq_of_lt hr]
  | succ n ih =>
    intro r hn hr
    rw [f_pw]
    have hs : uu (f_times r r) = uu r * uu r % 2305843009213693951 := f_times_v (by omega) (by omega)
    have bit := bit_s (x := e) (k := n) (by omega)
    have ee : uu e % 2 ^ (n + 1) = uu e % 2 ^ n + 2 ^ n * (uu e / 2 ^ n % 2) := by rw [Nat.pow_succ]; exact Nat.mod_mul
    have sq : uu r ^ 2 ^ (n + 1) = (uu r * uu r) ^ 2 ^ n := by rw [Nat.pow_succ, Nat.mul_comm, Nat.pow_mul, Nat.pow_two]
    by_cases q : (cx_lsr e (Int32.ofInt n) &&& Int64.ofInt 1) = Int64.ofInt 1
    · rw [if_pos q]
      rw [q, uu1] at bit
      have ht : uu (f_times (f_times r r) b) = uu r * uu r % 2305843009213693951 * uu b % 2305843009213693951 := by rw [f_times_v (by omega) hb, hs]
      have eb : uu b ^ (uu e % 2 ^ (n + 1)) = uu b ^ (uu e % 2 ^ n) * uu b ^ 2 ^ n := by rw [ee, ← bit, Nat.mul_one]; exact Nat.pow_add _ _ _
      rw [ih _ (by omega) (by omega), ht, eb, sq]
      rw [Nat.mod_mul_mod, Nat.mul_mod, ← Nat.pow_mod, ← Nat.mul_mod]
      rw [Nat.mul_pow (uu r * uu r)]
      congr 1
      rw [Nat.mul_assoc, Nat.mul_comm (uu b ^ 2 ^ n)]
    · rw [if_neg q]
      have q' : uu e / 2 ^ n % 2 = 0 := by
        have : uu (cx_lsr e (Int32.ofInt n) &&& Int64.ofInt 1) ≠ 1 := fun w => q (uu_inj (by rw [w, uu1]))
        omega
      have eb : uu b ^ (uu e % 2 ^ (n + 1)) = uu b ^ (uu e % 2 ^ n) := by rw [ee, q', Nat.mul_zero]; rfl
      rw [ih _ (by omega) (by omega), hs, eb, sq]
      rw [Nat.mul_mod, ← Nat.pow_mod, ← Nat.mul_mod]
theorem f_pw_1 {b e : Int64} (hb : uu b < 2305843009213693952) {n : Nat} (hn : n ≤ 61) : uu (f_pw b e n (Int64.ofInt 1)) = uu b ^ (uu e % 2 ^ n) % 2305843009213693951 := by
  rw [f_pw_v hb n (Int64.ofInt 1) hn (by rw [uu1]; decide), uu1, Nat.one_pow, Nat.one_mul]
theorem f_power_v {b e : Int64} (hb : uu b < 2305843009213693952) : uu (f_power b e) = uu b ^ (uu e % 2 ^ 61) % 2305843009213693951 := f_pw_1 hb (Nat.le_refl _)
theorem bit_u {x : Int64} {k : Int} {n : Nat} (h : k = n) (hn : n < 63) : uu (cx_lus x (Int32.ofInt k) &&& Int64.ofInt 1) = uu x / 2 ^ n % 2 := by
  rw [uu_and, uu1, lus_l n h (by omega), Nat.and_one_is_mod]
theorem g_pw_v {e : Int64} : ∀ (n m : Nat) (k : Int) (r s : Int64), k = m → m + n = 61 → uu r < 2305843009213693951 → uu s < 2305843009213693951 → uu (g_pw e n k r s) = uu r * uu s ^ (uu e / 2 ^ m % 2 ^ n) % 2305843009213693951 := by
  intro n
  induction n with
  | zero => intro m k r s _ _ hr hs; rw [g_pw, Nat.pow_zero, Nat.mod_one, Nat.pow_zero, Nat.mul_one, Nat.mod_eq_of_lt hr]
  | succ n ih =>
    intro m k r s hk hn hr hs
    rw [g_pw]
    have h2 : uu (g_times s s) = uu s * uu s % 2305843009213693951 := g_times_v (by omega) (by omega)
    have bit := bit_u (x := e) (k := k) (n := m) hk (by omega)
    have ee : uu e / 2 ^ m % 2 ^ (n + 1) = uu e / 2 ^ m % 2 + 2 * (uu e / 2 ^ (m + 1) % 2 ^ n) := by
      rw [Nat.pow_succ, Nat.mul_comm, Nat.mod_mul, Nat.div_div_eq_div_mul, ← Nat.pow_succ]
    have step : uu s ^ (2 * (uu e / 2 ^ (m + 1) % 2 ^ n)) = (uu s * uu s) ^ (uu e / 2 ^ (m + 1) % 2 ^ n) := by rw [Nat.pow_mul, Nat.pow_two]
    by_cases q : (cx_lus e (Int32.ofInt k) &&& Int64.ofInt 1) = Int64.ofInt 1
    · rw [if_pos q]
      rw [q, uu1] at bit
      have h1 : uu (g_times r s) = uu r * uu s % 2305843009213693951 := g_times_v (by omega) (by omega)
      have eb : uu s ^ (uu e / 2 ^ m % 2 ^ (n + 1)) = uu s * (uu s * uu s) ^ (uu e / 2 ^ (m + 1) % 2 ^ n) := by rw [ee, ← bit, ← step]; exact (Nat.pow_add _ _ _).trans (by rw [Nat.pow_one])
      rw [ih (m + 1) (k + 1) _ _ (by omega) (by omega) (by omega) (by omega), h1, h2, eb]
      rw [Nat.mod_mul_mod, Nat.mul_mod, ← Nat.pow_mod, ← Nat.mul_mod, Nat.mul_assoc]
    · rw [if_neg q]
      have q' : uu e / 2 ^ m % 2 = 0 := by
        have : uu (cx_lus e (Int32.ofInt k) &&& Int64.ofInt 1) ≠ 1 := fun w => q (uu_inj (by rw [w, uu1]))
        omega
      have eb : uu s ^ (uu e / 2 ^ m % 2 ^ (n + 1)) = (uu s * uu s) ^ (uu e / 2 ^ (m + 1) % 2 ^ n) := by rw [ee, q', Nat.zero_add, step]
      rw [ih (m + 1) (k + 1) _ _ (by omega) (by omega) (by omega) (by omega), h2, eb]
      rw [Nat.mul_mod, ← Nat.pow_mod, ← Nat.mul_mod]
theorem g_open_f {b : Int64} (q : g_isOpen b ≠ 0) : 0 < uu b ∧ uu b < 2305843009213693951 := by
  unfold g_isOpen at q
  split at q
  · exact absurd rfl q
  · by_cases w : uu b < 9223372036854775808
    · have := uu_i w
      omega
    · have := uu_n w
      have := uu_lt b
      omega
/-- both powers are one -/
theorem g_power_f (b e : Int64) : g_power b e = f_common e b := by
  unfold g_power f_common
  by_cases q : g_isOpen b = 0
  · rw [if_pos q, if_pos (by unfold g_isOpen at q; split at q; assumption; cases q)]
  · obtain ⟨h1, h2⟩ := g_open_f q
    rw [if_neg q, if_neg (by unfold g_isOpen at q; split at q; exact absurd rfl q; assumption)]
    apply uu_inj
    have e1 := g_pw_v (e := e) 61 0 0 (Int64.ofInt 1) b rfl rfl (by rw [uu1]; decide) h2
    rw [e1, f_power_v (by omega), uu1, Nat.one_mul, Nat.pow_zero, Nat.div_one]
theorem f_power_lt {b e : Int64} (hb : uu b < 2305843009213693952) : uu (f_power b e) < 2305843009213693951 := by
  rw [f_power_v hb]; exact Nat.mod_lt _ (by decide)
theorem g_power_3 (e : Int64) : g_power (Int64.ofInt 3) e = f_power (Int64.ofInt 3) e := by
  rw [g_power_f]
  exact if_neg (by decide)
theorem f_power_3 (e : Int64) : 0 < uu (f_power (Int64.ofInt 3) e) ∧ uu (f_power (Int64.ofInt 3) e) < 2305843009213693951 := by
  refine ⟨?_, f_power_lt (by rw [uu3]; decide)⟩
  rw [f_power_v (by rw [uu3]; decide), uu3]
  have h1 : Nat.Coprime (3 ^ (uu e % 2 ^ 61)) 2305843009213693951 := Nat.Coprime.pow_left _ (by decide)
  generalize 3 ^ (uu e % 2 ^ 61) = w at h1
  refine Nat.pos_of_ne_zero (fun q => ?_)
  have := Nat.Coprime.gcd_eq_one h1
  rw [Nat.gcd_comm, Nat.gcd_rec, q] at this
  exact absurd this (by decide)
theorem f_common_p {b e : Int64} (h : 0 < uu b ∧ uu b < 2305843009213693951) : f_common e b = f_power b e := by
  unfold f_common
  have := uu_i (x := b) (by omega)
  rw [if_neg (by omega)]
theorem g_times_f {a b : Int64} (ha : uu a < 2305843009213693952) (hb : uu b < 2305843009213693952) : g_times a b = f_times a b := uu_inj (by rw [g_times_v ha hb, f_times_v ha hb])
theorem g_rest_v {a m : Int64} (h0 : 0 < uu m) (h1 : uu m < 2305843009213693952) : uu (g_rest a m) = uu a % uu m := by
  unfold g_rest
  have hm := uu_i (x := m) (by omega)
  rw [if_neg (by omega)]
  have t1 : uu (cx_lus a (Int32.ofInt 1)) = uu a / 2 ^ 1 := lus_l 1 rfl (by decide)
  have la := uu_lt a
  have t2 := uu_rm (x := cx_lus a (Int32.ofInt 1)) (y := m) (by omega) (by omega) h0
  have t3 := Nat.mod_lt (uu (cx_lus a (Int32.ofInt 1))) h0
  rw [t1] at t2 t3
  generalize cx_lrm (cx_lus a (Int32.ofInt 1)) m = R at *
  have t4 : uu (R * Int64.ofInt 2) = uu R * 2 := by rw [uu_mul' (by rw [uu2]; omega), uu2]
  have t5 : uu (a &&& Int64.ofInt 1) = uu a % 2 := by rw [uu_and, uu1, Nat.and_one_is_mod]
  have t6 : uu (R * Int64.ofInt 2 + (a &&& Int64.ofInt 1)) = uu R * 2 + uu a % 2 := by rw [uu_add' (by omega), t4, t5]
  rw [uu_rm (by omega) (by omega) h0, t6, t2]
  rw [Nat.add_mod, Nat.mul_mod, Nat.mod_mod, ← Nat.mul_mod, ← Nat.add_mod]
  congr 1
  omega
theorem f_modQ_v (a : Int64) : uu (f_modQ a) = uu a % 2305843009213693950 := by
  unfold f_modQ
  have t0 : uu (a &&& Int64.ofInt 2305843009213693951) = uu a % 2 ^ 61 := by rw [uu_and, uuP]; exact and_m _ 61 rfl
  have t1 : uu (cx_lus a (Int32.ofInt 61)) = uu a / 2 ^ 61 := lus_l 61 rfl (by decide)
  have la := uu_lt a
  have t2 : uu (Int64.ofInt 2 * cx_lus a (Int32.ofInt 61)) = 2 * (uu a / 2 ^ 61) := by rw [uu_mul' (by rw [uu2]; omega), uu2, t1]
  have t3 : uu ((a &&& Int64.ofInt 2305843009213693951) + Int64.ofInt 2 * cx_lus a (Int32.ofInt 61)) = uu a % 2 ^ 61 + 2 * (uu a / 2 ^ 61) := by rw [uu_add' (by omega), t0, t2]
  rw [uu_rm (by omega) (by rw [uuQ]; decide) (by rw [uuQ]; decide), t3, uuQ]
  omega
theorem f_asSecret_v (a : Int64) : uu (f_asSecret a) = uu a % 2305843009213693949 + 1 := by
  unfold f_asSecret
  have t0 : uu (a &&& Int64.ofInt 2305843009213693951) = uu a % 2 ^ 61 := by rw [uu_and, uuP]; exact and_m _ 61 rfl
  have t1 : uu (cx_lus a (Int32.ofInt 61)) = uu a / 2 ^ 61 := lus_l 61 rfl (by decide)
  have la := uu_lt a
  have t2 : uu (Int64.ofInt 3 * cx_lus a (Int32.ofInt 61)) = 3 * (uu a / 2 ^ 61) := by rw [uu_mul' (by rw [uu3]; omega), uu3, t1]
  have t3 : uu ((a &&& Int64.ofInt 2305843009213693951) + Int64.ofInt 3 * cx_lus a (Int32.ofInt 61)) = uu a % 2 ^ 61 + 3 * (uu a / 2 ^ 61) := by rw [uu_add' (by omega), t0, t2]
  have t4 := uu_rm (x := (a &&& Int64.ofInt 2305843009213693951) + Int64.ofInt 3 * cx_lus a (Int32.ofInt 61)) (y := Int64.ofInt 2305843009213693949) (by omega) (by rw [uuR]; decide) (by rw [uuR]; decide)
  rw [uuR] at t4
  rw [uu_add' (by rw [uu1]; omega), t4, t3, uu1]
  omega
theorem g_secretOf_f (a : Int64) : g_secretOf a = f_asSecret a := by
  apply uu_inj
  have t := g_rest_v (a := a) (m := Int64.ofInt 2305843009213693949) (by rw [uuR]; decide) (by rw [uuR]; decide)
  rw [uuR] at t
  unfold g_secretOf
  rw [uu_add' (by rw [uu1]; omega), f_asSecret_v, t, uu1]
theorem g_sealSum_f (a b : Int64) : g_sealSum a b = f_modQ (f_mix (f_mix (Int64.ofInt 0) a) b) := by
  apply uu_inj
  unfold g_sealSum
  rw [g_rest_v (by rw [uuQ]; decide) (by rw [uuQ]; decide), f_modQ_v, uuQ]
/-- products modulo Q -/
theorem f_timesQ_v {a b : Int64} (ha : uu a < 2305843009213693952) (hb : uu b < 2305843009213693952) : uu (f_timesQ a b) = uu a * uu b % 2305843009213693950 := by
  unfold f_timesQ
  dsimp only
  have A1 : uu (cx_lsr a (Int32.ofInt 31)) = uu a / 2 ^ 31 := lsr_l 31 rfl (by decide) (by omega)
  have B1 : uu (cx_lsr b (Int32.ofInt 31)) = uu b / 2 ^ 31 := lsr_l 31 rfl (by decide) (by omega)
  have A0 : uu (a &&& Int64.ofInt 2147483647) = uu a % 2 ^ 31 := by rw [uu_and, uu31]; exact and_m _ 31 rfl
  have B0 : uu (b &&& Int64.ofInt 2147483647) = uu b % 2 ^ 31 := by rw [uu_and, uu31]; exact and_m _ 31 rfl
  have sa := sp (uu a) 31
  have sb := sp (uu b) 31
  have la1 : uu a / 2 ^ 31 ≤ 1073741823 := by omega
  have lb1 : uu b / 2 ^ 31 ≤ 1073741823 := by omega
  have la0 : uu a % 2 ^ 31 ≤ 2147483647 := by omega
  have lb0 : uu b % 2 ^ 31 ≤ 2147483647 := by omega
  generalize cx_lsr a (Int32.ofInt 31) = a1 at *
  generalize cx_lsr b (Int32.ofInt 31) = b1 at *
  generalize a &&& Int64.ofInt 2147483647 = a0 at *
  generalize b &&& Int64.ofInt 2147483647 = b0 at *
  rw [← A1] at sa la1
  rw [← B1] at sb lb1
  rw [← A0] at sa la0
  rw [← B0] at sb lb0
  clear A1 B1 A0 B0
  have e11 := mul_b la1 lb1
  have e10 := mul_b la1 lb0
  have e01 := mul_b la0 lb1
  have e00 := mul_b la0 lb0
  have p11 : uu (a1 * b1) = uu a1 * uu b1 := uu_mul' (by omega)
  have p10 : uu (a1 * b0) = uu a1 * uu b0 := uu_mul' (by omega)
  have p01 : uu (a0 * b1) = uu a0 * uu b1 := uu_mul' (by omega)
  have p00 : uu (a0 * b0) = uu a0 * uu b0 := uu_mul' (by omega)
  have pm : uu (a1 * b0 + a0 * b1) = uu a1 * uu b0 + uu a0 * uu b1 := by rw [uu_add' (by omega), p10, p01]
  have key : uu a * uu b = 4611686018427387904 * (uu a1 * uu b1) + 2147483648 * (uu a1 * uu b0 + uu a0 * uu b1) + uu a0 * uu b0 := by
    rw [sa, sb]
    generalize uu a1 = A1
    generalize uu a0 = A0
    generalize uu b1 = B1
    generalize uu b0 = B0
    show (A1 * 2147483648 + A0) * (B1 * 2147483648 + B0) = _
    rw [Nat.add_mul, Nat.mul_add, Nat.mul_add, Nat.mul_add]
    have t1 : A1 * 2147483648 * (B1 * 2147483648) = 4611686018427387904 * (A1 * B1) := by rw [Nat.mul_mul_mul_comm, Nat.mul_comm]
    have t2 : A1 * 2147483648 * B0 = 2147483648 * (A1 * B0) := by rw [Nat.mul_comm A1, Nat.mul_assoc]
    have t3 : A0 * (B1 * 2147483648) = 2147483648 * (A0 * B1) := by rw [← Nat.mul_assoc, Nat.mul_comm]
    rw [t1, t2, t3]; omega
  rw [key]
  clear key sa sb
  rw [← p11, ← pm, ← p00]
  rw [← p11] at e11
  rw [← p00] at e00
  have em : uu (a1 * b0 + a0 * b1) ≤ 4611686014132420608 := by omega
  generalize a1 * b0 + a0 * b1 = md at *
  generalize a1 * b1 = hi at *
  generalize a0 * b0 = lo at *
  clear p11 p10 p01 p00 pm e10 e01
  have qP : uu (Int64.ofInt 2305843009213693950) < 9223372036854775808 := by rw [uuQ]; decide
  have q0 : 0 < uu (Int64.ofInt 2305843009213693950) := by rw [uuQ]; decide
  have h1 := uu_rm (x := hi) (y := Int64.ofInt 2305843009213693950) (by omega) qP q0
  have l1 := uu_rm (x := lo) (y := Int64.ofInt 2305843009213693950) (by omega) qP q0
  have m1 : uu (cx_lsr md (Int32.ofInt 30)) = uu md / 2 ^ 30 := lsr_l 30 rfl (by decide) (by omega)
  have m0 : uu (cx_lsl (md &&& Int64.ofInt 1073741823) (Int32.ofInt 31)) = uu md % 2 ^ 30 * 2147483648 := by
    rw [lsl_l (k := 31) 31 rfl (by decide), uu_and, uu30, and_m _ 30 rfl]
    omega
  have m2 := uu_rm (x := cx_lsl (md &&& Int64.ofInt 1073741823) (Int32.ofInt 31)) (y := Int64.ofInt 2305843009213693950) (by omega) qP q0
  rw [uuQ] at h1 l1 m2
  generalize cx_lrm hi (Int64.ofInt 2305843009213693950) = H1 at *
  generalize cx_lrm lo (Int64.ofInt 2305843009213693950) = L1 at *
  generalize cx_lsr md (Int32.ofInt 30) = M1 at *
  generalize cx_lrm (cx_lsl (md &&& Int64.ofInt 1073741823) (Int32.ofInt 31)) (Int64.ofInt 2305843009213693950) = M2 at *
  generalize cx_lsl (md &&& Int64.ofInt 1073741823) (Int32.ofInt 31) = M0 at *
  have q1 : uu (Int64.ofInt 4 * H1) = 4 * uu H1 := by rw [uu_mul' (by rw [uu4]; omega), uu4]
  have r1 := uu_rm (x := Int64.ofInt 4 * H1) (y := Int64.ofInt 2305843009213693950) (by omega) qP q0
  rw [uuQ] at r1
  generalize cx_lrm (Int64.ofInt 4 * H1) (Int64.ofInt 2305843009213693950) = R1 at *
  have q2 : uu (Int64.ofInt 2 * M1) = 2 * uu M1 := by rw [uu_mul' (by rw [uu2]; omega), uu2]
  generalize Int64.ofInt 2 * M1 = N1 at *
  have s2 : uu (R1 + N1) = uu R1 + uu N1 := uu_add' (by omega)
  have r2 := uu_rm (x := R1 + N1) (y := Int64.ofInt 2305843009213693950) (by omega) qP q0
  rw [uuQ] at r2
  generalize cx_lrm (R1 + N1) (Int64.ofInt 2305843009213693950) = R2 at *
  have s3 : uu (R2 + M2) = uu R2 + uu M2 := uu_add' (by omega)
  have r3 := uu_rm (x := R2 + M2) (y := Int64.ofInt 2305843009213693950) (by omega) qP q0
  rw [uuQ] at r3
  generalize cx_lrm (R2 + M2) (Int64.ofInt 2305843009213693950) = R3 at *
  have s4 : uu (R3 + L1) = uu R3 + uu L1 := uu_add' (by omega)
  have r4 := uu_rm (x := R3 + L1) (y := Int64.ofInt 2305843009213693950) (by omega) qP q0
  rw [uuQ] at r4
  rw [r4]
  omega
theorem g_tq_v {e : Int64} : ∀ (n m : Nat) (k : Int) (r s : Int64), k = m → m + n = 61 → uu r < 2305843009213693950 → uu s < 2305843009213693950 → uu (g_it (g_tqF e) n k (r, s)).1 = (uu r + uu s * (uu e / 2 ^ m % 2 ^ n)) % 2305843009213693950 := by
  have qP : uu (Int64.ofInt 2305843009213693950) < 9223372036854775808 := by rw [uuQ]; decide
  have q0 : 0 < uu (Int64.ofInt 2305843009213693950) := by rw [uuQ]; decide
  intro n
  induction n with
  | zero => intro m k r s _ _ hr hs; rw [g_it_0, Nat.pow_zero, Nat.mod_one, Nat.mul_zero, Nat.add_zero, Nat.mod_eq_of_lt hr]
  | succ n ih =>
    intro m k r s hk hn hr hs
    rw [g_it_s]
    have h2 : uu (g_tqS s) = uu s * 2 % 2305843009213693950 := by
      unfold g_tqS
      have t : uu (s * Int64.ofInt 2) = uu s * 2 := by rw [uu_mul' (by rw [uu2]; omega), uu2]
      rw [uu_rm (by omega) qP q0, t, uuQ]
    have h1 : uu (g_tqA r s) = (uu r + uu s) % 2305843009213693950 := by
      unfold g_tqA
      have t : uu (r + s) = uu r + uu s := uu_add' (by omega)
      rw [uu_rm (by omega) qP q0, t, uuQ]
    have bit := bit_u (x := e) (k := k) (n := m) hk (by omega)
    have ee : uu e / 2 ^ m % 2 ^ (n + 1) = uu e / 2 ^ m % 2 + 2 * (uu e / 2 ^ (m + 1) % 2 ^ n) := by
      rw [Nat.pow_succ, Nat.mul_comm, Nat.mod_mul, Nat.div_div_eq_div_mul, ← Nat.pow_succ]
    have md : ∀ a b w : Nat, (a % 2305843009213693950 + b % 2305843009213693950 * w) % 2305843009213693950 = (a + b * w) % 2305843009213693950 := by
      intro a b w
      rw [Nat.add_mod, Nat.mod_mod, Nat.mul_mod, Nat.mod_mod, ← Nat.mul_mod, ← Nat.add_mod]
    by_cases q : (cx_lus e (Int32.ofInt k) &&& Int64.ofInt 1) = Int64.ofInt 1
    · have i1 := ih (m + 1) (k + 1) (g_tqA r s) (g_tqS s) (by omega) (by omega) (by omega) (by omega)
      have e1 : g_tqF e k (r, s) = (g_tqA r s, g_tqS s) := by unfold g_tqF; rw [if_pos q]
      rw [e1, i1, ee, h1, h2, md]
      rw [q, uu1] at bit
      rw [← bit, Nat.mul_add, Nat.mul_one, Nat.mul_assoc, Nat.add_assoc]
    · have i1 := ih (m + 1) (k + 1) r (g_tqS s) (by omega) (by omega) (by omega) (by omega)
      have e1 : g_tqF e k (r, s) = (r, g_tqS s) := by unfold g_tqF; rw [if_neg q]
      have q' : uu e / 2 ^ m % 2 = 0 := by
        have : uu (cx_lus e (Int32.ofInt k) &&& Int64.ofInt 1) ≠ 1 := fun w => q (uu_inj (by rw [w, uu1]))
        omega
      have md' := md (uu r) (uu s * 2) (uu e / 2 ^ (m + 1) % 2 ^ n)
      rw [Nat.mod_eq_of_lt hr] at md'
      rw [e1, i1, ee, h2, md', q', Nat.zero_add, Nat.mul_assoc]
theorem g_timesQ_f {a b : Int64} (ha : uu a < 2305843009213693950) (hb : uu b < 2305843009213693952) : g_timesQ a b = f_timesQ a b := by
  apply uu_inj
  have := g_tq_v (e := b) 61 0 0 (Int64.ofInt 0) a rfl rfl (by rw [uu0]; decide) ha
  unfold g_timesQ
  rw [this, f_timesQ_v (by omega) hb, uu0, Nat.zero_add, Nat.pow_zero, Nat.div_one]
  rw [Nat.mod_eq_of_lt hb]
theorem f_modQ_lt (a : Int64) : uu (f_modQ a) < 2305843009213693950 := by rw [f_modQ_v]; exact Nat.mod_lt _ (by decide)
theorem f_asSecret_lt (a : Int64) : uu (f_asSecret a) < 2305843009213693950 := by rw [f_asSecret_v]; have := Nat.mod_lt (uu a) (show 0 < 2305843009213693949 by decide); omega
/-- what the reference tests of a SEAL -/
def f_sealRight (a b c d : Int64) : Prop := f_power (Int64.ofInt 3) b = f_times a (f_power d (f_modQ (f_mix (f_mix (Int64.ofInt 0) a) c)))
theorem g_seal_f {a b c d : Int64} (ha : uu a < 2305843009213693951) (hd : 0 < uu d ∧ uu d < 2305843009213693951) : g_power (Int64.ofInt 3) b = g_times a (g_power d (g_sealSum a c)) ↔ f_sealRight a b c d := by
  unfold f_sealRight
  rw [g_power_3, g_power_f, f_common_p hd, g_sealSum_f]
  have := f_power_lt (b := d) (e := f_modQ (f_mix (f_mix (Int64.ofInt 0) a) c)) (by omega)
  rw [g_times_f (by omega) (by omega)]
