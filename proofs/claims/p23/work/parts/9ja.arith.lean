/-! the class and the reference reckon alike -/
/-- a long without its sign -/
def uu (x : Int64) : Nat := x.toBitVec.toNat
theorem uu_lt (x : Int64) : uu x < 18446744073709551616 := x.toBitVec.isLt
theorem uu_inj {x y : Int64} (q : uu x = uu y) : x = y := by
  apply Int64.toBitVec_inj.mp
  exact BitVec.eq_of_toNat_eq q
theorem uu_add (x y : Int64) : uu (x + y) = (uu x + uu y) % 18446744073709551616 := by
  unfold uu
  rw [Int64.toBitVec_add, BitVec.toNat_add]
theorem uu_mul (x y : Int64) : uu (x * y) = (uu x * uu y) % 18446744073709551616 := by
  unfold uu
  rw [Int64.toBitVec_mul, BitVec.toNat_mul]
theorem uu_sub (x y : Int64) : uu (x - y) = (18446744073709551616 - uu y + uu x) % 18446744073709551616 := by
  unfold uu
  rw [Int64.toBitVec_sub, BitVec.toNat_sub]
theorem uu_and (x y : Int64) : uu (x &&& y) = uu x &&& uu y := by
  unfold uu
  rw [Int64.toBitVec_and, BitVec.toNat_and]
theorem uu_of {n : Nat} (h : n < 18446744073709551616) : uu (Int64.ofInt (n : Int)) = n := by
  unfold uu
  rw [Int64.toBitVec_ofInt, BitVec.toNat_ofInt]
  omega
theorem uu_i {x : Int64} (h : uu x < 9223372036854775808) : x.toInt = uu x := by
  unfold uu at h ⊢
  rw [← Int64.toInt_toBitVec, BitVec.toInt_eq_toNat_cond]
  rw [if_pos (by omega)]
theorem uu_n {x : Int64} (h : ¬ uu x < 9223372036854775808) : x.toInt = (uu x : Int) - 18446744073709551616 := by
  unfold uu at h ⊢
  rw [← Int64.toInt_toBitVec, BitVec.toInt_eq_toNat_cond]
  rw [if_neg (by omega)]
  rfl
theorem sh_u : ∀ k : Fin 64, ((Int32.ofInt (k.1 : Int)).toInt64.toUInt64 &&& Int64.toUInt64 63) = UInt64.ofNat k.1 := by decide
theorem sh_s : ∀ k : Fin 64, (((Int32.ofInt (k.1 : Int)).toInt64 &&& 63).toBitVec.smod 64).toNat = k.1 := by decide
theorem uu_lus {x : Int64} {k : Nat} (h : k < 64) : uu (cx_lus x (Int32.ofInt (k : Int))) = uu x / 2 ^ k := by
  unfold cx_lus uu
  rw [sh_u ⟨k, h⟩]
  show (x.toUInt64 >>> UInt64.ofNat k).toBitVec.toNat = _
  rw [UInt64.toBitVec_shiftRight, BitVec.ushiftRight_eq', BitVec.toNat_ushiftRight, Nat.shiftRight_eq_div_pow]
  have : ((UInt64.ofNat k).toBitVec % 64).toNat = k := by
    rw [BitVec.toNat_umod]
    show (UInt64.ofNat k).toNat % 64 = k
    have : (UInt64.ofNat k).toNat = k % 2 ^ 64 := UInt64.toNat_ofNat'
    rw [this]
    omega
  rw [this]
  rfl
theorem uu_lsl {x : Int64} {k : Nat} (h : k < 64) : uu (cx_lsl x (Int32.ofInt (k : Int))) = uu x * 2 ^ k % 18446744073709551616 := by
  unfold cx_lsl uu
  rw [Int64.toBitVec_shiftLeft, BitVec.shiftLeft_eq', sh_s ⟨k, h⟩, BitVec.toNat_shiftLeft, Nat.shiftLeft_eq]
theorem uu_lsr {x : Int64} {k : Nat} (h : k < 64) (hx : uu x < 9223372036854775808) : uu (cx_lsr x (Int32.ofInt (k : Int))) = uu x / 2 ^ k := by
  unfold cx_lsr
  unfold uu at hx ⊢
  rw [Int64.toBitVec_shiftRight, BitVec.sshiftRight_eq', sh_s ⟨k, h⟩]
  rw [BitVec.toNat_sshiftRight_of_msb_false]
  · rw [Nat.shiftRight_eq_div_pow]
  · rw [BitVec.msb_eq_false_iff_two_mul_lt]; omega
/-- the bit at k -/
theorem bit_s {x : Int64} {k : Nat} (h : k < 63) : uu (cx_lsr x (Int32.ofInt (k : Int)) &&& Int64.ofInt 1) = uu x / 2 ^ k % 2 := by
  unfold cx_lsr uu
  rw [Int64.toBitVec_and, Int64.toBitVec_shiftRight, BitVec.sshiftRight_eq', sh_s ⟨k, by omega⟩]
  show (x.toBitVec.sshiftRight k &&& 1#64).toNat = _
  rw [BitVec.toNat_and]
  show (x.toBitVec.sshiftRight k).toNat &&& 1 = _
  rw [Nat.and_one_is_mod]
  have t1 : (x.toBitVec.sshiftRight k).toNat.testBit 0 = x.toBitVec.toNat.testBit k := by
    rw [BitVec.testBit_toNat, BitVec.testBit_toNat, BitVec.getLsbD_sshiftRight]
    rw [Nat.add_zero, if_pos (by omega)]
    simp
  rw [Nat.testBit_eq_decide_div_mod_eq, Nat.testBit_eq_decide_div_mod_eq] at t1
  rw [Nat.pow_zero, Nat.div_one] at t1
  have t2 := decide_eq_decide.mp t1
  omega
theorem uu_rm {x y : Int64} (hx : uu x < 9223372036854775808) (hy : uu y < 9223372036854775808) (h0 : 0 < uu y) : uu (cx_lrm x y) = uu x % uu y := by
  have e : uu (x / y) = uu x / uu y := by
    unfold uu at hx hy h0 ⊢
    rw [Int64.toBitVec_div, BitVec.sdiv_eq]
    rw [BitVec.msb_eq_false_iff_two_mul_lt.mpr (by omega), BitVec.msb_eq_false_iff_two_mul_lt.mpr (by omega)]
    show (x.toBitVec / y.toBitVec).toNat = _
    rw [BitVec.toNat_udiv]
  unfold cx_lrm
  have h1 := Nat.div_add_mod (uu x) (uu y)
  have h2 := Nat.mod_lt (uu x) h0
  rw [uu_sub, uu_mul, e]
  rw [Nat.mul_comm] at h1
  generalize uu x / uu y * uu y = w at h1
  omega
theorem and_m (x k : Nat) {m : Nat} (h : m = 2 ^ k - 1) : x &&& m = x % 2 ^ k := by rw [h]; exact Nat.and_two_pow_sub_one_eq_mod x k
theorem uuP : uu (Int64.ofInt 2305843009213693951) = 2305843009213693951 := by decide
theorem uuQ : uu (Int64.ofInt 2305843009213693950) = 2305843009213693950 := by decide
theorem uuR : uu (Int64.ofInt 2305843009213693949) = 2305843009213693949 := by decide
theorem uu31 : uu (Int64.ofInt 2147483647) = 2147483647 := by decide
theorem uu30 : uu (Int64.ofInt 1073741823) = 1073741823 := by decide
theorem uu32 : uu (Int64.ofInt 4294967295) = 4294967295 := by decide
theorem uu29 : uu (Int64.ofInt 536870911) = 536870911 := by decide
theorem uu0 : uu (Int64.ofInt 0) = 0 := by decide
theorem uu1 : uu (Int64.ofInt 1) = 1 := by decide
theorem uu2 : uu (Int64.ofInt 2) = 2 := by decide
theorem uu3 : uu (Int64.ofInt 3) = 3 := by decide
theorem uu4 : uu (Int64.ofInt 4) = 4 := by decide
theorem lsr_l {x : Int64} {k : Int} (n : Nat) (e : k = n) (h : n < 64) (hx : uu x < 9223372036854775808) : uu (cx_lsr x (Int32.ofInt k)) = uu x / 2 ^ n := by rw [e]; exact uu_lsr h hx
theorem lus_l {x : Int64} {k : Int} (n : Nat) (e : k = n) (h : n < 64) : uu (cx_lus x (Int32.ofInt k)) = uu x / 2 ^ n := by rw [e]; exact uu_lus h
theorem lsl_l {x : Int64} {k : Int} (n : Nat) (e : k = n) (h : n < 64) : uu (cx_lsl x (Int32.ofInt k)) = uu x * 2 ^ n % 18446744073709551616 := by rw [e]; exact uu_lsl h
/-- products of bounded numbers are bounded -/
theorem mul_b {a b A B : Nat} (ha : a ≤ A) (hb : b ≤ B) : a * b ≤ A * B := Nat.mul_le_mul ha hb
theorem sp (a k : Nat) : a = a / 2 ^ k * 2 ^ k + a % 2 ^ k := by have := Nat.div_add_mod a (2 ^ k); rw [Nat.mul_comm] at this; exact this.symm
theorem uu_add' {x y : Int64} (h : uu x + uu y < 18446744073709551616) : uu (x + y) = uu x + uu y := by rw [uu_add, Nat.mod_eq_of_lt h]
theorem uu_mul' {x y : Int64} (h : uu x * uu y < 18446744073709551616) : uu (x * y) = uu x * uu y := by rw [uu_mul, Nat.mod_eq_of_lt h]
theorem f_times_v {a b : Int64} (ha : uu a < 2305843009213693952) (hb : uu b < 2305843009213693952) : uu (f_times a b) = uu a * uu b % 2305843009213693951 := by
  unfold f_times
  dsimp only
  have A1 : uu (cx_lsr a (Int32.ofInt 31)) = uu a / 2 ^ 31 := lsr_l 31 rfl (by decide) (by omega)
  have B1 : uu (cx_lsr b (Int32.ofInt 31)) = uu b / 2 ^ 31 := lsr_l 31 rfl (by decide) (by omega)
  have A0 : uu (a &&& Int64.ofInt 2147483647) = uu a % 2 ^ 31 := by rw [uu_and, uu31]; exact and_m _ 31 rfl
  have B0 : uu (b &&& Int64.ofInt 2147483647) = uu b % 2 ^ 31 := by rw [uu_and, uu31]; exact and_m _ 31 rfl
  have sa := sp (uu a) 31
  have sb := sp (uu b) 31
  have la1 : uu a / 2 ^ 31 ≤ 1073741823 := by omega
  have lb1 : uu b / 2 ^ 31 ≤ 1073741823 := by omega
  have la0 : uu a % 2 ^ 31 ≤ 2147483647 := by omega
  have lb0 : uu b % 2 ^ 31 ≤ 2147483647 := by omega
  generalize cx_lsr a (Int32.ofInt 31) = a1 at *
  generalize cx_lsr b (Int32.ofInt 31) = b1 at *
  generalize a &&& Int64.ofInt 2147483647 = a0 at *
  generalize b &&& Int64.ofInt 2147483647 = b0 at *
  rw [← A1] at sa la1
  rw [← B1] at sb lb1
  rw [← A0] at sa la0
  rw [← B0] at sb lb0
  clear A1 B1 A0 B0
  have e11 := mul_b la1 lb1
  have e10 := mul_b la1 lb0
  have e01 := mul_b la0 lb1
  have e00 := mul_b la0 lb0
  have p11 : uu (a1 * b1) = uu a1 * uu b1 := uu_mul' (by omega)
  have p10 : uu (a1 * b0) = uu a1 * uu b0 := uu_mul' (by omega)
  have p01 : uu (a0 * b1) = uu a0 * uu b1 := uu_mul' (by omega)
  have p00 : uu (a0 * b0) = uu a0 * uu b0 := uu_mul' (by omega)
  have pm : uu (a1 * b0 + a0 * b1) = uu a1 * uu b0 + uu a0 * uu b1 := by rw [uu_add' (by omega), p10, p01]
  have key : uu a * uu b = 4611686018427387904 * (uu a1 * uu b1) + 2147483648 * (uu a1 * uu b0 + uu a0 * uu b1) + uu a0 * uu b0 := by
    rw [sa, sb]
    generalize uu a1 = A1
    generalize uu a0 = A0
    generalize uu b1 = B1
    generalize uu b0 = B0
    show (A1 * 2147483648 + A0) * (B1 * 2147483648 + B0) = _
    rw [Nat.add_mul, Nat.mul_add, Nat.mul_add, Nat.mul_add]
    have t1 : A1 * 2147483648 * (B1 * 2147483648) = 4611686018427387904 * (A1 * B1) := by rw [Nat.mul_mul_mul_comm, Nat.mul_comm]
    have t2 : A1 * 2147483648 * B0 = 2147483648 * (A1 * B0) := by rw [Nat.mul_comm A1, Nat.mul_assoc]
    have t3 : A0 * (B1 * 2147483648) = 2147483648 * (A0 * B1) := by rw [← Nat.mul_assoc, Nat.mul_comm]
    rw [t1, t2, t3]; omega
  rw [key]
  clear key sa sb
  rw [← p11, ← pm, ← p00]
  rw [← p11] at e11
  rw [← p00] at e00
  have em : uu (a1 * b0 + a0 * b1) ≤ 4611686014132420608 := by omega
  generalize a1 * b0 + a0 * b1 = md at *
  generalize a1 * b1 = hi at *
  generalize a0 * b0 = lo at *
  clear p11 p10 p01 p00 pm e10 e01
  have q1 : uu (Int64.ofInt 2 * hi) = 2 * uu hi := by rw [uu_mul' (by rw [uu2]; omega), uu2]
  have r1 := uu_rm (x := Int64.ofInt 2 * hi) (y := Int64.ofInt 2305843009213693951) (by omega) (by rw [uuP]; decide) (by rw [uuP]; decide)
  have l1 := uu_rm (x := lo) (y := Int64.ofInt 2305843009213693951) (by omega) (by rw [uuP]; decide) (by rw [uuP]; decide)
  have m1 : uu (cx_lsr md (Int32.ofInt 30)) = uu md / 2 ^ 30 := lsr_l 30 rfl (by decide) (by omega)
  have m0 : uu (cx_lsl (md &&& Int64.ofInt 1073741823) (Int32.ofInt 31)) = uu md % 2 ^ 30 * 2147483648 := by
    rw [lsl_l (k := 31) 31 rfl (by decide), uu_and, uu30, and_m _ 30 rfl]
    omega
  rw [uuP] at r1 l1
  generalize cx_lrm (Int64.ofInt 2 * hi) (Int64.ofInt 2305843009213693951) = R1 at *
  generalize cx_lrm lo (Int64.ofInt 2305843009213693951) = L1 at *
  generalize cx_lsr md (Int32.ofInt 30) = M1 at *
  generalize cx_lsl (md &&& Int64.ofInt 1073741823) (Int32.ofInt 31) = M0 at *
  have s2 : uu (R1 + M1) = uu R1 + uu M1 := uu_add' (by omega)
  have r2 := uu_rm (x := R1 + M1) (y := Int64.ofInt 2305843009213693951) (by omega) (by rw [uuP]; decide) (by rw [uuP]; decide)
  rw [uuP] at r2
  generalize cx_lrm (R1 + M1) (Int64.ofInt 2305843009213693951) = R2 at *
  have s3 : uu (R2 + M0) = uu R2 + uu M0 := uu_add' (by omega)
  have r3 := uu_rm (x := R2 + M0) (y := Int64.ofInt 2305843009213693951) (by omega) (by rw [uuP]; decide) (by rw [uuP]; decide)
  rw [uuP] at r3
  generalize cx_lrm (R2 + M0) (Int64.ofInt 2305843009213693951) = R3 at *
  have s4 : uu (R3 + L1) = uu R3 + uu L1 := uu_add' (by omega)
  have r4 := uu_rm (x := R3 + L1) (y := Int64.ofInt 2305843009213693951) (by omega) (by rw [uuP]; decide) (by rw [uuP]; decide)
  rw [uuP] at r4
  rw [r4]
  omega
theorem g_fold_v {a b : Int64} (ha : uu a < 2305843009213693952) (hb : uu b < 2305843009213693952) : uu (g_fold a b) % 2305843009213693951 = uu a * uu b % 2305843009213693951 ∧ uu (g_fold a b) < 4611686018427387902 := by
  unfold g_fold
  dsimp only
  have A1 : uu (cx_lus a (Int32.ofInt 32)) = uu a / 2 ^ 32 := lus_l 32 rfl (by decide)
  have B1 : uu (cx_lus b (Int32.ofInt 32)) = uu b / 2 ^ 32 := lus_l 32 rfl (by decide)
  have A0 : uu (a &&& Int64.ofInt 4294967295) = uu a % 2 ^ 32 := by rw [uu_and, uu32]; exact and_m _ 32 rfl
  have B0 : uu (b &&& Int64.ofInt 4294967295) = uu b % 2 ^ 32 := by rw [uu_and, uu32]; exact and_m _ 32 rfl
  have sa := sp (uu a) 32
  have sb := sp (uu b) 32
  have la1 : uu a / 2 ^ 32 ≤ 536870911 := by omega
  have lb1 : uu b / 2 ^ 32 ≤ 536870911 := by omega
  have la0 : uu a % 2 ^ 32 ≤ 4294967295 := by omega
  have lb0 : uu b % 2 ^ 32 ≤ 4294967295 := by omega
  generalize cx_lus a (Int32.ofInt 32) = a1 at *
  generalize cx_lus b (Int32.ofInt 32) = b1 at *
  generalize a &&& Int64.ofInt 4294967295 = a0 at *
  generalize b &&& Int64.ofInt 4294967295 = b0 at *
  rw [← A1] at sa la1
  rw [← B1] at sb lb1
  rw [← A0] at sa la0
  rw [← B0] at sb lb0
  clear A1 B1 A0 B0
  have e11 := mul_b la1 lb1
  have e10 := mul_b la1 lb0
  have e01 := mul_b la0 lb1
  have e00 := mul_b la0 lb0
  have p11 : uu (a1 * b1) = uu a1 * uu b1 := uu_mul' (by omega)
  have p10 : uu (a1 * b0) = uu a1 * uu b0 := uu_mul' (by omega)
  have p01 : uu (a0 * b1) = uu a0 * uu b1 := uu_mul' (by omega)
  have p00 : uu (a0 * b0) = uu a0 * uu b0 := uu_mul' (by omega)
  have pm : uu (a1 * b0 + a0 * b1) = uu a1 * uu b0 + uu a0 * uu b1 := by rw [uu_add' (by omega), p10, p01]
  have key : uu a * uu b = 18446744073709551616 * (uu a1 * uu b1) + 4294967296 * (uu a1 * uu b0 + uu a0 * uu b1) + uu a0 * uu b0 := by
    rw [sa, sb]
    generalize uu a1 = A1
    generalize uu a0 = A0
    generalize uu b1 = B1
    generalize uu b0 = B0
    show (A1 * 4294967296 + A0) * (B1 * 4294967296 + B0) = _
    rw [Nat.add_mul, Nat.mul_add, Nat.mul_add, Nat.mul_add]
    have t1 : A1 * 4294967296 * (B1 * 4294967296) = 18446744073709551616 * (A1 * B1) := by rw [Nat.mul_mul_mul_comm, Nat.mul_comm]
    have t2 : A1 * 4294967296 * B0 = 4294967296 * (A1 * B0) := by rw [Nat.mul_comm A1, Nat.mul_assoc]
    have t3 : A0 * (B1 * 4294967296) = 4294967296 * (A0 * B1) := by rw [← Nat.mul_assoc, Nat.mul_comm]
    rw [t1, t2, t3]; omega
  rw [key]
  clear key sa sb
  rw [← p11, ← pm, ← p00]
  rw [← p11] at e11
  rw [← p00] at e00
  have em : uu (a1 * b0 + a0 * b1) ≤ 4611686009837453310 := by omega
  generalize a1 * b0 + a0 * b1 = md at *
  generalize a1 * b1 = hi at *
  generalize a0 * b0 = lo at *
  clear p11 p10 p01 p00 pm e10 e01
  have q1 : uu (cx_lsl hi (Int32.ofInt 3)) = 8 * uu hi := by rw [lsl_l (k := 3) 3 rfl (by decide)]; omega
  have m1 : uu (cx_lus md (Int32.ofInt 29)) = uu md / 2 ^ 29 := lus_l 29 rfl (by decide)
  have m0 : uu (cx_lsl (md &&& Int64.ofInt 536870911) (Int32.ofInt 32)) = uu md % 2 ^ 29 * 4294967296 := by
    rw [lsl_l (k := 32) 32 rfl (by decide), uu_and, uu29, and_m _ 29 rfl]
    omega
  have l0 : uu (lo &&& Int64.ofInt 2305843009213693951) = uu lo % 2 ^ 61 := by rw [uu_and, uuP]; exact and_m _ 61 rfl
  have l1 : uu (cx_lus lo (Int32.ofInt 61)) = uu lo / 2 ^ 61 := lus_l 61 rfl (by decide)
  generalize cx_lsl hi (Int32.ofInt 3) = H at *
  generalize cx_lus md (Int32.ofInt 29) = M1 at *
  generalize cx_lsl (md &&& Int64.ofInt 536870911) (Int32.ofInt 32) = M0 at *
  generalize lo &&& Int64.ofInt 2305843009213693951 = L0 at *
  generalize cx_lus lo (Int32.ofInt 61) = L1 at *
  have s1 : uu (H + M1) = uu H + uu M1 := uu_add' (by omega)
  have s2 : uu (H + M1 + M0) = uu H + uu M1 + uu M0 := by rw [uu_add' (by omega), s1]
  have s3 : uu (H + M1 + M0 + L0) = uu H + uu M1 + uu M0 + uu L0 := by rw [uu_add' (by omega), s2]
  have s4 : uu (H + M1 + M0 + L0 + L1) = uu H + uu M1 + uu M0 + uu L0 + uu L1 := by rw [uu_add' (by omega), s3]
  have k : uu (H + M1 + M0 + L0 + L1) % 2305843009213693951 = (18446744073709551616 * uu hi + 4294967296 * uu md + uu lo) % 2305843009213693951 := by omega
  have kb : uu (H + M1 + M0 + L0 + L1) < 9223372036854775808 := by omega
  rw [← k]
  clear k s1 s2 s3 s4 q1 m1 m0 l0 l1 em e00 e11
  generalize H + M1 + M0 + L0 + L1 = sm at *
  have t0 : uu (sm &&& Int64.ofInt 2305843009213693951) = uu sm % 2 ^ 61 := by rw [uu_and, uuP]; exact and_m _ 61 rfl
  have t1 : uu (cx_lus sm (Int32.ofInt 61)) = uu sm / 2 ^ 61 := lus_l 61 rfl (by decide)
  rw [uu_add' (by omega), t0, t1]
  constructor <;> omega
theorem g_times_v {a b : Int64} (ha : uu a < 2305843009213693952) (hb : uu b < 2305843009213693952) : uu (g_times a b) = uu a * uu b % 2305843009213693951 := by
  obtain ⟨h1, h2⟩ := g_fold_v ha hb
  unfold g_times
  have hi : (g_fold a b).toInt = uu (g_fold a b) := uu_i (by omega)
  split
  · omega
  · rw [uu_sub, uuP]; omega
/-- the powers -/
theorem f_pw_v {b e : Int64} (hb : uu b < 2305843009213693952) : ∀ (n : Nat) (r : Int64), n ≤ 61 → uu r < 2305843009213693951 → uu (f_pw b e n r) = uu r ^ 2 ^ n * uu b ^ (uu e % 2 ^ n) % 2305843009213693951 := by
  intro n
  induction n with
  | zero => intro r _ hr; rw [f_pw, Nat.pow_zero, Nat.pow_one, Nat.mod_one, Nat.pow_zero, Nat.mul_one, Nat.mod_eq_of_lt hr]
  | succ n ih =>
    intro r hn hr
    rw [f_pw]
    have hs : uu (f_times r r) = uu r * uu r % 2305843009213693951 := f_times_v (by omega) (by omega)
    have bit := bit_s (x := e) (k := n) (by omega)
    have ee : uu e % 2 ^ (n + 1) = uu e % 2 ^ n + 2 ^ n * (uu e / 2 ^ n % 2) := by rw [Nat.pow_succ]; exact Nat.mod_mul
    have sq : uu r ^ 2 ^ (n + 1) = (uu r * uu r) ^ 2 ^ n := by rw [Nat.pow_succ, Nat.mul_comm, Nat.pow_mul, Nat.pow_two]
    by_cases q : (cx_lsr e (Int32.ofInt n) &&& Int64.ofInt 1) = Int64.ofInt 1
    · rw [if_pos q]
      rw [q, uu1] at bit
      have ht : uu (f_times (f_times r r) b) = uu r * uu r % 2305843009213693951 * uu b % 2305843009213693951 := by rw [f_times_v (by omega) hb, hs]
      have eb : uu b ^ (uu e % 2 ^ (n + 1)) = uu b ^ (uu e % 2 ^ n) * uu b ^ 2 ^ n := by rw [ee, ← bit, Nat.mul_one]; exact Nat.pow_add _ _ _
      rw [ih _ (by omega) (by omega), ht, eb, sq]
      rw [Nat.mod_mul_mod, Nat.mul_mod, ← Nat.pow_mod, ← Nat.mul_mod]
      rw [Nat.mul_pow (uu r * uu r)]
      congr 1
      rw [Nat.mul_assoc, Nat.mul_comm (uu b ^ 2 ^ n)]
    · rw [if_neg q]
      have q' : uu e / 2 ^ n % 2 = 0 := by
        have : uu (cx_lsr e (Int32.ofInt n) &&& Int64.ofInt 1) ≠ 1 := fun w => q (uu_inj (by rw [w, uu1]))
        omega
      have eb : uu b ^ (uu e % 2 ^ (n + 1)) = uu b ^ (uu e % 2 ^ n) := by rw [ee, q', Nat.mul_zero]; rfl
      rw [ih _ (by omega) (by omega), hs, eb, sq]
      rw [Nat.mul_mod, ← Nat.pow_mod, ← Nat.mul_mod]
theorem f_pw_1 {b e : Int64} (hb : uu b < 2305843009213693952) {n : Nat} (hn : n ≤ 61) : uu (f_pw b e n (Int64.ofInt 1)) = uu b ^ (uu e % 2 ^ n) % 2305843009213693951 := by
  rw [f_pw_v hb n (Int64.ofInt 1) hn (by rw [uu1]; decide), uu1, Nat.one_pow, Nat.one_mul]
theorem f_power_v {b e : Int64} (hb : uu b < 2305843009213693952) : uu (f_power b e) = uu b ^ (uu e % 2 ^ 61) % 2305843009213693951 := f_pw_1 hb (Nat.le_refl _)
theorem bit_u {x : Int64} {k : Int} {n : Nat} (h : k = n) (hn : n < 63) : uu (cx_lus x (Int32.ofInt k) &&& Int64.ofInt 1) = uu x / 2 ^ n % 2 := by
  rw [uu_and, uu1, lus_l n h (by omega), Nat.and_one_is_mod]
theorem g_pw_v {e : Int64} : ∀ (n m : Nat) (k : Int) (r s : Int64), k = m → m + n = 61 → uu r < 2305843009213693951 → uu s < 2305843009213693951 → uu (g_pw e n k r s) = uu r * uu s ^ (uu e / 2 ^ m % 2 ^ n) % 2305843009213693951 := by
  intro n
  induction n with
  | zero => intro m k r s _ _ hr hs; rw [g_pw, Nat.pow_zero, Nat.mod_one, Nat.pow_zero, Nat.mul_one, Nat.mod_eq_of_lt hr]
  | succ n ih =>
    intro m k r s hk hn hr hs
    rw [g_pw]
    have h2 : uu (g_times s s) = uu s * uu s % 2305843009213693951 := g_times_v (by omega) (by omega)
    have bit := bit_u (x := e) (k := k) (n := m) hk (by omega)
    have ee : uu e / 2 ^ m % 2 ^ (n + 1) = uu e / 2 ^ m % 2 + 2 * (uu e / 2 ^ (m + 1) % 2 ^ n) := by
      rw [Nat.pow_succ, Nat.mul_comm, Nat.mod_mul, Nat.div_div_eq_div_mul, ← Nat.pow_succ]
    have step : uu s ^ (2 * (uu e / 2 ^ (m + 1) % 2 ^ n)) = (uu s * uu s) ^ (uu e / 2 ^ (m + 1) % 2 ^ n) := by rw [Nat.pow_mul, Nat.pow_two]
    by_cases q : (cx_lus e (Int32.ofInt k) &&& Int64.ofInt 1) = Int64.ofInt 1
    · rw [if_pos q]
      rw [q, uu1] at bit
      have h1 : uu (g_times r s) = uu r * uu s % 2305843009213693951 := g_times_v (by omega) (by omega)
      have eb : uu s ^ (uu e / 2 ^ m % 2 ^ (n + 1)) = uu s * (uu s * uu s) ^ (uu e / 2 ^ (m + 1) % 2 ^ n) := by rw [ee, ← bit, ← step]; exact (Nat.pow_add _ _ _).trans (by rw [Nat.pow_one])
      rw [ih (m + 1) (k + 1) _ _ (by omega) (by omega) (by omega) (by omega), h1, h2, eb]
      rw [Nat.mod_mul_mod, Nat.mul_mod, ← Nat.pow_mod, ← Nat.mul_mod, Nat.mul_assoc]
    · rw [if_neg q]
      have q' : uu e / 2 ^ m % 2 = 0 := by
        have : uu (cx_lus e (Int32.ofInt k) &&& Int64.ofInt 1) ≠ 1 := fun w => q (uu_inj (by rw [w, uu1]))
        omega
      have eb : uu s ^ (uu e / 2 ^ m % 2 ^ (n + 1)) = (uu s * uu s) ^ (uu e / 2 ^ (m + 1) % 2 ^ n) := by rw [ee, q', Nat.zero_add, step]
      rw [ih (m + 1) (k + 1) _ _ (by omega) (by omega) (by omega) (by omega), h2, eb]
      rw [Nat.mul_mod, ← Nat.pow_mod, ← Nat.mul_mod]
theorem g_open_f {b : Int64} (q : g_isOpen b ≠ 0) : 0 < uu b ∧ uu b < 2305843009213693951 := by
  unfold g_isOpen at q
  split at q
  · exact absurd rfl q
  · by_cases w : uu b < 9223372036854775808
    · have := uu_i w
      omega
    · have := uu_n w
      have := uu_lt b
      omega
/-- both powers are one -/
theorem g_power_f (b e : Int64) : g_power b e = f_common e b := by
  unfold g_power f_common
  by_cases q : g_isOpen b = 0
  · rw [if_pos q, if_pos (by unfold g_isOpen at q; split at q; assumption; cases q)]
  · obtain ⟨h1, h2⟩ := g_open_f q
    rw [if_neg q, if_neg (by unfold g_isOpen at q; split at q; exact absurd rfl q; assumption)]
    apply uu_inj
    have e1 := g_pw_v (e := e) 61 0 0 (Int64.ofInt 1) b rfl rfl (by rw [uu1]; decide) h2
    rw [e1, f_power_v (by omega), uu1, Nat.one_mul, Nat.pow_zero, Nat.div_one]
theorem f_power_lt {b e : Int64} (hb : uu b < 2305843009213693952) : uu (f_power b e) < 2305843009213693951 := by
  rw [f_power_v hb]; exact Nat.mod_lt _ (by decide)
theorem g_power_3 (e : Int64) : g_power (Int64.ofInt 3) e = f_power (Int64.ofInt 3) e := by
  rw [g_power_f]
  exact if_neg (by decide)
theorem f_power_3 (e : Int64) : 0 < uu (f_power (Int64.ofInt 3) e) ∧ uu (f_power (Int64.ofInt 3) e) < 2305843009213693951 := by
  refine ⟨?_, f_power_lt (by rw [uu3]; decide)⟩
  rw [f_power_v (by rw [uu3]; decide), uu3]
  have h1 : Nat.Coprime (3 ^ (uu e % 2 ^ 61)) 2305843009213693951 := Nat.Coprime.pow_left _ (by decide)
  generalize 3 ^ (uu e % 2 ^ 61) = w at h1
  refine Nat.pos_of_ne_zero (fun q => ?_)
  have := Nat.Coprime.gcd_eq_one h1
  rw [Nat.gcd_comm, Nat.gcd_rec, q] at this
  exact absurd this (by decide)
theorem f_common_p {b e : Int64} (h : 0 < uu b ∧ uu b < 2305843009213693951) : f_common e b = f_power b e := by
  unfold f_common
  have := uu_i (x := b) (by omega)
  rw [if_neg (by omega)]
theorem g_times_f {a b : Int64} (ha : uu a < 2305843009213693952) (hb : uu b < 2305843009213693952) : g_times a b = f_times a b := uu_inj (by rw [g_times_v ha hb, f_times_v ha hb])
theorem g_rest_v {a m : Int64} (h0 : 0 < uu m) (h1 : uu m < 2305843009213693952) : uu (g_rest a m) = uu a % uu m := by
  unfold g_rest
  have hm := uu_i (x := m) (by omega)
  rw [if_neg (by omega)]
  have t1 : uu (cx_lus a (Int32.ofInt 1)) = uu a / 2 ^ 1 := lus_l 1 rfl (by decide)
  have la := uu_lt a
  have t2 := uu_rm (x := cx_lus a (Int32.ofInt 1)) (y := m) (by omega) (by omega) h0
  have t3 := Nat.mod_lt (uu (cx_lus a (Int32.ofInt 1))) h0
  rw [t1] at t2 t3
  generalize cx_lrm (cx_lus a (Int32.ofInt 1)) m = R at *
  have t4 : uu (R * Int64.ofInt 2) = uu R * 2 := by rw [uu_mul' (by rw [uu2]; omega), uu2]
  have t5 : uu (a &&& Int64.ofInt 1) = uu a % 2 := by rw [uu_and, uu1, Nat.and_one_is_mod]
  have t6 : uu (R * Int64.ofInt 2 + (a &&& Int64.ofInt 1)) = uu R * 2 + uu a % 2 := by rw [uu_add' (by omega), t4, t5]
  rw [uu_rm (by omega) (by omega) h0, t6, t2]
  rw [Nat.add_mod, Nat.mul_mod, Nat.mod_mod, ← Nat.mul_mod, ← Nat.add_mod]
  congr 1
  omega
theorem f_modQ_v (a : Int64) : uu (f_modQ a) = uu a % 2305843009213693950 := by
  unfold f_modQ
  have t0 : uu (a &&& Int64.ofInt 2305843009213693951) = uu a % 2 ^ 61 := by rw [uu_and, uuP]; exact and_m _ 61 rfl
  have t1 : uu (cx_lus a (Int32.ofInt 61)) = uu a / 2 ^ 61 := lus_l 61 rfl (by decide)
  have la := uu_lt a
  have t2 : uu (Int64.ofInt 2 * cx_lus a (Int32.ofInt 61)) = 2 * (uu a / 2 ^ 61) := by rw [uu_mul' (by rw [uu2]; omega), uu2, t1]
  have t3 : uu ((a &&& Int64.ofInt 2305843009213693951) + Int64.ofInt 2 * cx_lus a (Int32.ofInt 61)) = uu a % 2 ^ 61 + 2 * (uu a / 2 ^ 61) := by rw [uu_add' (by omega), t0, t2]
  rw [uu_rm (by omega) (by rw [uuQ]; decide) (by rw [uuQ]; decide), t3, uuQ]
  omega
theorem f_asSecret_v (a : Int64) : uu (f_asSecret a) = uu a % 2305843009213693949 + 1 := by
  unfold f_asSecret
  have t0 : uu (a &&& Int64.ofInt 2305843009213693951) = uu a % 2 ^ 61 := by rw [uu_and, uuP]; exact and_m _ 61 rfl
  have t1 : uu (cx_lus a (Int32.ofInt 61)) = uu a / 2 ^ 61 := lus_l 61 rfl (by decide)
  have la := uu_lt a
  have t2 : uu (Int64.ofInt 3 * cx_lus a (Int32.ofInt 61)) = 3 * (uu a / 2 ^ 61) := by rw [uu_mul' (by rw [uu3]; omega), uu3, t1]
  have t3 : uu ((a &&& Int64.ofInt 2305843009213693951) + Int64.ofInt 3 * cx_lus a (Int32.ofInt 61)) = uu a % 2 ^ 61 + 3 * (uu a / 2 ^ 61) := by rw [uu_add' (by omega), t0, t2]
  have t4 := uu_rm (x := (a &&& Int64.ofInt 2305843009213693951) + Int64.ofInt 3 * cx_lus a (Int32.ofInt 61)) (y := Int64.ofInt 2305843009213693949) (by omega) (by rw [uuR]; decide) (by rw [uuR]; decide)
  rw [uuR] at t4
  rw [uu_add' (by rw [uu1]; omega), t4, t3, uu1]
  omega
theorem g_secretOf_f (a : Int64) : g_secretOf a = f_asSecret a := by
  apply uu_inj
  have t := g_rest_v (a := a) (m := Int64.ofInt 2305843009213693949) (by rw [uuR]; decide) (by rw [uuR]; decide)
  rw [uuR] at t
  unfold g_secretOf
  rw [uu_add' (by rw [uu1]; omega), f_asSecret_v, t, uu1]
theorem g_sealSum_f (a b : Int64) : g_sealSum a b = f_modQ (f_mix (f_mix (Int64.ofInt 0) a) b) := by
  apply uu_inj
  unfold g_sealSum
  rw [g_rest_v (by rw [uuQ]; decide) (by rw [uuQ]; decide), f_modQ_v, uuQ]
/-- products modulo Q -/
theorem f_timesQ_v {a b : Int64} (ha : uu a < 2305843009213693952) (hb : uu b < 2305843009213693952) : uu (f_timesQ a b) = uu a * uu b % 2305843009213693950 := by
  unfold f_timesQ
  dsimp only
  have A1 : uu (cx_lsr a (Int32.ofInt 31)) = uu a / 2 ^ 31 := lsr_l 31 rfl (by decide) (by omega)
  have B1 : uu (cx_lsr b (Int32.ofInt 31)) = uu b / 2 ^ 31 := lsr_l 31 rfl (by decide) (by omega)
  have A0 : uu (a &&& Int64.ofInt 2147483647) = uu a % 2 ^ 31 := by rw [uu_and, uu31]; exact and_m _ 31 rfl
  have B0 : uu (b &&& Int64.ofInt 2147483647) = uu b % 2 ^ 31 := by rw [uu_and, uu31]; exact and_m _ 31 rfl
  have sa := sp (uu a) 31
  have sb := sp (uu b) 31
  have la1 : uu a / 2 ^ 31 ≤ 1073741823 := by omega
  have lb1 : uu b / 2 ^ 31 ≤ 1073741823 := by omega
  have la0 : uu a % 2 ^ 31 ≤ 2147483647 := by omega
  have lb0 : uu b % 2 ^ 31 ≤ 2147483647 := by omega
  generalize cx_lsr a (Int32.ofInt 31) = a1 at *
  generalize cx_lsr b (Int32.ofInt 31) = b1 at *
  generalize a &&& Int64.ofInt 2147483647 = a0 at *
  generalize b &&& Int64.ofInt 2147483647 = b0 at *
  rw [← A1] at sa la1
  rw [← B1] at sb lb1
  rw [← A0] at sa la0
  rw [← B0] at sb lb0
  clear A1 B1 A0 B0
  have e11 := mul_b la1 lb1
  have e10 := mul_b la1 lb0
  have e01 := mul_b la0 lb1
  have e00 := mul_b la0 lb0
  have p11 : uu (a1 * b1) = uu a1 * uu b1 := uu_mul' (by omega)
  have p10 : uu (a1 * b0) = uu a1 * uu b0 := uu_mul' (by omega)
  have p01 : uu (a0 * b1) = uu a0 * uu b1 := uu_mul' (by omega)
  have p00 : uu (a0 * b0) = uu a0 * uu b0 := uu_mul' (by omega)
  have pm : uu (a1 * b0 + a0 * b1) = uu a1 * uu b0 + uu a0 * uu b1 := by rw [uu_add' (by omega), p10, p01]
  have key : uu a * uu b = 4611686018427387904 * (uu a1 * uu b1) + 2147483648 * (uu a1 * uu b0 + uu a0 * uu b1) + uu a0 * uu b0 := by
    rw [sa, sb]
    generalize uu a1 = A1
    generalize uu a0 = A0
    generalize uu b1 = B1
    generalize uu b0 = B0
    show (A1 * 2147483648 + A0) * (B1 * 2147483648 + B0) = _
    rw [Nat.add_mul, Nat.mul_add, Nat.mul_add, Nat.mul_add]
    have t1 : A1 * 2147483648 * (B1 * 2147483648) = 4611686018427387904 * (A1 * B1) := by rw [Nat.mul_mul_mul_comm, Nat.mul_comm]
    have t2 : A1 * 2147483648 * B0 = 2147483648 * (A1 * B0) := by rw [Nat.mul_comm A1, Nat.mul_assoc]
    have t3 : A0 * (B1 * 2147483648) = 2147483648 * (A0 * B1) := by rw [← Nat.mul_assoc, Nat.mul_comm]
    rw [t1, t2, t3]; omega
  rw [key]
  clear key sa sb
  rw [← p11, ← pm, ← p00]
  rw [← p11] at e11
  rw [← p00] at e00
  have em : uu (a1 * b0 + a0 * b1) ≤ 4611686014132420608 := by omega
  generalize a1 * b0 + a0 * b1 = md at *
  generalize a1 * b1 = hi at *
  generalize a0 * b0 = lo at *
  clear p11 p10 p01 p00 pm e10 e01
  have qP : uu (Int64.ofInt 2305843009213693950) < 9223372036854775808 := by rw [uuQ]; decide
  have q0 : 0 < uu (Int64.ofInt 2305843009213693950) := by rw [uuQ]; decide
  have h1 := uu_rm (x := hi) (y := Int64.ofInt 2305843009213693950) (by omega) qP q0
  have l1 := uu_rm (x := lo) (y := Int64.ofInt 2305843009213693950) (by omega) qP q0
  have m1 : uu (cx_lsr md (Int32.ofInt 30)) = uu md / 2 ^ 30 := lsr_l 30 rfl (by decide) (by omega)
  have m0 : uu (cx_lsl (md &&& Int64.ofInt 1073741823) (Int32.ofInt 31)) = uu md % 2 ^ 30 * 2147483648 := by
    rw [lsl_l (k := 31) 31 rfl (by decide), uu_and, uu30, and_m _ 30 rfl]
    omega
  have m2 := uu_rm (x := cx_lsl (md &&& Int64.ofInt 1073741823) (Int32.ofInt 31)) (y := Int64.ofInt 2305843009213693950) (by omega) qP q0
  rw [uuQ] at h1 l1 m2
  generalize cx_lrm hi (Int64.ofInt 2305843009213693950) = H1 at *
  generalize cx_lrm lo (Int64.ofInt 2305843009213693950) = L1 at *
  generalize cx_lsr md (Int32.ofInt 30) = M1 at *
  generalize cx_lrm (cx_lsl (md &&& Int64.ofInt 1073741823) (Int32.ofInt 31)) (Int64.ofInt 2305843009213693950) = M2 at *
  generalize cx_lsl (md &&& Int64.ofInt 1073741823) (Int32.ofInt 31) = M0 at *
  have q1 : uu (Int64.ofInt 4 * H1) = 4 * uu H1 := by rw [uu_mul' (by rw [uu4]; omega), uu4]
  have r1 := uu_rm (x := Int64.ofInt 4 * H1) (y := Int64.ofInt 2305843009213693950) (by omega) qP q0
  rw [uuQ] at r1
  generalize cx_lrm (Int64.ofInt 4 * H1) (Int64.ofInt 2305843009213693950) = R1 at *
  have q2 : uu (Int64.ofInt 2 * M1) = 2 * uu M1 := by rw [uu_mul' (by rw [uu2]; omega), uu2]
  generalize Int64.ofInt 2 * M1 = N1 at *
  have s2 : uu (R1 + N1) = uu R1 + uu N1 := uu_add' (by omega)
  have r2 := uu_rm (x := R1 + N1) (y := Int64.ofInt 2305843009213693950) (by omega) qP q0
  rw [uuQ] at r2
  generalize cx_lrm (R1 + N1) (Int64.ofInt 2305843009213693950) = R2 at *
  have s3 : uu (R2 + M2) = uu R2 + uu M2 := uu_add' (by omega)
  have r3 := uu_rm (x := R2 + M2) (y := Int64.ofInt 2305843009213693950) (by omega) qP q0
  rw [uuQ] at r3
  generalize cx_lrm (R2 + M2) (Int64.ofInt 2305843009213693950) = R3 at *
  have s4 : uu (R3 + L1) = uu R3 + uu L1 := uu_add' (by omega)
  have r4 := uu_rm (x := R3 + L1) (y := Int64.ofInt 2305843009213693950) (by omega) qP q0
  rw [uuQ] at r4
  rw [r4]
  omega
theorem g_tq_v {e : Int64} : ∀ (n m : Nat) (k : Int) (r s : Int64), k = m → m + n = 61 → uu r < 2305843009213693950 → uu s < 2305843009213693950 → uu (g_it (g_tqF e) n k (r, s)).1 = (uu r + uu s * (uu e / 2 ^ m % 2 ^ n)) % 2305843009213693950 := by
  have qP : uu (Int64.ofInt 2305843009213693950) < 9223372036854775808 := by rw [uuQ]; decide
  have q0 : 0 < uu (Int64.ofInt 2305843009213693950) := by rw [uuQ]; decide
  intro n
  induction n with
  | zero => intro m k r s _ _ hr hs; rw [g_it_0, Nat.pow_zero, Nat.mod_one, Nat.mul_zero, Nat.add_zero, Nat.mod_eq_of_lt hr]
  | succ n ih =>
    intro m k r s hk hn hr hs
    rw [g_it_s]
    have h2 : uu (g_tqS s) = uu s * 2 % 2305843009213693950 := by
      unfold g_tqS
      have t : uu (s * Int64.ofInt 2) = uu s * 2 := by rw [uu_mul' (by rw [uu2]; omega), uu2]
      rw [uu_rm (by omega) qP q0, t, uuQ]
    have h1 : uu (g_tqA r s) = (uu r + uu s) % 2305843009213693950 := by
      unfold g_tqA
      have t : uu (r + s) = uu r + uu s := uu_add' (by omega)
      rw [uu_rm (by omega) qP q0, t, uuQ]
    have bit := bit_u (x := e) (k := k) (n := m) hk (by omega)
    have ee : uu e / 2 ^ m % 2 ^ (n + 1) = uu e / 2 ^ m % 2 + 2 * (uu e / 2 ^ (m + 1) % 2 ^ n) := by
      rw [Nat.pow_succ, Nat.mul_comm, Nat.mod_mul, Nat.div_div_eq_div_mul, ← Nat.pow_succ]
    have md : ∀ a b w : Nat, (a % 2305843009213693950 + b % 2305843009213693950 * w) % 2305843009213693950 = (a + b * w) % 2305843009213693950 := by
      intro a b w
      rw [Nat.add_mod, Nat.mod_mod, Nat.mul_mod, Nat.mod_mod, ← Nat.mul_mod, ← Nat.add_mod]
    by_cases q : (cx_lus e (Int32.ofInt k) &&& Int64.ofInt 1) = Int64.ofInt 1
    · have i1 := ih (m + 1) (k + 1) (g_tqA r s) (g_tqS s) (by omega) (by omega) (by omega) (by omega)
      have e1 : g_tqF e k (r, s) = (g_tqA r s, g_tqS s) := by unfold g_tqF; rw [if_pos q]
      rw [e1, i1, ee, h1, h2, md]
      rw [q, uu1] at bit
      rw [← bit, Nat.mul_add, Nat.mul_one, Nat.mul_assoc, Nat.add_assoc]
    · have i1 := ih (m + 1) (k + 1) r (g_tqS s) (by omega) (by omega) (by omega) (by omega)
      have e1 : g_tqF e k (r, s) = (r, g_tqS s) := by unfold g_tqF; rw [if_neg q]
      have q' : uu e / 2 ^ m % 2 = 0 := by
        have : uu (cx_lus e (Int32.ofInt k) &&& Int64.ofInt 1) ≠ 1 := fun w => q (uu_inj (by rw [w, uu1]))
        omega
      have md' := md (uu r) (uu s * 2) (uu e / 2 ^ (m + 1) % 2 ^ n)
      rw [Nat.mod_eq_of_lt hr] at md'
      rw [e1, i1, ee, h2, md', q', Nat.zero_add, Nat.mul_assoc]
theorem g_timesQ_f {a b : Int64} (ha : uu a < 2305843009213693950) (hb : uu b < 2305843009213693952) : g_timesQ a b = f_timesQ a b := by
  apply uu_inj
  have := g_tq_v (e := b) 61 0 0 (Int64.ofInt 0) a rfl rfl (by rw [uu0]; decide) ha
  unfold g_timesQ
  rw [this, f_timesQ_v (by omega) hb, uu0, Nat.zero_add, Nat.pow_zero, Nat.div_one]
  rw [Nat.mod_eq_of_lt hb]
theorem f_modQ_lt (a : Int64) : uu (f_modQ a) < 2305843009213693950 := by rw [f_modQ_v]; exact Nat.mod_lt _ (by decide)
theorem f_asSecret_lt (a : Int64) : uu (f_asSecret a) < 2305843009213693950 := by rw [f_asSecret_v]; have := Nat.mod_lt (uu a) (show 0 < 2305843009213693949 by decide); omega
/-- what the reference tests of a SEAL -/
def f_sealRight (a b c d : Int64) : Prop := f_power (Int64.ofInt 3) b = f_times a (f_power d (f_modQ (f_mix (f_mix (Int64.ofInt 0) a) c)))
theorem g_seal_f {a b c d : Int64} (ha : uu a < 2305843009213693951) (hd : 0 < uu d ∧ uu d < 2305843009213693951) : g_power (Int64.ofInt 3) b = g_times a (g_power d (g_sealSum a c)) ↔ f_sealRight a b c d := by
  unfold f_sealRight
  rw [g_power_3, g_power_f, f_common_p hd, g_sealSum_f]
  have := f_power_lt (b := d) (e := f_modQ (f_mix (f_mix (Int64.ofInt 0) a) c)) (by omega)
  rw [g_times_f (by omega) (by omega)]
/-! the class: alike but for what LOOKS leave behind -/
def okI (s : Nat) : Bool := s != 6 && s != 8 && s != 183 && s != 99
def okA (s : Nat) : Bool := s != 8 && s != 174 && s != 99
def ev (h h' : cx_Q) : Prop := h.1 ≤ h'.1 ∧ (∀ a, cq_s h a ≠ 99 → cq_s h' a = cq_s h a ∧ cq_z h' a = cq_z h a ∧ cq_J h' a = cq_J h a) ∧ (∀ a, okI (cq_s h a) = true → cq_I h' a = cq_I h a) ∧ ∀ a, okA (cq_s h a) = true → cq_A h' a = cq_A h a
theorem okI_9 {s : Nat} (q : okI s = true) : s ≠ 99 := fun e => by rw [e] at q; exact absurd q (by decide)
theorem okA_9 {s : Nat} (q : okA s = true) : s ≠ 99 := fun e => by rw [e] at q; exact absurd q (by decide)
section
variable {h h' h1 h2 : cx_Q} {a b k0 : Nat} {j v : Int} {w : Int64} {o : Option Nat}
theorem ev.refl : ev h h := ⟨Nat.le_refl _, fun _ _ => ⟨rfl, rfl, rfl⟩, fun _ _ => rfl, fun _ _ => rfl⟩
theorem ev.trans (p : ev h h1) (q : ev h1 h2) : ev h h2 := by
  refine ⟨Nat.le_trans p.1 q.1, fun a w => ?_, fun a w => ?_, fun a w => ?_⟩
  · obtain ⟨p1, p2, p3⟩ := p.2.1 a w
    obtain ⟨q1, q2, q3⟩ := q.2.1 a (by rw [p1]; exact w)
    exact ⟨q1.trans p1, q2.trans p2, q3.trans p3⟩
  · have p1 := (p.2.1 a (okI_9 w)).1
    exact (q.2.2.1 a (by rw [p1]; exact w)).trans (p.2.2.1 a w)
  · have p1 := (p.2.1 a (okA_9 w)).1
    exact (q.2.2.2 a (by rw [p1]; exact w)).trans (p.2.2.2 a w)
theorem ev.s (p : ev h h') (hs : cq_s h a = k0) (hn : k0 ≠ 99) : cq_s h' a = k0 := (p.2.1 a (by rw [hs]; exact hn)).1.trans hs
theorem ev.z (p : ev h h') (hs : cq_s h a = k0) (hn : k0 ≠ 99) : cq_z h' a = cq_z h a := (p.2.1 a (by rw [hs]; exact hn)).2.1
theorem ev.J (p : ev h h') (hs : cq_s h a = k0) (hn : k0 ≠ 99) : cq_J h' a = cq_J h a := (p.2.1 a (by rw [hs]; exact hn)).2.2
theorem ev.I (p : ev h h') (hs : cq_s h a = k0) (hn : okI k0 = true) : cq_I h' a = cq_I h a := p.2.2.1 a (by rw [hs]; exact hn)
theorem ev.A (p : ev h h') (hs : cq_s h a = k0) (hn : okA k0 = true) : cq_A h' a = cq_A h a := p.2.2.2 a (by rw [hs]; exact hn)
/-- what is written where nothing is read -/
theorem ev.tI (p : ev h h') (hs : cq_s h' a = k0) (hx : okI k0 = false) : ev h (cq_sI h' a j v) := by
  refine ⟨p.1, p.2.1, fun b w => ?_, p.2.2.2⟩
  rw [← p.2.2.1 b w]
  funext r
  rw [mm_sI, if_neg (fun e => ?_)]
  have := (p.2.1 b (okI_9 w)).1
  rw [e.1, hs] at this
  rw [e.1, ← this, hx] at w
  cases w
theorem ev.tA (p : ev h h') (hs : cq_s h' a = k0) (hx : okA k0 = false) : ev h (cq_sA h' a j o) := by
  refine ⟨p.1, p.2.1, p.2.2.1, fun b w => ?_⟩
  rw [← p.2.2.2 b w]
  funext r
  rw [mm_sA, if_neg (fun e => ?_)]
  have := (p.2.1 b (okA_9 w)).1
  rw [e.1, hs] at this
  rw [e.1, ← this, hx] at w
  cases w
/-- what is written into a cell that was not there -/
theorem ev.fI (p : ev h h') (hs : cq_s h a = 99) : ev h (cq_sI h' a j v) := by
  refine ⟨p.1, p.2.1, fun b w => ?_, p.2.2.2⟩
  rw [← p.2.2.1 b w]
  funext r
  rw [mm_sI, if_neg (fun e => okI_9 w (by rw [e.1]; exact hs))]
theorem ev.fJ (p : ev h h') (hs : cq_s h a = 99) : ev h (cq_sJ h' a j w) := by
  refine ⟨p.1, fun b q => ⟨(p.2.1 b q).1, (p.2.1 b q).2.1, ?_⟩, p.2.2.1, p.2.2.2⟩
  rw [← (p.2.1 b q).2.2]
  funext r
  rw [mm_sJ, if_neg (fun e => q (by rw [e.1]; exact hs))]
theorem ev.fA (p : ev h h') (hs : cq_s h a = 99) : ev h (cq_sA h' a j o) := by
  refine ⟨p.1, p.2.1, p.2.2.1, fun b w => ?_⟩
  rw [← p.2.2.2 b w]
  funext r
  rw [mm_sA, if_neg (fun e => okA_9 w (by rw [e.1]; exact hs))]
theorem ev.nw (p : ev h h') (al : cq_s h' h'.1 = 99) {t : Nat} {z : Int} : ev h (cq_nw h' t z) := by
  have ne : ∀ {b : Nat}, cq_s h b ≠ 99 → b ≠ h'.1 := fun {b} w e => w (by have := (p.2.1 b w).1; rw [e, al] at this; rw [e]; exact this.symm)
  refine ⟨Nat.le_succ_of_le p.1, fun b w => ?_, fun b w => ?_, fun b w => ?_⟩
  · obtain ⟨n1, n2, n3, n4, n5⟩ := nw_o (h := h') (s := t) (z := z) (ne w)
    obtain ⟨p1, p2, p3⟩ := p.2.1 b w
    exact ⟨n1.trans p1, n2.trans p2, n4.trans p3⟩
  · exact ((nw_o (h := h') (s := t) (z := z) (ne (okI_9 w))).2.2.1).trans (p.2.2.1 b w)
  · exact ((nw_o (h := h') (s := t) (z := z) (ne (okA_9 w))).2.2.2.2).trans (p.2.2.2 b w)
/-- the same is written at both sides -/
theorem ev.cI (p : ev h h') : ev (cq_sI h a j v) (cq_sI h' a j v) := by
  refine ⟨p.1, p.2.1, fun b w => ?_, p.2.2.2⟩
  have := p.2.2.1 b w
  funext r
  rw [mm_sI, mm_sI, this]
theorem ev.cJ (p : ev h h') : ev (cq_sJ h a j w) (cq_sJ h' a j w) := by
  refine ⟨p.1, fun b q => ⟨(p.2.1 b q).1, (p.2.1 b q).2.1, ?_⟩, p.2.2.1, p.2.2.2⟩
  have := (p.2.1 b q).2.2
  funext r
  rw [mm_sJ, mm_sJ, this]
theorem ev.cA (p : ev h h') : ev (cq_sA h a j o) (cq_sA h' a j o) := by
  refine ⟨p.1, p.2.1, p.2.2.1, fun b w => ?_⟩
  have := p.2.2.2 b w
  funext r
  rw [mm_sA, mm_sA, this]
end
/-- a row is written anew -/
def cq_rI (h : cx_Q) (b : Nat) (f : Int → Int) : cx_Q := (h.1, cq_s h, cq_z h, (fun q => if q = b then f else cq_I h q), cq_J h, cq_A h)
def cq_rJ (h : cx_Q) (b : Nat) (f : Int → Int64) : cx_Q := (h.1, cq_s h, cq_z h, cq_I h, (fun q => if q = b then f else cq_J h q), cq_A h)
theorem rr_I {h : cx_Q} {b q : Nat} {f : Int → Int} : cq_I (cq_rI h b f) q = if q = b then f else cq_I h q := Eq.trans rfl rfl
theorem rr_J {h : cx_Q} {b q : Nat} {f : Int → Int64} : cq_J (cq_rJ h b f) q = if q = b then f else cq_J h q := Eq.trans rfl rfl
theorem rr_IJ {h : cx_Q} {b : Nat} {f : Int → Int64} : cq_I (cq_rJ h b f) = cq_I h := Eq.trans rfl rfl
theorem rr_JI {h : cx_Q} {b : Nat} {f : Int → Int} : cq_J (cq_rI h b f) = cq_J h := Eq.trans rfl rfl
theorem rr_AI {h : cx_Q} {b : Nat} {f : Int → Int} : cq_A (cq_rI h b f) = cq_A h := Eq.trans rfl rfl
theorem rr_AJ {h : cx_Q} {b : Nat} {f : Int → Int64} : cq_A (cq_rJ h b f) = cq_A h := Eq.trans rfl rfl
theorem rr_sI {h : cx_Q} {b : Nat} {f : Int → Int} : cq_s (cq_rI h b f) = cq_s h := Eq.trans rfl rfl
theorem rr_sJ {h : cx_Q} {b : Nat} {f : Int → Int64} : cq_s (cq_rJ h b f) = cq_s h := Eq.trans rfl rfl
theorem rr_zI {h : cx_Q} {b : Nat} {f : Int → Int} : cq_z (cq_rI h b f) = cq_z h := Eq.trans rfl rfl
theorem rr_zJ {h : cx_Q} {b : Nat} {f : Int → Int64} : cq_z (cq_rJ h b f) = cq_z h := Eq.trans rfl rfl
/-- the object, the envelope and the opening are as they were, where they weren't written -/
theorem ev.kp {c : Nat} {h h' : cx_Q} (p : ev h h') (hc : cq_s h c = 9) : kp c h h' := ⟨⟨fun a w => (p.2.1 a w).1, p.I hc rfl, p.A hc rfl, fun a w => p.I w rfl, fun a w => p.A w rfl⟩, fun a w => p.I w rfl⟩
def cq_rA (h : cx_Q) (b : Nat) (f : Int → Option Nat) : cx_Q := (h.1, cq_s h, cq_z h, cq_I h, cq_J h, (fun q => if q = b then f else cq_A h q))
theorem rr_A {h : cx_Q} {b q : Nat} {f : Int → Option Nat} : cq_A (cq_rA h b f) q = if q = b then f else cq_A h q := Eq.trans rfl rfl
theorem rr_IA {h : cx_Q} {b : Nat} {f : Int → Option Nat} : cq_I (cq_rA h b f) = cq_I h := Eq.trans rfl rfl
theorem rr_JA {h : cx_Q} {b : Nat} {f : Int → Option Nat} : cq_J (cq_rA h b f) = cq_J h := Eq.trans rfl rfl
theorem rr_sA {h : cx_Q} {b : Nat} {f : Int → Option Nat} : cq_s (cq_rA h b f) = cq_s h := Eq.trans rfl rfl
theorem rr_zA {h : cx_Q} {b : Nat} {f : Int → Option Nat} : cq_z (cq_rA h b f) = cq_z h := Eq.trans rfl rfl
/-- two memories that tell the same are one -/
theorem qext {h h' : cx_Q} (e0 : h.1 = h'.1) (e1 : cq_s h = cq_s h') (e2 : cq_z h = cq_z h') (e3 : ∀ q r, cq_I h q r = cq_I h' q r) (e4 : ∀ q r, cq_J h q r = cq_J h' q r) (e5 : ∀ q r, cq_A h q r = cq_A h' q r) : h = h' := by
  obtain ⟨a0, a1, a2, a3, a4, a5⟩ := h
  obtain ⟨b0, b1, b2, b3, b4, b5⟩ := h'
  have t3 : a3 = b3 := funext fun q => funext fun r => e3 q r
  have t4 : a4 = b4 := funext fun q => funext fun r => e4 q r
  have t5 : a5 = b5 := funext fun q => funext fun r => e5 q r
  have t0 : a0 = b0 := e0
  have t1 : a1 = b1 := e1
  have t2 : a2 = b2 := e2
  rw [t0, t1, t2, t3, t4, t5]
theorem ev.rI {h h' : cx_Q} (p : ev h h') {b : Nat} {f : Int → Int} : ev (cq_rI h b f) (cq_rI h' b f) := by
  refine ⟨p.1, p.2.1, fun q w => ?_, p.2.2.2⟩
  have := p.2.2.1 q w
  rw [rr_I, rr_I, this]
theorem ev.rJ {h h' : cx_Q} (p : ev h h') {b : Nat} {f : Int → Int64} : ev (cq_rJ h b f) (cq_rJ h' b f) := by
  refine ⟨p.1, fun q w => ⟨(p.2.1 q w).1, (p.2.1 q w).2.1, ?_⟩, p.2.2.1, p.2.2.2⟩
  have := (p.2.1 q w).2.2
  rw [rr_J, rr_J, this]
theorem ev.rA {h h' : cx_Q} (p : ev h h') {b : Nat} {f : Int → Option Nat} : ev (cq_rA h b f) (cq_rA h' b f) := by
  refine ⟨p.1, p.2.1, p.2.2.1, fun q w => ?_⟩
  have := p.2.2.2 q w
  rw [rr_A, rr_A, this]
/-! what LOOKS and turns leave is not read -/
section
variable {Y : cx_Y} {K : Option cx_V → cx_Q → Prop} {c : Nat} {n L Z : Int} {E : Nat → Option Int} {h0 : cx_Q} {X : List Nat} {h : cx_Q}
theorem e_X7_give (hY : cY Y) {o : Option Nat} (H : CI c n L Z E h0 X h) (ho : ∀ a, o = some a → cq_s h a = 6) (hK : ∀ h', CI c n L Z E h0 X h' → ev h h' → K none h') : cw Y mi_X7_give K 0 [some (.inr (.inr o))] [] h 0 0 := by
  have j9 : ∀ g, K none g → cw Y mi_X7_give K 9 [some (.inr (.inr o))] [] g 0 0 := by
    intro g q
    refine bx_X7_give_9 hY (pf2_ok hY) ?_
    simp only [wp_iconst, wp_bipush, wp_sipush, wp_ldc, wp_ldc2_w, wp_lconst0, wp_lconst1, wp_aconst_null, wp_iload_0, wp_istore_0, wp_iload_1, wp_istore_1, wp_iload_2, wp_istore_2, wp_iload_3, wp_istore_3, wp_iload, wp_istore, wp_lload_0, wp_lstore_0, wp_lload_1, wp_lstore_1, wp_lload_2, wp_lstore_2, wp_lload_3, wp_lstore_3, wp_lload, wp_lstore, wp_aload_0, wp_astore_0, wp_aload_1, wp_astore_1, wp_aload_2, wp_astore_2, wp_aload_3, wp_astore_3, wp_aload, wp_astore, wp_iinc, wp_iadd, wp_isub, wp_imul, wp_iand, wp_ior, wp_ixor, wp_ishl, wp_ishr, wp_iushr, wp_irem, wp_ladd, wp_lsub, wp_lmul, wp_land, wp_lor, wp_lxor, wp_lshl, wp_lshr, wp_lushr, wp_lrem, wp_lcmp, wp_i2l, wp_l2i, wp_dupI, wp_dupA, wp_dup2J, wp_dup2IA, wp_popI, wp_popA, wp_pop2, wp_goto, wp_if_eq, wp_icmp_eq, wp_if_ne, wp_icmp_ne, wp_if_lt, wp_icmp_lt, wp_if_ge, wp_icmp_ge, wp_if_gt, wp_icmp_gt, wp_if_le, wp_icmp_le, wp_ifnull, wp_ifnonnull, wp_acmp_eq, wp_acmp_ne, wp_tableswitch, wp_get0, wp_put0, wp_get1, wp_put1, wp_get2, wp_put2, wp_get3, wp_put3, wp_new, wp_newarray, wp_anewarray, wp_alen, wp_iaload, wp_laload, wp_baload, wp_aaload, wp_iastore, wp_lastore, wp_bastore, wp_aastore, wp_return, wp_ireturnI, wp_ireturnZ, wp_lreturn, wp_areturnO, wp_areturnA, wp_max, wp_min, wp_obj, wp_virt, wp_nil, ld_I0, ld_Is, ld_J0, ld_Js, ld_A0, ld_As, ha_0, ha_s, cx_put1, cx_put2, cx_dl, cx_tgt, true_and, and_true, Nat.reduceAdd, Nat.reduceSub, Int.reduceAdd, Int.reduceNeg, Int.reduceToNat, Int.reduceSub, Int.cast_ofNat_Int, List.take_succ_cons, List.take_zero, List.drop_succ_cons, List.drop_zero, List.take_nil, List.drop_nil, Option.toList_some, Option.toList_none, List.cons_append, List.nil_append, wp_spec, ne_eq, Nat.reduceEqDiff, not_false_eq_true, true_or, or_true]
    exact q
  cases o with
  | none =>
    refine bx_X7_give_0 hY (pf2_ok hY) ?_
    simp only [wp_iconst, wp_bipush, wp_sipush, wp_ldc, wp_ldc2_w, wp_lconst0, wp_lconst1, wp_aconst_null, wp_iload_0, wp_istore_0, wp_iload_1, wp_istore_1, wp_iload_2, wp_istore_2, wp_iload_3, wp_istore_3, wp_iload, wp_istore, wp_lload_0, wp_lstore_0, wp_lload_1, wp_lstore_1, wp_lload_2, wp_lstore_2, wp_lload_3, wp_lstore_3, wp_lload, wp_lstore, wp_aload_0, wp_astore_0, wp_aload_1, wp_astore_1, wp_aload_2, wp_astore_2, wp_aload_3, wp_astore_3, wp_aload, wp_astore, wp_iinc, wp_iadd, wp_isub, wp_imul, wp_iand, wp_ior, wp_ixor, wp_ishl, wp_ishr, wp_iushr, wp_irem, wp_ladd, wp_lsub, wp_lmul, wp_land, wp_lor, wp_lxor, wp_lshl, wp_lshr, wp_lushr, wp_lrem, wp_lcmp, wp_i2l, wp_l2i, wp_dupI, wp_dupA, wp_dup2J, wp_dup2IA, wp_popI, wp_popA, wp_pop2, wp_goto, wp_if_eq, wp_icmp_eq, wp_if_ne, wp_icmp_ne, wp_if_lt, wp_icmp_lt, wp_if_ge, wp_icmp_ge, wp_if_gt, wp_icmp_gt, wp_if_le, wp_icmp_le, wp_ifnull, wp_ifnonnull, wp_acmp_eq, wp_acmp_ne, wp_tableswitch, wp_get0, wp_put0, wp_get1, wp_put1, wp_get2, wp_put2, wp_get3, wp_put3, wp_new, wp_newarray, wp_anewarray, wp_alen, wp_iaload, wp_laload, wp_baload, wp_aaload, wp_iastore, wp_lastore, wp_bastore, wp_aastore, wp_return, wp_ireturnI, wp_ireturnZ, wp_lreturn, wp_areturnO, wp_areturnA, wp_max, wp_min, wp_obj, wp_virt, wp_nil, ld_I0, ld_Is, ld_J0, ld_Js, ld_A0, ld_As, ha_0, ha_s, cx_put1, cx_put2, cx_dl, cx_tgt, true_and, and_true, Nat.reduceAdd, Nat.reduceSub, Int.reduceAdd, Int.reduceNeg, Int.reduceToNat, Int.reduceSub, Int.cast_ofNat_Int, List.take_succ_cons, List.take_zero, List.drop_succ_cons, List.drop_zero, List.take_nil, List.drop_nil, Option.toList_some, Option.toList_none, List.cons_append, List.nil_append, wp_spec, ne_eq, Nat.reduceEqDiff, not_false_eq_true, true_or, or_true]
    exact ⟨fun _ => j9 _ (hK _ H ev.refl), fun i q => (nomatch q)⟩
  | some a =>
    have hs := ho a rfl
    refine bx_X7_give_0 hY (pf2_ok hY) ?_
    simp only [wp_iconst, wp_bipush, wp_sipush, wp_ldc, wp_ldc2_w, wp_lconst0, wp_lconst1, wp_aconst_null, wp_iload_0, wp_istore_0, wp_iload_1, wp_istore_1, wp_iload_2, wp_istore_2, wp_iload_3, wp_istore_3, wp_iload, wp_istore, wp_lload_0, wp_lstore_0, wp_lload_1, wp_lstore_1, wp_lload_2, wp_lstore_2, wp_lload_3, wp_lstore_3, wp_lload, wp_lstore, wp_aload_0, wp_astore_0, wp_aload_1, wp_astore_1, wp_aload_2, wp_astore_2, wp_aload_3, wp_astore_3, wp_aload, wp_astore, wp_iinc, wp_iadd, wp_isub, wp_imul, wp_iand, wp_ior, wp_ixor, wp_ishl, wp_ishr, wp_iushr, wp_irem, wp_ladd, wp_lsub, wp_lmul, wp_land, wp_lor, wp_lxor, wp_lshl, wp_lshr, wp_lushr, wp_lrem, wp_lcmp, wp_i2l, wp_l2i, wp_dupI, wp_dupA, wp_dup2J, wp_dup2IA, wp_popI, wp_popA, wp_pop2, wp_goto, wp_if_eq, wp_icmp_eq, wp_if_ne, wp_icmp_ne, wp_if_lt, wp_icmp_lt, wp_if_ge, wp_icmp_ge, wp_if_gt, wp_icmp_gt, wp_if_le, wp_icmp_le, wp_ifnull, wp_ifnonnull, wp_acmp_eq, wp_acmp_ne, wp_tableswitch, wp_get0, wp_put0, wp_get1, wp_put1, wp_get2, wp_put2, wp_get3, wp_put3, wp_new, wp_newarray, wp_anewarray, wp_alen, wp_iaload, wp_laload, wp_baload, wp_aaload, wp_iastore, wp_lastore, wp_bastore, wp_aastore, wp_return, wp_ireturnI, wp_ireturnZ, wp_lreturn, wp_areturnO, wp_areturnA, wp_max, wp_min, wp_obj, wp_virt, wp_nil, ld_I0, ld_Is, ld_J0, ld_Js, ld_A0, ld_As, ha_0, ha_s, cx_put1, cx_put2, cx_dl, cx_tgt, true_and, and_true, Nat.reduceAdd, Nat.reduceSub, Int.reduceAdd, Int.reduceNeg, Int.reduceToNat, Int.reduceSub, Int.cast_ofNat_Int, List.take_succ_cons, List.take_zero, List.drop_succ_cons, List.drop_zero, List.take_nil, List.drop_nil, Option.toList_some, Option.toList_none, List.cons_append, List.nil_append, wp_spec, ne_eq, Nat.reduceEqDiff, not_false_eq_true, true_or, or_true, hs]
    refine ⟨fun q => (nomatch q), fun i q => ?_⟩
    (repeat' (with_reducible (first | refine And.intro ?_ ?_ | intro _)))
    all_goals (try omega)
    exact j9 _ (hK _ (H.sI hs (own_9 (by decide)) True.intro rfl) (ev.refl.tI hs rfl))
theorem e_X9_giveRoot (hY : cY Y) {a : Nat} (H : CI c n L Z E h0 X h) (hs : cq_s h a = 8) (hK : ∀ h', CI c n L Z E h0 X h' → ev h h' → K none h') : cw Y mi_X9_giveRoot K 0 [some (.inr (.inr (some a)))] [] h 0 0 := by
  refine bx_X9_giveRoot_0 hY (pf2_ok hY) ?_
  simp only [wp_iconst, wp_bipush, wp_sipush, wp_ldc, wp_ldc2_w, wp_lconst0, wp_lconst1, wp_aconst_null, wp_iload_0, wp_istore_0, wp_iload_1, wp_istore_1, wp_iload_2, wp_istore_2, wp_iload_3, wp_istore_3, wp_iload, wp_istore, wp_lload_0, wp_lstore_0, wp_lload_1, wp_lstore_1, wp_lload_2, wp_lstore_2, wp_lload_3, wp_lstore_3, wp_lload, wp_lstore, wp_aload_0, wp_astore_0, wp_aload_1, wp_astore_1, wp_aload_2, wp_astore_2, wp_aload_3, wp_astore_3, wp_aload, wp_astore, wp_iinc, wp_iadd, wp_isub, wp_imul, wp_iand, wp_ior, wp_ixor, wp_ishl, wp_ishr, wp_iushr, wp_irem, wp_ladd, wp_lsub, wp_lmul, wp_land, wp_lor, wp_lxor, wp_lshl, wp_lshr, wp_lushr, wp_lrem, wp_lcmp, wp_i2l, wp_l2i, wp_dupI, wp_dupA, wp_dup2J, wp_dup2IA, wp_popI, wp_popA, wp_pop2, wp_goto, wp_if_eq, wp_icmp_eq, wp_if_ne, wp_icmp_ne, wp_if_lt, wp_icmp_lt, wp_if_ge, wp_icmp_ge, wp_if_gt, wp_icmp_gt, wp_if_le, wp_icmp_le, wp_ifnull, wp_ifnonnull, wp_acmp_eq, wp_acmp_ne, wp_tableswitch, wp_get0, wp_put0, wp_get1, wp_put1, wp_get2, wp_put2, wp_get3, wp_put3, wp_new, wp_newarray, wp_anewarray, wp_alen, wp_iaload, wp_laload, wp_baload, wp_aaload, wp_iastore, wp_lastore, wp_bastore, wp_aastore, wp_return, wp_ireturnI, wp_ireturnZ, wp_lreturn, wp_areturnO, wp_areturnA, wp_max, wp_min, wp_obj, wp_virt, wp_nil, ld_I0, ld_Is, ld_J0, ld_Js, ld_A0, ld_As, ha_0, ha_s, cx_put1, cx_put2, cx_dl, cx_tgt, true_and, and_true, Nat.reduceAdd, Nat.reduceSub, Int.reduceAdd, Int.reduceNeg, Int.reduceToNat, Int.reduceSub, Int.cast_ofNat_Int, List.take_succ_cons, List.take_zero, List.drop_succ_cons, List.drop_zero, List.take_nil, List.drop_nil, Option.toList_some, Option.toList_none, List.cons_append, List.nil_append, wp_spec, ne_eq, Nat.reduceEqDiff, not_false_eq_true, true_or, or_true, hs]
  (repeat' (with_reducible (first | refine And.intro ?_ ?_ | intro _)))
  all_goals (try omega)
  exact hK _ (H.sI hs (own_9 (by decide)) True.intro rfl) (ev.refl.tI hs rfl)
theorem e_X9_giveChain (hY : cY Y) {a : Nat} {m : Int} (H : CI c n L Z E h0 X h) (hs : cq_s h a = 8) (hK : ∀ h', CI c n L Z E h0 X h' → ev h h' → K none h') : cw Y mi_X9_giveChain K 0 [some (.inr (.inr (some a))), some (.inl m)] [] h 0 0 := by
  refine bx_X9_giveChain_0 hY (pf2_ok hY) ?_
  simp only [wp_iconst, wp_bipush, wp_sipush, wp_ldc, wp_ldc2_w, wp_lconst0, wp_lconst1, wp_aconst_null, wp_iload_0, wp_istore_0, wp_iload_1, wp_istore_1, wp_iload_2, wp_istore_2, wp_iload_3, wp_istore_3, wp_iload, wp_istore, wp_lload_0, wp_lstore_0, wp_lload_1, wp_lstore_1, wp_lload_2, wp_lstore_2, wp_lload_3, wp_lstore_3, wp_lload, wp_lstore, wp_aload_0, wp_astore_0, wp_aload_1, wp_astore_1, wp_aload_2, wp_astore_2, wp_aload_3, wp_astore_3, wp_aload, wp_astore, wp_iinc, wp_iadd, wp_isub, wp_imul, wp_iand, wp_ior, wp_ixor, wp_ishl, wp_ishr, wp_iushr, wp_irem, wp_ladd, wp_lsub, wp_lmul, wp_land, wp_lor, wp_lxor, wp_lshl, wp_lshr, wp_lushr, wp_lrem, wp_lcmp, wp_i2l, wp_l2i, wp_dupI, wp_dupA, wp_dup2J, wp_dup2IA, wp_popI, wp_popA, wp_pop2, wp_goto, wp_if_eq, wp_icmp_eq, wp_if_ne, wp_icmp_ne, wp_if_lt, wp_icmp_lt, wp_if_ge, wp_icmp_ge, wp_if_gt, wp_icmp_gt, wp_if_le, wp_icmp_le, wp_ifnull, wp_ifnonnull, wp_acmp_eq, wp_acmp_ne, wp_tableswitch, wp_get0, wp_put0, wp_get1, wp_put1, wp_get2, wp_put2, wp_get3, wp_put3, wp_new, wp_newarray, wp_anewarray, wp_alen, wp_iaload, wp_laload, wp_baload, wp_aaload, wp_iastore, wp_lastore, wp_bastore, wp_aastore, wp_return, wp_ireturnI, wp_ireturnZ, wp_lreturn, wp_areturnO, wp_areturnA, wp_max, wp_min, wp_obj, wp_virt, wp_nil, ld_I0, ld_Is, ld_J0, ld_Js, ld_A0, ld_As, ha_0, ha_s, cx_put1, cx_put2, cx_dl, cx_tgt, true_and, and_true, Nat.reduceAdd, Nat.reduceSub, Int.reduceAdd, Int.reduceNeg, Int.reduceToNat, Int.reduceSub, Int.cast_ofNat_Int, List.take_succ_cons, List.take_zero, List.drop_succ_cons, List.drop_zero, List.take_nil, List.drop_nil, Option.toList_some, Option.toList_none, List.cons_append, List.nil_append, wp_spec, ne_eq, Nat.reduceEqDiff, not_false_eq_true, true_or, or_true, hs, wf_X3_mix, wf_X3_key, wf_X3_times, wf_X3_timesModuloQ, wf_X3_power, wf_X3_rest, wf_X3_secretOf, wf_X3_sealSum, wf_X3_sum, wf_X3_letterKey, wf_X3_nextOf, wf_X3_isOpen, wf_X3_veil, wf_X3_sealIsRight, cx_sz, cx_c2, cond_true, cond_false, Nat.reduceLeDiff]
  (repeat' (with_reducible (first | refine And.intro ?_ ?_ | intro _)))
  all_goals (try omega)
  exact hK _ (H.sI hs (own_9 (by decide)) True.intro rfl) (ev.refl.tI hs rfl)
theorem e_X9_giveKey (hY : cY Y) {a : Nat} {m : Int} (H : CI c n L Z E h0 X h) (hX : a ∉ X) (hs : cq_s h a = 8) (hK : ∀ h', CI c n L Z E h0 X h' → ev h h' → K none h') : cw Y mi_X9_giveKey K 0 [some (.inr (.inr (some a))), some (.inl m)] [] h 0 0 := by
  obtain ⟨b, eb, sb, zb⟩ := H.g8_6 hs hX
  have j20 : ∀ g, K none g → cw Y mi_X9_giveKey K 20 [some (.inr (.inr (some a))), some (.inl m)] [] g 0 0 := by
    intro g q
    refine bx_X9_giveKey_20 hY (pf2_ok hY) ?_
    simp only [wp_iconst, wp_bipush, wp_sipush, wp_ldc, wp_ldc2_w, wp_lconst0, wp_lconst1, wp_aconst_null, wp_iload_0, wp_istore_0, wp_iload_1, wp_istore_1, wp_iload_2, wp_istore_2, wp_iload_3, wp_istore_3, wp_iload, wp_istore, wp_lload_0, wp_lstore_0, wp_lload_1, wp_lstore_1, wp_lload_2, wp_lstore_2, wp_lload_3, wp_lstore_3, wp_lload, wp_lstore, wp_aload_0, wp_astore_0, wp_aload_1, wp_astore_1, wp_aload_2, wp_astore_2, wp_aload_3, wp_astore_3, wp_aload, wp_astore, wp_iinc, wp_iadd, wp_isub, wp_imul, wp_iand, wp_ior, wp_ixor, wp_ishl, wp_ishr, wp_iushr, wp_irem, wp_ladd, wp_lsub, wp_lmul, wp_land, wp_lor, wp_lxor, wp_lshl, wp_lshr, wp_lushr, wp_lrem, wp_lcmp, wp_i2l, wp_l2i, wp_dupI, wp_dupA, wp_dup2J, wp_dup2IA, wp_popI, wp_popA, wp_pop2, wp_goto, wp_if_eq, wp_icmp_eq, wp_if_ne, wp_icmp_ne, wp_if_lt, wp_icmp_lt, wp_if_ge, wp_icmp_ge, wp_if_gt, wp_icmp_gt, wp_if_le, wp_icmp_le, wp_ifnull, wp_ifnonnull, wp_acmp_eq, wp_acmp_ne, wp_tableswitch, wp_get0, wp_put0, wp_get1, wp_put1, wp_get2, wp_put2, wp_get3, wp_put3, wp_new, wp_newarray, wp_anewarray, wp_alen, wp_iaload, wp_laload, wp_baload, wp_aaload, wp_iastore, wp_lastore, wp_bastore, wp_aastore, wp_return, wp_ireturnI, wp_ireturnZ, wp_lreturn, wp_areturnO, wp_areturnA, wp_max, wp_min, wp_obj, wp_virt, wp_nil, ld_I0, ld_Is, ld_J0, ld_Js, ld_A0, ld_As, ha_0, ha_s, cx_put1, cx_put2, cx_dl, cx_tgt, true_and, and_true, Nat.reduceAdd, Nat.reduceSub, Int.reduceAdd, Int.reduceNeg, Int.reduceToNat, Int.reduceSub, Int.cast_ofNat_Int, List.take_succ_cons, List.take_zero, List.drop_succ_cons, List.drop_zero, List.take_nil, List.drop_nil, Option.toList_some, Option.toList_none, List.cons_append, List.nil_append, wp_spec, ne_eq, Nat.reduceEqDiff, not_false_eq_true, true_or, or_true]
    exact q
  refine bx_X9_giveKey_0 hY (pf2_ok hY) ?_
  simp only [wp_iconst, wp_bipush, wp_sipush, wp_ldc, wp_ldc2_w, wp_lconst0, wp_lconst1, wp_aconst_null, wp_iload_0, wp_istore_0, wp_iload_1, wp_istore_1, wp_iload_2, wp_istore_2, wp_iload_3, wp_istore_3, wp_iload, wp_istore, wp_lload_0, wp_lstore_0, wp_lload_1, wp_lstore_1, wp_lload_2, wp_lstore_2, wp_lload_3, wp_lstore_3, wp_lload, wp_lstore, wp_aload_0, wp_astore_0, wp_aload_1, wp_astore_1, wp_aload_2, wp_astore_2, wp_aload_3, wp_astore_3, wp_aload, wp_astore, wp_iinc, wp_iadd, wp_isub, wp_imul, wp_iand, wp_ior, wp_ixor, wp_ishl, wp_ishr, wp_iushr, wp_irem, wp_ladd, wp_lsub, wp_lmul, wp_land, wp_lor, wp_lxor, wp_lshl, wp_lshr, wp_lushr, wp_lrem, wp_lcmp, wp_i2l, wp_l2i, wp_dupI, wp_dupA, wp_dup2J, wp_dup2IA, wp_popI, wp_popA, wp_pop2, wp_goto, wp_if_eq, wp_icmp_eq, wp_if_ne, wp_icmp_ne, wp_if_lt, wp_icmp_lt, wp_if_ge, wp_icmp_ge, wp_if_gt, wp_icmp_gt, wp_if_le, wp_icmp_le, wp_ifnull, wp_ifnonnull, wp_acmp_eq, wp_acmp_ne, wp_tableswitch, wp_get0, wp_put0, wp_get1, wp_put1, wp_get2, wp_put2, wp_get3, wp_put3, wp_new, wp_newarray, wp_anewarray, wp_alen, wp_iaload, wp_laload, wp_baload, wp_aaload, wp_iastore, wp_lastore, wp_bastore, wp_aastore, wp_return, wp_ireturnI, wp_ireturnZ, wp_lreturn, wp_areturnO, wp_areturnA, wp_max, wp_min, wp_obj, wp_virt, wp_nil, ld_I0, ld_Is, ld_J0, ld_Js, ld_A0, ld_As, ha_0, ha_s, cx_put1, cx_put2, cx_dl, cx_tgt, true_and, and_true, Nat.reduceAdd, Nat.reduceSub, Int.reduceAdd, Int.reduceNeg, Int.reduceToNat, Int.reduceSub, Int.cast_ofNat_Int, List.take_succ_cons, List.take_zero, List.drop_succ_cons, List.drop_zero, List.take_nil, List.drop_nil, Option.toList_some, Option.toList_none, List.cons_append, List.nil_append, wp_spec, ne_eq, Nat.reduceEqDiff, not_false_eq_true, true_or, or_true, hs, eb, sb, zb, ra_183]
  refine ⟨fun _ => j20 _ (hK _ H ev.refl), fun q => ⟨by omega, fun _ => j20 _ (hK _ H ev.refl), fun q2 => ?_⟩⟩
  (repeat' (with_reducible (first | refine And.intro ?_ ?_ | intro _)))
  all_goals (try omega)
  exact j20 _ (hK _ (H.sI sb (own_h (by decide)) True.intro rfl) (ev.refl.tI sb rfl))
theorem e_X9_init (hY : cY Y) {a p : Nat} {o : Option Nat} (H : CI c n L Z E h0 (a :: X) h) (hs : cq_s h a = 8) (ho : ∀ b, o = some b → cq_s h b = 8) (hp : cq_s h p = 101) (hK : ∀ h', CI c n L Z E h0 X h' → ev h h' → (∀ b r, cq_s h b ≠ 99 → b ≠ a → cq_A h' b r = cq_A h b r) → K none h') : cw Y mi_X9_init K 0 [some (.inr (.inr (some a))), some (.inr (.inr o)), some (.inr (.inr (some p)))] [] h 1 80 := by
  have hal := H.al h.1 (Nat.le_refl _)
  have H1 : CI c n L Z E h0 (a :: X) (cq_sI h a 5 1000000) := H.sI hs (own_9 (by decide)) True.intro rfl
  have k1 : ev h (cq_sI h a 5 1000000) := ev.refl.tI hs rfl
  have H2 : CI c n L Z E h0 (a :: X) (cq_nw (cq_sI h a 5 1000000) 183 80) := H1.new (s := 183) rfl (by decide) (by decide) (fun j q => by unfold muA at q; omega)
  have k2 : ev h (cq_nw (cq_sI h a 5 1000000) 183 80) := k1.nw hal
  have nb : cq_s (cq_nw (cq_sI h a 5 1000000) 183 80) h.1 = 183 := nw_n.1
  have sa : cq_s (cq_nw (cq_sI h a 5 1000000) 183 80) a = 8 := k2.s hs (by decide)
  have sp : cq_s (cq_nw (cq_sI h a 5 1000000) 183 80) p = 101 := k2.s hp (by decide)
  have oA : ∀ b r, cq_s h b ≠ 99 → cq_A (cq_nw (cq_sI h a 5 1000000) 183 80) b r = cq_A h b r := fun b r w => by rw [(nw_o (h := cq_sI h a 5 1000000) (s := 183) (z := 80) (fun e => w (by rw [e]; exact hal))).2.2.2.2]; rfl
  have so : ∀ b, o = some b → cq_s (cq_nw (cq_sI h a 5 1000000) 183 80) b = 8 := fun b q => k2.s (ho b q) (by decide)
  refine bx_X9_init_0 hY (pf2_ok hY) ?_
  simp only [wp_iconst, wp_bipush, wp_sipush, wp_ldc, wp_ldc2_w, wp_lconst0, wp_lconst1, wp_aconst_null, wp_iload_0, wp_istore_0, wp_iload_1, wp_istore_1, wp_iload_2, wp_istore_2, wp_iload_3, wp_istore_3, wp_iload, wp_istore, wp_lload_0, wp_lstore_0, wp_lload_1, wp_lstore_1, wp_lload_2, wp_lstore_2, wp_lload_3, wp_lstore_3, wp_lload, wp_lstore, wp_aload_0, wp_astore_0, wp_aload_1, wp_astore_1, wp_aload_2, wp_astore_2, wp_aload_3, wp_astore_3, wp_aload, wp_astore, wp_iinc, wp_iadd, wp_isub, wp_imul, wp_iand, wp_ior, wp_ixor, wp_ishl, wp_ishr, wp_iushr, wp_irem, wp_ladd, wp_lsub, wp_lmul, wp_land, wp_lor, wp_lxor, wp_lshl, wp_lshr, wp_lushr, wp_lrem, wp_lcmp, wp_i2l, wp_l2i, wp_dupI, wp_dupA, wp_dup2J, wp_dup2IA, wp_popI, wp_popA, wp_pop2, wp_goto, wp_if_eq, wp_icmp_eq, wp_if_ne, wp_icmp_ne, wp_if_lt, wp_icmp_lt, wp_if_ge, wp_icmp_ge, wp_if_gt, wp_icmp_gt, wp_if_le, wp_icmp_le, wp_ifnull, wp_ifnonnull, wp_acmp_eq, wp_acmp_ne, wp_tableswitch, wp_get0, wp_put0, wp_get1, wp_put1, wp_get2, wp_put2, wp_get3, wp_put3, wp_new, wp_newarray, wp_anewarray, wp_alen, wp_iaload, wp_laload, wp_baload, wp_aaload, wp_iastore, wp_lastore, wp_bastore, wp_aastore, wp_return, wp_ireturnI, wp_ireturnZ, wp_lreturn, wp_areturnO, wp_areturnA, wp_max, wp_min, wp_obj, wp_virt, wp_nil, ld_I0, ld_Is, ld_J0, ld_Js, ld_A0, ld_As, ha_0, ha_s, cx_put1, cx_put2, cx_dl, cx_tgt, true_and, and_true, Nat.reduceAdd, Nat.reduceSub, Int.reduceAdd, Int.reduceNeg, Int.reduceToNat, Int.reduceSub, Int.cast_ofNat_Int, List.take_succ_cons, List.take_zero, List.drop_succ_cons, List.drop_zero, List.take_nil, List.drop_nil, Option.toList_some, Option.toList_none, List.cons_append, List.nil_append, wp_spec, ne_eq, Nat.reduceEqDiff, not_false_eq_true, true_or, or_true, hs, mm_sI, mm_sJ, mm_sA, mm_IJ, mm_IA, mm_JI, mm_JA, mm_AI, mm_AJ, mm_ssI, mm_ssJ, mm_ssA, mm_zI, mm_zJ, mm_zA, mm_nI, mm_nJ, mm_nA, wf_X3_mix, wf_X3_key, wf_X3_times, wf_X3_timesModuloQ, wf_X3_power, wf_X3_rest, wf_X3_secretOf, wf_X3_sealSum, wf_X3_sum, wf_X3_letterKey, wf_X3_nextOf, wf_X3_isOpen, wf_X3_veil, wf_X3_sealIsRight, cx_sz, cx_c2, cond_true, cond_false, Nat.reduceLeDiff, sa]
  (repeat' (with_reducible (first | refine And.intro ?_ ?_ | intro _)))
  all_goals (try omega)
  generalize cq_nw (cq_sI h a 5 1000000) 183 80 = g at H2 k2 nb sa sp so oA
  have H3 := H2.sA (a := a) (j := 6) (v := some h.1) sa (own_9 (by decide)) (fun b q => by cases q; exact nb) (fun q => (nomatch q)) rfl
  have H4 := H3.sA (a := a) (j := 0) (v := o) sa (own_9 (by decide)) so (fun _ q => by unfold muA at q; omega) rfl
  have H5 := H4.sA (a := a) (j := 1) (v := some p) sa (own_9 (by decide)) (fun b q => by cases q; exact sp) (fun q => (nomatch q)) rfl
  refine hK _ (H5.mk sa (fun j q => ?_) (fun q => absurd q (by decide))) (((k2.tA sa rfl).tA sa rfl).tA sa rfl) (fun b r w w2 => by rw [mm_sA, if_neg (fun e => w2 e.1), mm_sA, if_neg (fun e => w2 e.1), mm_sA, if_neg (fun e => w2 e.1)]; exact oA b r w)
  have q' : j = 1 ∨ j = 6 := by unfold muA at q; omega
  rcases q' with rfl | rfl
  · simp only [mm_sI, mm_sJ, mm_sA, mm_IJ, mm_IA, mm_JI, mm_JA, mm_AI, mm_AJ, mm_ssI, mm_ssJ, mm_ssA, mm_zI, mm_zJ, mm_zA, mm_nI, mm_nJ, mm_nA, Nat.left_eq_add, Nat.add_eq_left, Nat.add_left_cancel_iff, Nat.reduceEqDiff, Int.reduceEq, false_and, and_false, if_false, if_true, and_self, true_and, true_or, or_true, false_or, or_false]
    exact Option.some_ne_none p
  · simp only [mm_sI, mm_sJ, mm_sA, mm_IJ, mm_IA, mm_JI, mm_JA, mm_AI, mm_AJ, mm_ssI, mm_ssJ, mm_ssA, mm_zI, mm_zJ, mm_zA, mm_nI, mm_nJ, mm_nA, Nat.left_eq_add, Nat.add_eq_left, Nat.add_left_cancel_iff, Nat.reduceEqDiff, Int.reduceEq, false_and, and_false, if_false, if_true, and_self, true_and, true_or, or_true, false_or, or_false]
    exact Option.some_ne_none _
theorem e_X9_turnOf (hY : cY Y) {a p : Nat} (H : CI c n L Z E h0 X h) (hX : ∀ x ∈ X, cq_s h x ≠ 8) (hs : cq_s h a = 8) (hp : cq_s h p = 101) (hK : ∀ t h', CI c n L Z E h0 X h' → ev h h' → cq_s h' t = 8 → K (some (.inr (.inr (some t)))) h') : cw Y mi_X9_turnOf K 0 [some (.inr (.inr (some a))), some (.inr (.inr (some p))), none] [] h 2 87 := by
  have nX : ∀ {t : Nat}, cq_s h t = 8 → t ∉ X := fun q w => hX _ w q
  have fin : ∀ o2, cw Y mi_X9_turnOf K 27 [some (.inr (.inr (some a))), some (.inr (.inr (some p))), o2] [] h 2 87 := by
    intro o2
    have hal := H.al h.1 (Nat.le_refl _)
    have H2 : CI c n L Z E h0 (h.1 :: X) (cq_nw h 8 0) := H.nw (s := 8) True.intro (fun q => absurd q (by decide))
    have k2 : ev h (cq_nw h 8 0) := ev.refl.nw hal
    have s2 : cq_s (cq_nw h 8 0) h.1 = 8 := nw_n.1
    refine bx_X9_turnOf_27 hY (pf2_ok hY) ?_
    simp only [wp_iconst, wp_bipush, wp_sipush, wp_ldc, wp_ldc2_w, wp_lconst0, wp_lconst1, wp_aconst_null, wp_iload_0, wp_istore_0, wp_iload_1, wp_istore_1, wp_iload_2, wp_istore_2, wp_iload_3, wp_istore_3, wp_iload, wp_istore, wp_lload_0, wp_lstore_0, wp_lload_1, wp_lstore_1, wp_lload_2, wp_lstore_2, wp_lload_3, wp_lstore_3, wp_lload, wp_lstore, wp_aload_0, wp_astore_0, wp_aload_1, wp_astore_1, wp_aload_2, wp_astore_2, wp_aload_3, wp_astore_3, wp_aload, wp_astore, wp_iinc, wp_iadd, wp_isub, wp_imul, wp_iand, wp_ior, wp_ixor, wp_ishl, wp_ishr, wp_iushr, wp_irem, wp_ladd, wp_lsub, wp_lmul, wp_land, wp_lor, wp_lxor, wp_lshl, wp_lshr, wp_lushr, wp_lrem, wp_lcmp, wp_i2l, wp_l2i, wp_dupI, wp_dupA, wp_dup2J, wp_dup2IA, wp_popI, wp_popA, wp_pop2, wp_goto, wp_if_eq, wp_icmp_eq, wp_if_ne, wp_icmp_ne, wp_if_lt, wp_icmp_lt, wp_if_ge, wp_icmp_ge, wp_if_gt, wp_icmp_gt, wp_if_le, wp_icmp_le, wp_ifnull, wp_ifnonnull, wp_acmp_eq, wp_acmp_ne, wp_tableswitch, wp_get0, wp_put0, wp_get1, wp_put1, wp_get2, wp_put2, wp_get3, wp_put3, wp_new, wp_newarray, wp_anewarray, wp_alen, wp_iaload, wp_laload, wp_baload, wp_aaload, wp_iastore, wp_lastore, wp_bastore, wp_aastore, wp_return, wp_ireturnI, wp_ireturnZ, wp_lreturn, wp_areturnO, wp_areturnA, wp_max, wp_min, wp_obj, wp_virt, wp_nil, ld_I0, ld_Is, ld_J0, ld_Js, ld_A0, ld_As, ha_0, ha_s, cx_put1, cx_put2, cx_dl, cx_tgt, true_and, and_true, Nat.reduceAdd, Nat.reduceSub, Int.reduceAdd, Int.reduceNeg, Int.reduceToNat, Int.reduceSub, Int.cast_ofNat_Int, List.take_succ_cons, List.take_zero, List.drop_succ_cons, List.drop_zero, List.take_nil, List.drop_nil, Option.toList_some, Option.toList_none, List.cons_append, List.nil_append, wp_spec, ne_eq, Nat.reduceEqDiff, not_false_eq_true, true_or, or_true]
    (repeat' (with_reducible (first | refine And.intro ?_ ?_ | intro _)))
    all_goals (try omega)
    refine cl_X9_init (Nat.le_of_ble_eq_true rfl) (Nat.le_refl _) (Nat.le_refl _) (e_X9_init hY H2 s2 (fun b q => by cases q; exact k2.s hs (by decide)) (k2.s hp (by decide)) (fun g G kg gA => ?_))
    have kk := k2.trans kg
    have sa : cq_s g a = 8 := kk.s hs (by decide)
    have st : cq_s g h.1 = 8 := kg.s s2 (by decide)
    have na : ¬ a = h.1 := fun e => by have := H.lt hs (by decide); omega
    refine bx_X9_turnOf_36 hY (pf2_ok hY) ?_
    simp only [wp_iconst, wp_bipush, wp_sipush, wp_ldc, wp_ldc2_w, wp_lconst0, wp_lconst1, wp_aconst_null, wp_iload_0, wp_istore_0, wp_iload_1, wp_istore_1, wp_iload_2, wp_istore_2, wp_iload_3, wp_istore_3, wp_iload, wp_istore, wp_lload_0, wp_lstore_0, wp_lload_1, wp_lstore_1, wp_lload_2, wp_lstore_2, wp_lload_3, wp_lstore_3, wp_lload, wp_lstore, wp_aload_0, wp_astore_0, wp_aload_1, wp_astore_1, wp_aload_2, wp_astore_2, wp_aload_3, wp_astore_3, wp_aload, wp_astore, wp_iinc, wp_iadd, wp_isub, wp_imul, wp_iand, wp_ior, wp_ixor, wp_ishl, wp_ishr, wp_iushr, wp_irem, wp_ladd, wp_lsub, wp_lmul, wp_land, wp_lor, wp_lxor, wp_lshl, wp_lshr, wp_lushr, wp_lrem, wp_lcmp, wp_i2l, wp_l2i, wp_dupI, wp_dupA, wp_dup2J, wp_dup2IA, wp_popI, wp_popA, wp_pop2, wp_goto, wp_if_eq, wp_icmp_eq, wp_if_ne, wp_icmp_ne, wp_if_lt, wp_icmp_lt, wp_if_ge, wp_icmp_ge, wp_if_gt, wp_icmp_gt, wp_if_le, wp_icmp_le, wp_ifnull, wp_ifnonnull, wp_acmp_eq, wp_acmp_ne, wp_tableswitch, wp_get0, wp_put0, wp_get1, wp_put1, wp_get2, wp_put2, wp_get3, wp_put3, wp_new, wp_newarray, wp_anewarray, wp_alen, wp_iaload, wp_laload, wp_baload, wp_aaload, wp_iastore, wp_lastore, wp_bastore, wp_aastore, wp_return, wp_ireturnI, wp_ireturnZ, wp_lreturn, wp_areturnO, wp_areturnA, wp_max, wp_min, wp_obj, wp_virt, wp_nil, ld_I0, ld_Is, ld_J0, ld_Js, ld_A0, ld_As, ha_0, ha_s, cx_put1, cx_put2, cx_dl, cx_tgt, true_and, and_true, Nat.reduceAdd, Nat.reduceSub, Int.reduceAdd, Int.reduceNeg, Int.reduceToNat, Int.reduceSub, Int.cast_ofNat_Int, List.take_succ_cons, List.take_zero, List.drop_succ_cons, List.drop_zero, List.take_nil, List.drop_nil, Option.toList_some, Option.toList_none, List.cons_append, List.nil_append, wp_spec, ne_eq, Nat.reduceEqDiff, not_false_eq_true, true_or, or_true, sa, st, mm_sI, mm_sJ, mm_sA, mm_IJ, mm_IA, mm_JI, mm_JA, mm_AI, mm_AJ, mm_ssI, mm_ssJ, mm_ssA, mm_zI, mm_zJ, mm_zA, mm_nI, mm_nJ, mm_nA, Nat.left_eq_add, Nat.add_eq_left, Nat.add_left_cancel_iff, Nat.reduceEqDiff, Int.reduceEq, false_and, and_false, if_false, if_true, and_self, true_and, true_or, or_true, false_or, or_false]
    have H3 := G.sAx (a := h.1) (j := 3) (v := cq_A g a 2) st (own_9 (by decide)) (fun b q => (G.ta (j := 2) sa (own_9 (by decide)) q : cq_s g b = 8)) (fun _ q => by unfold muA at q; omega) (fun q => absurd q (by decide)) (fun q => absurd q (by decide)) (fun q => absurd q (by decide)) ?_ (by omega) (fun q => absurd q (by decide)) (fun q => absurd q (by decide))
    · have H4 := H3.sA (a := a) (j := 2) (v := some h.1) sa (own_9 (by decide)) (fun b q => by cases q; exact st) (fun q => (nomatch q)) rfl
      exact hK h.1 _ H4 ((kk.tA st rfl).tA sa rfl) st
    · intro _ b q
      rw [gA a 2 (by rw [k2.s hs (by decide)]; decide) na, (nw_o (s := 8) (z := 0) na).2.2.2.2] at q
      exact H.lt (H.ta (j := 2) hs (own_9 (by decide)) q : cq_s h b = 8) (by decide)
  have loop : ∀ (m : Nat) (o : Option Nat), (∀ t, o = some t → cq_s h t = 8 ∧ t < m) → cw Y mi_X9_turnOf K 5 [some (.inr (.inr (some a))), some (.inr (.inr (some p))), some (.inr (.inr o))] [] h 2 87 := by
    have jn : cw Y mi_X9_turnOf K 5 [some (.inr (.inr (some a))), some (.inr (.inr (some p))), some (.inr (.inr none))] [] h 2 87 := by
      refine bx_X9_turnOf_5 hY (pf2_ok hY) ?_
      simp only [wp_iconst, wp_bipush, wp_sipush, wp_ldc, wp_ldc2_w, wp_lconst0, wp_lconst1, wp_aconst_null, wp_iload_0, wp_istore_0, wp_iload_1, wp_istore_1, wp_iload_2, wp_istore_2, wp_iload_3, wp_istore_3, wp_iload, wp_istore, wp_lload_0, wp_lstore_0, wp_lload_1, wp_lstore_1, wp_lload_2, wp_lstore_2, wp_lload_3, wp_lstore_3, wp_lload, wp_lstore, wp_aload_0, wp_astore_0, wp_aload_1, wp_astore_1, wp_aload_2, wp_astore_2, wp_aload_3, wp_astore_3, wp_aload, wp_astore, wp_iinc, wp_iadd, wp_isub, wp_imul, wp_iand, wp_ior, wp_ixor, wp_ishl, wp_ishr, wp_iushr, wp_irem, wp_ladd, wp_lsub, wp_lmul, wp_land, wp_lor, wp_lxor, wp_lshl, wp_lshr, wp_lushr, wp_lrem, wp_lcmp, wp_i2l, wp_l2i, wp_dupI, wp_dupA, wp_dup2J, wp_dup2IA, wp_popI, wp_popA, wp_pop2, wp_goto, wp_if_eq, wp_icmp_eq, wp_if_ne, wp_icmp_ne, wp_if_lt, wp_icmp_lt, wp_if_ge, wp_icmp_ge, wp_if_gt, wp_icmp_gt, wp_if_le, wp_icmp_le, wp_ifnull, wp_ifnonnull, wp_acmp_eq, wp_acmp_ne, wp_tableswitch, wp_get0, wp_put0, wp_get1, wp_put1, wp_get2, wp_put2, wp_get3, wp_put3, wp_new, wp_newarray, wp_anewarray, wp_alen, wp_iaload, wp_laload, wp_baload, wp_aaload, wp_iastore, wp_lastore, wp_bastore, wp_aastore, wp_return, wp_ireturnI, wp_ireturnZ, wp_lreturn, wp_areturnO, wp_areturnA, wp_max, wp_min, wp_obj, wp_virt, wp_nil, ld_I0, ld_Is, ld_J0, ld_Js, ld_A0, ld_As, ha_0, ha_s, cx_put1, cx_put2, cx_dl, cx_tgt, true_and, and_true, Nat.reduceAdd, Nat.reduceSub, Int.reduceAdd, Int.reduceNeg, Int.reduceToNat, Int.reduceSub, Int.cast_ofNat_Int, List.take_succ_cons, List.take_zero, List.drop_succ_cons, List.drop_zero, List.take_nil, List.drop_nil, Option.toList_some, Option.toList_none, List.cons_append, List.nil_append, wp_spec, ne_eq, Nat.reduceEqDiff, not_false_eq_true, true_or, or_true]
      exact ⟨fun _ => fin _, fun i q => (nomatch q)⟩
    intro m
    induction m with
    | zero =>
      intro o ho
      cases o with
      | none => exact jn
      | some t => exact absurd (ho t rfl).2 (Nat.not_lt_zero _)
    | succ m ih =>
      intro o ho
      cases o with
      | none => exact jn
      | some t =>
        obtain ⟨st, lt⟩ := ho t rfl
        refine bx_X9_turnOf_5 hY (pf2_ok hY) ?_
        simp only [wp_iconst, wp_bipush, wp_sipush, wp_ldc, wp_ldc2_w, wp_lconst0, wp_lconst1, wp_aconst_null, wp_iload_0, wp_istore_0, wp_iload_1, wp_istore_1, wp_iload_2, wp_istore_2, wp_iload_3, wp_istore_3, wp_iload, wp_istore, wp_lload_0, wp_lstore_0, wp_lload_1, wp_lstore_1, wp_lload_2, wp_lstore_2, wp_lload_3, wp_lstore_3, wp_lload, wp_lstore, wp_aload_0, wp_astore_0, wp_aload_1, wp_astore_1, wp_aload_2, wp_astore_2, wp_aload_3, wp_astore_3, wp_aload, wp_astore, wp_iinc, wp_iadd, wp_isub, wp_imul, wp_iand, wp_ior, wp_ixor, wp_ishl, wp_ishr, wp_iushr, wp_irem, wp_ladd, wp_lsub, wp_lmul, wp_land, wp_lor, wp_lxor, wp_lshl, wp_lshr, wp_lushr, wp_lrem, wp_lcmp, wp_i2l, wp_l2i, wp_dupI, wp_dupA, wp_dup2J, wp_dup2IA, wp_popI, wp_popA, wp_pop2, wp_goto, wp_if_eq, wp_icmp_eq, wp_if_ne, wp_icmp_ne, wp_if_lt, wp_icmp_lt, wp_if_ge, wp_icmp_ge, wp_if_gt, wp_icmp_gt, wp_if_le, wp_icmp_le, wp_ifnull, wp_ifnonnull, wp_acmp_eq, wp_acmp_ne, wp_tableswitch, wp_get0, wp_put0, wp_get1, wp_put1, wp_get2, wp_put2, wp_get3, wp_put3, wp_new, wp_newarray, wp_anewarray, wp_alen, wp_iaload, wp_laload, wp_baload, wp_aaload, wp_iastore, wp_lastore, wp_bastore, wp_aastore, wp_return, wp_ireturnI, wp_ireturnZ, wp_lreturn, wp_areturnO, wp_areturnA, wp_max, wp_min, wp_obj, wp_virt, wp_nil, ld_I0, ld_Is, ld_J0, ld_Js, ld_A0, ld_As, ha_0, ha_s, cx_put1, cx_put2, cx_dl, cx_tgt, true_and, and_true, Nat.reduceAdd, Nat.reduceSub, Int.reduceAdd, Int.reduceNeg, Int.reduceToNat, Int.reduceSub, Int.cast_ofNat_Int, List.take_succ_cons, List.take_zero, List.drop_succ_cons, List.drop_zero, List.take_nil, List.drop_nil, Option.toList_some, Option.toList_none, List.cons_append, List.nil_append, wp_spec, ne_eq, Nat.reduceEqDiff, not_false_eq_true, true_or, or_true]
        refine ⟨fun q => (nomatch q), fun i q => ?_⟩
        refine cl_X9_isOf (Nat.le_of_ble_eq_true rfl) st (by omega) (by omega) (c_X9_isOf hY H (nX st) st hp (fun r hr => ?_))
        refine bx_X9_turnOf_14 hY (pf2_ok hY) ?_
        simp only [wp_iconst, wp_bipush, wp_sipush, wp_ldc, wp_ldc2_w, wp_lconst0, wp_lconst1, wp_aconst_null, wp_iload_0, wp_istore_0, wp_iload_1, wp_istore_1, wp_iload_2, wp_istore_2, wp_iload_3, wp_istore_3, wp_iload, wp_istore, wp_lload_0, wp_lstore_0, wp_lload_1, wp_lstore_1, wp_lload_2, wp_lstore_2, wp_lload_3, wp_lstore_3, wp_lload, wp_lstore, wp_aload_0, wp_astore_0, wp_aload_1, wp_astore_1, wp_aload_2, wp_astore_2, wp_aload_3, wp_astore_3, wp_aload, wp_astore, wp_iinc, wp_iadd, wp_isub, wp_imul, wp_iand, wp_ior, wp_ixor, wp_ishl, wp_ishr, wp_iushr, wp_irem, wp_ladd, wp_lsub, wp_lmul, wp_land, wp_lor, wp_lxor, wp_lshl, wp_lshr, wp_lushr, wp_lrem, wp_lcmp, wp_i2l, wp_l2i, wp_dupI, wp_dupA, wp_dup2J, wp_dup2IA, wp_popI, wp_popA, wp_pop2, wp_goto, wp_if_eq, wp_icmp_eq, wp_if_ne, wp_icmp_ne, wp_if_lt, wp_icmp_lt, wp_if_ge, wp_icmp_ge, wp_if_gt, wp_icmp_gt, wp_if_le, wp_icmp_le, wp_ifnull, wp_ifnonnull, wp_acmp_eq, wp_acmp_ne, wp_tableswitch, wp_get0, wp_put0, wp_get1, wp_put1, wp_get2, wp_put2, wp_get3, wp_put3, wp_new, wp_newarray, wp_anewarray, wp_alen, wp_iaload, wp_laload, wp_baload, wp_aaload, wp_iastore, wp_lastore, wp_bastore, wp_aastore, wp_return, wp_ireturnI, wp_ireturnZ, wp_lreturn, wp_areturnO, wp_areturnA, wp_max, wp_min, wp_obj, wp_virt, wp_nil, ld_I0, ld_Is, ld_J0, ld_Js, ld_A0, ld_As, ha_0, ha_s, cx_put1, cx_put2, cx_dl, cx_tgt, true_and, and_true, Nat.reduceAdd, Nat.reduceSub, Int.reduceAdd, Int.reduceNeg, Int.reduceToNat, Int.reduceSub, Int.cast_ofNat_Int, List.take_succ_cons, List.take_zero, List.drop_succ_cons, List.drop_zero, List.take_nil, List.drop_nil, Option.toList_some, Option.toList_none, List.cons_append, List.nil_append, wp_spec, ne_eq, Nat.reduceEqDiff, not_false_eq_true, true_or, or_true]
        refine ⟨fun _ => ?_, fun _ => hK t h H ev.refl st⟩
        refine bx_X9_turnOf_19 hY (pf2_ok hY) ?_
        simp only [wp_iconst, wp_bipush, wp_sipush, wp_ldc, wp_ldc2_w, wp_lconst0, wp_lconst1, wp_aconst_null, wp_iload_0, wp_istore_0, wp_iload_1, wp_istore_1, wp_iload_2, wp_istore_2, wp_iload_3, wp_istore_3, wp_iload, wp_istore, wp_lload_0, wp_lstore_0, wp_lload_1, wp_lstore_1, wp_lload_2, wp_lstore_2, wp_lload_3, wp_lstore_3, wp_lload, wp_lstore, wp_aload_0, wp_astore_0, wp_aload_1, wp_astore_1, wp_aload_2, wp_astore_2, wp_aload_3, wp_astore_3, wp_aload, wp_astore, wp_iinc, wp_iadd, wp_isub, wp_imul, wp_iand, wp_ior, wp_ixor, wp_ishl, wp_ishr, wp_iushr, wp_irem, wp_ladd, wp_lsub, wp_lmul, wp_land, wp_lor, wp_lxor, wp_lshl, wp_lshr, wp_lushr, wp_lrem, wp_lcmp, wp_i2l, wp_l2i, wp_dupI, wp_dupA, wp_dup2J, wp_dup2IA, wp_popI, wp_popA, wp_pop2, wp_goto, wp_if_eq, wp_icmp_eq, wp_if_ne, wp_icmp_ne, wp_if_lt, wp_icmp_lt, wp_if_ge, wp_icmp_ge, wp_if_gt, wp_icmp_gt, wp_if_le, wp_icmp_le, wp_ifnull, wp_ifnonnull, wp_acmp_eq, wp_acmp_ne, wp_tableswitch, wp_get0, wp_put0, wp_get1, wp_put1, wp_get2, wp_put2, wp_get3, wp_put3, wp_new, wp_newarray, wp_anewarray, wp_alen, wp_iaload, wp_laload, wp_baload, wp_aaload, wp_iastore, wp_lastore, wp_bastore, wp_aastore, wp_return, wp_ireturnI, wp_ireturnZ, wp_lreturn, wp_areturnO, wp_areturnA, wp_max, wp_min, wp_obj, wp_virt, wp_nil, ld_I0, ld_Is, ld_J0, ld_Js, ld_A0, ld_As, ha_0, ha_s, cx_put1, cx_put2, cx_dl, cx_tgt, true_and, and_true, Nat.reduceAdd, Nat.reduceSub, Int.reduceAdd, Int.reduceNeg, Int.reduceToNat, Int.reduceSub, Int.cast_ofNat_Int, List.take_succ_cons, List.take_zero, List.drop_succ_cons, List.drop_zero, List.take_nil, List.drop_nil, Option.toList_some, Option.toList_none, List.cons_append, List.nil_append, wp_spec, ne_eq, Nat.reduceEqDiff, not_false_eq_true, true_or, or_true, st]
        exact ih _ (fun t' q => ⟨H.ta st (own_9 (by decide)) q, by have := H.l8 t t' st q; omega⟩)
  refine bx_X9_turnOf_0 hY (pf2_ok hY) ?_
  simp only [wp_iconst, wp_bipush, wp_sipush, wp_ldc, wp_ldc2_w, wp_lconst0, wp_lconst1, wp_aconst_null, wp_iload_0, wp_istore_0, wp_iload_1, wp_istore_1, wp_iload_2, wp_istore_2, wp_iload_3, wp_istore_3, wp_iload, wp_istore, wp_lload_0, wp_lstore_0, wp_lload_1, wp_lstore_1, wp_lload_2, wp_lstore_2, wp_lload_3, wp_lstore_3, wp_lload, wp_lstore, wp_aload_0, wp_astore_0, wp_aload_1, wp_astore_1, wp_aload_2, wp_astore_2, wp_aload_3, wp_astore_3, wp_aload, wp_astore, wp_iinc, wp_iadd, wp_isub, wp_imul, wp_iand, wp_ior, wp_ixor, wp_ishl, wp_ishr, wp_iushr, wp_irem, wp_ladd, wp_lsub, wp_lmul, wp_land, wp_lor, wp_lxor, wp_lshl, wp_lshr, wp_lushr, wp_lrem, wp_lcmp, wp_i2l, wp_l2i, wp_dupI, wp_dupA, wp_dup2J, wp_dup2IA, wp_popI, wp_popA, wp_pop2, wp_goto, wp_if_eq, wp_icmp_eq, wp_if_ne, wp_icmp_ne, wp_if_lt, wp_icmp_lt, wp_if_ge, wp_icmp_ge, wp_if_gt, wp_icmp_gt, wp_if_le, wp_icmp_le, wp_ifnull, wp_ifnonnull, wp_acmp_eq, wp_acmp_ne, wp_tableswitch, wp_get0, wp_put0, wp_get1, wp_put1, wp_get2, wp_put2, wp_get3, wp_put3, wp_new, wp_newarray, wp_anewarray, wp_alen, wp_iaload, wp_laload, wp_baload, wp_aaload, wp_iastore, wp_lastore, wp_bastore, wp_aastore, wp_return, wp_ireturnI, wp_ireturnZ, wp_lreturn, wp_areturnO, wp_areturnA, wp_max, wp_min, wp_obj, wp_virt, wp_nil, ld_I0, ld_Is, ld_J0, ld_Js, ld_A0, ld_As, ha_0, ha_s, cx_put1, cx_put2, cx_dl, cx_tgt, true_and, and_true, Nat.reduceAdd, Nat.reduceSub, Int.reduceAdd, Int.reduceNeg, Int.reduceToNat, Int.reduceSub, Int.cast_ofNat_Int, List.take_succ_cons, List.take_zero, List.drop_succ_cons, List.drop_zero, List.take_nil, List.drop_nil, Option.toList_some, Option.toList_none, List.cons_append, List.nil_append, wp_spec, ne_eq, Nat.reduceEqDiff, not_false_eq_true, true_or, or_true, hs]
  exact loop h.1 _ (fun t q => by
    have st : cq_s h t = 8 := H.ta hs (own_9 (by decide)) q
    exact ⟨st, H.lt st (by decide)⟩)
theorem e_X1_giveAway (hY : cY Y) {a : Nat} (H : CI c n L Z E h0 [] h) (hs : cq_s h a = 1) (hK : ∀ h', CI c n L Z E h0 [] h' → ev h h' → K none h') : cw Y mi_X1_giveAway K 0 [some (.inr (.inr (some a))), none] [] h 0 0 := by
  have loop : ∀ (r : Nat) (k : Int) (g : cx_Q), 0 ≤ k → k ≤ 20 → 20 - k ≤ r → CI c n L Z E h0 [] g → ev h g → cw Y mi_X1_giveAway K 2 [some (.inr (.inr (some a))), some (.inl k)] [] g 0 0 := by
    intro r
    have j40 : ∀ g lv, K none g → cw Y mi_X1_giveAway K 40 lv [] g 0 0 := by
      intro g lv q
      refine bx_X1_giveAway_40 hY (pf2_ok hY) ?_
      simp only [wp_iconst, wp_bipush, wp_sipush, wp_ldc, wp_ldc2_w, wp_lconst0, wp_lconst1, wp_aconst_null, wp_iload_0, wp_istore_0, wp_iload_1, wp_istore_1, wp_iload_2, wp_istore_2, wp_iload_3, wp_istore_3, wp_iload, wp_istore, wp_lload_0, wp_lstore_0, wp_lload_1, wp_lstore_1, wp_lload_2, wp_lstore_2, wp_lload_3, wp_lstore_3, wp_lload, wp_lstore, wp_aload_0, wp_astore_0, wp_aload_1, wp_astore_1, wp_aload_2, wp_astore_2, wp_aload_3, wp_astore_3, wp_aload, wp_astore, wp_iinc, wp_iadd, wp_isub, wp_imul, wp_iand, wp_ior, wp_ixor, wp_ishl, wp_ishr, wp_iushr, wp_irem, wp_ladd, wp_lsub, wp_lmul, wp_land, wp_lor, wp_lxor, wp_lshl, wp_lshr, wp_lushr, wp_lrem, wp_lcmp, wp_i2l, wp_l2i, wp_dupI, wp_dupA, wp_dup2J, wp_dup2IA, wp_popI, wp_popA, wp_pop2, wp_goto, wp_if_eq, wp_icmp_eq, wp_if_ne, wp_icmp_ne, wp_if_lt, wp_icmp_lt, wp_if_ge, wp_icmp_ge, wp_if_gt, wp_icmp_gt, wp_if_le, wp_icmp_le, wp_ifnull, wp_ifnonnull, wp_acmp_eq, wp_acmp_ne, wp_tableswitch, wp_get0, wp_put0, wp_get1, wp_put1, wp_get2, wp_put2, wp_get3, wp_put3, wp_new, wp_newarray, wp_anewarray, wp_alen, wp_iaload, wp_laload, wp_baload, wp_aaload, wp_iastore, wp_lastore, wp_bastore, wp_aastore, wp_return, wp_ireturnI, wp_ireturnZ, wp_lreturn, wp_areturnO, wp_areturnA, wp_max, wp_min, wp_obj, wp_virt, wp_nil, ld_I0, ld_Is, ld_J0, ld_Js, ld_A0, ld_As, ha_0, ha_s, cx_put1, cx_put2, cx_dl, cx_tgt, true_and, and_true, Nat.reduceAdd, Nat.reduceSub, Int.reduceAdd, Int.reduceNeg, Int.reduceToNat, Int.reduceSub, Int.cast_ofNat_Int, List.take_succ_cons, List.take_zero, List.drop_succ_cons, List.drop_zero, List.take_nil, List.drop_nil, Option.toList_some, Option.toList_none, List.cons_append, List.nil_append, wp_spec, ne_eq, Nat.reduceEqDiff, not_false_eq_true, true_or, or_true]
      exact q
    induction r with
    | zero =>
      intro k g h1 h2 h3 G kg
      have gs := kg.s hs (by decide)
      have gi := G.i1_4 gs
      refine bx_X1_giveAway_2 hY (pf2_ok hY) ?_
      simp only [wp_iconst, wp_bipush, wp_sipush, wp_ldc, wp_ldc2_w, wp_lconst0, wp_lconst1, wp_aconst_null, wp_iload_0, wp_istore_0, wp_iload_1, wp_istore_1, wp_iload_2, wp_istore_2, wp_iload_3, wp_istore_3, wp_iload, wp_istore, wp_lload_0, wp_lstore_0, wp_lload_1, wp_lstore_1, wp_lload_2, wp_lstore_2, wp_lload_3, wp_lstore_3, wp_lload, wp_lstore, wp_aload_0, wp_astore_0, wp_aload_1, wp_astore_1, wp_aload_2, wp_astore_2, wp_aload_3, wp_astore_3, wp_aload, wp_astore, wp_iinc, wp_iadd, wp_isub, wp_imul, wp_iand, wp_ior, wp_ixor, wp_ishl, wp_ishr, wp_iushr, wp_irem, wp_ladd, wp_lsub, wp_lmul, wp_land, wp_lor, wp_lxor, wp_lshl, wp_lshr, wp_lushr, wp_lrem, wp_lcmp, wp_i2l, wp_l2i, wp_dupI, wp_dupA, wp_dup2J, wp_dup2IA, wp_popI, wp_popA, wp_pop2, wp_goto, wp_if_eq, wp_icmp_eq, wp_if_ne, wp_icmp_ne, wp_if_lt, wp_icmp_lt, wp_if_ge, wp_icmp_ge, wp_if_gt, wp_icmp_gt, wp_if_le, wp_icmp_le, wp_ifnull, wp_ifnonnull, wp_acmp_eq, wp_acmp_ne, wp_tableswitch, wp_get0, wp_put0, wp_get1, wp_put1, wp_get2, wp_put2, wp_get3, wp_put3, wp_new, wp_newarray, wp_anewarray, wp_alen, wp_iaload, wp_laload, wp_baload, wp_aaload, wp_iastore, wp_lastore, wp_bastore, wp_aastore, wp_return, wp_ireturnI, wp_ireturnZ, wp_lreturn, wp_areturnO, wp_areturnA, wp_max, wp_min, wp_obj, wp_virt, wp_nil, ld_I0, ld_Is, ld_J0, ld_Js, ld_A0, ld_As, ha_0, ha_s, cx_put1, cx_put2, cx_dl, cx_tgt, true_and, and_true, Nat.reduceAdd, Nat.reduceSub, Int.reduceAdd, Int.reduceNeg, Int.reduceToNat, Int.reduceSub, Int.cast_ofNat_Int, List.take_succ_cons, List.take_zero, List.drop_succ_cons, List.drop_zero, List.take_nil, List.drop_nil, Option.toList_some, Option.toList_none, List.cons_append, List.nil_append, wp_spec, ne_eq, Nat.reduceEqDiff, not_false_eq_true, true_or, or_true, gs]
      exact ⟨fun _ => j40 _ _ (hK g G kg), fun q => absurd q (by omega)⟩
    | succ r ih =>
      intro k g h1 h2 h3 G kg
      have gs := kg.s hs (by decide)
      have gi := G.i1_4 gs
      obtain ⟨b1, eb1, sb1, zb1⟩ := G.g1_1 gs List.not_mem_nil
      obtain ⟨b3, eb3, sb3, zb3⟩ := G.g1_3 gs List.not_mem_nil
      have j34 : k < 20 → ∀ g', CI c n L Z E h0 [] g' → ev h g' → cw Y mi_X1_giveAway K 34 [some (.inr (.inr (some a))), some (.inl k)] [] g' 0 0 := by
        intro q g' G' k'
        refine bx_X1_giveAway_34 hY (pf2_ok hY) ?_
        simp only [wp_iconst, wp_bipush, wp_sipush, wp_ldc, wp_ldc2_w, wp_lconst0, wp_lconst1, wp_aconst_null, wp_iload_0, wp_istore_0, wp_iload_1, wp_istore_1, wp_iload_2, wp_istore_2, wp_iload_3, wp_istore_3, wp_iload, wp_istore, wp_lload_0, wp_lstore_0, wp_lload_1, wp_lstore_1, wp_lload_2, wp_lstore_2, wp_lload_3, wp_lstore_3, wp_lload, wp_lstore, wp_aload_0, wp_astore_0, wp_aload_1, wp_astore_1, wp_aload_2, wp_astore_2, wp_aload_3, wp_astore_3, wp_aload, wp_astore, wp_iinc, wp_iadd, wp_isub, wp_imul, wp_iand, wp_ior, wp_ixor, wp_ishl, wp_ishr, wp_iushr, wp_irem, wp_ladd, wp_lsub, wp_lmul, wp_land, wp_lor, wp_lxor, wp_lshl, wp_lshr, wp_lushr, wp_lrem, wp_lcmp, wp_i2l, wp_l2i, wp_dupI, wp_dupA, wp_dup2J, wp_dup2IA, wp_popI, wp_popA, wp_pop2, wp_goto, wp_if_eq, wp_icmp_eq, wp_if_ne, wp_icmp_ne, wp_if_lt, wp_icmp_lt, wp_if_ge, wp_icmp_ge, wp_if_gt, wp_icmp_gt, wp_if_le, wp_icmp_le, wp_ifnull, wp_ifnonnull, wp_acmp_eq, wp_acmp_ne, wp_tableswitch, wp_get0, wp_put0, wp_get1, wp_put1, wp_get2, wp_put2, wp_get3, wp_put3, wp_new, wp_newarray, wp_anewarray, wp_alen, wp_iaload, wp_laload, wp_baload, wp_aaload, wp_iastore, wp_lastore, wp_bastore, wp_aastore, wp_return, wp_ireturnI, wp_ireturnZ, wp_lreturn, wp_areturnO, wp_areturnA, wp_max, wp_min, wp_obj, wp_virt, wp_nil, ld_I0, ld_Is, ld_J0, ld_Js, ld_A0, ld_As, ha_0, ha_s, cx_put1, cx_put2, cx_dl, cx_tgt, true_and, and_true, Nat.reduceAdd, Nat.reduceSub, Int.reduceAdd, Int.reduceNeg, Int.reduceToNat, Int.reduceSub, Int.cast_ofNat_Int, List.take_succ_cons, List.take_zero, List.drop_succ_cons, List.drop_zero, List.take_nil, List.drop_nil, Option.toList_some, Option.toList_none, List.cons_append, List.nil_append, wp_spec, ne_eq, Nat.reduceEqDiff, not_false_eq_true, true_or, or_true, cx_rg]
        exact ⟨by omega, ih (k + 1) g' (by omega) (by omega) (by omega) G' k'⟩
      cases e : cq_A g b3 k with
      | none =>
        refine bx_X1_giveAway_2 hY (pf2_ok hY) ?_
        simp only [wp_iconst, wp_bipush, wp_sipush, wp_ldc, wp_ldc2_w, wp_lconst0, wp_lconst1, wp_aconst_null, wp_iload_0, wp_istore_0, wp_iload_1, wp_istore_1, wp_iload_2, wp_istore_2, wp_iload_3, wp_istore_3, wp_iload, wp_istore, wp_lload_0, wp_lstore_0, wp_lload_1, wp_lstore_1, wp_lload_2, wp_lstore_2, wp_lload_3, wp_lstore_3, wp_lload, wp_lstore, wp_aload_0, wp_astore_0, wp_aload_1, wp_astore_1, wp_aload_2, wp_astore_2, wp_aload_3, wp_astore_3, wp_aload, wp_astore, wp_iinc, wp_iadd, wp_isub, wp_imul, wp_iand, wp_ior, wp_ixor, wp_ishl, wp_ishr, wp_iushr, wp_irem, wp_ladd, wp_lsub, wp_lmul, wp_land, wp_lor, wp_lxor, wp_lshl, wp_lshr, wp_lushr, wp_lrem, wp_lcmp, wp_i2l, wp_l2i, wp_dupI, wp_dupA, wp_dup2J, wp_dup2IA, wp_popI, wp_popA, wp_pop2, wp_goto, wp_if_eq, wp_icmp_eq, wp_if_ne, wp_icmp_ne, wp_if_lt, wp_icmp_lt, wp_if_ge, wp_icmp_ge, wp_if_gt, wp_icmp_gt, wp_if_le, wp_icmp_le, wp_ifnull, wp_ifnonnull, wp_acmp_eq, wp_acmp_ne, wp_tableswitch, wp_get0, wp_put0, wp_get1, wp_put1, wp_get2, wp_put2, wp_get3, wp_put3, wp_new, wp_newarray, wp_anewarray, wp_alen, wp_iaload, wp_laload, wp_baload, wp_aaload, wp_iastore, wp_lastore, wp_bastore, wp_aastore, wp_return, wp_ireturnI, wp_ireturnZ, wp_lreturn, wp_areturnO, wp_areturnA, wp_max, wp_min, wp_obj, wp_virt, wp_nil, ld_I0, ld_Is, ld_J0, ld_Js, ld_A0, ld_As, ha_0, ha_s, cx_put1, cx_put2, cx_dl, cx_tgt, true_and, and_true, Nat.reduceAdd, Nat.reduceSub, Int.reduceAdd, Int.reduceNeg, Int.reduceToNat, Int.reduceSub, Int.cast_ofNat_Int, List.take_succ_cons, List.take_zero, List.drop_succ_cons, List.drop_zero, List.take_nil, List.drop_nil, Option.toList_some, Option.toList_none, List.cons_append, List.nil_append, wp_spec, ne_eq, Nat.reduceEqDiff, not_false_eq_true, true_or, or_true, gs, eb3, sb3, zb3, ra_174, e]
        exact ⟨fun _ => j40 _ _ (hK g G kg), fun q => ⟨by omega, fun _ => j34 (by omega) g G kg, fun i q => (nomatch q)⟩⟩
      | some t =>
        have st : cq_s g t = 8 := G.ta sb3 (own_h (by decide)) e
        refine bx_X1_giveAway_2 hY (pf2_ok hY) ?_
        simp only [wp_iconst, wp_bipush, wp_sipush, wp_ldc, wp_ldc2_w, wp_lconst0, wp_lconst1, wp_aconst_null, wp_iload_0, wp_istore_0, wp_iload_1, wp_istore_1, wp_iload_2, wp_istore_2, wp_iload_3, wp_istore_3, wp_iload, wp_istore, wp_lload_0, wp_lstore_0, wp_lload_1, wp_lstore_1, wp_lload_2, wp_lstore_2, wp_lload_3, wp_lstore_3, wp_lload, wp_lstore, wp_aload_0, wp_astore_0, wp_aload_1, wp_astore_1, wp_aload_2, wp_astore_2, wp_aload_3, wp_astore_3, wp_aload, wp_astore, wp_iinc, wp_iadd, wp_isub, wp_imul, wp_iand, wp_ior, wp_ixor, wp_ishl, wp_ishr, wp_iushr, wp_irem, wp_ladd, wp_lsub, wp_lmul, wp_land, wp_lor, wp_lxor, wp_lshl, wp_lshr, wp_lushr, wp_lrem, wp_lcmp, wp_i2l, wp_l2i, wp_dupI, wp_dupA, wp_dup2J, wp_dup2IA, wp_popI, wp_popA, wp_pop2, wp_goto, wp_if_eq, wp_icmp_eq, wp_if_ne, wp_icmp_ne, wp_if_lt, wp_icmp_lt, wp_if_ge, wp_icmp_ge, wp_if_gt, wp_icmp_gt, wp_if_le, wp_icmp_le, wp_ifnull, wp_ifnonnull, wp_acmp_eq, wp_acmp_ne, wp_tableswitch, wp_get0, wp_put0, wp_get1, wp_put1, wp_get2, wp_put2, wp_get3, wp_put3, wp_new, wp_newarray, wp_anewarray, wp_alen, wp_iaload, wp_laload, wp_baload, wp_aaload, wp_iastore, wp_lastore, wp_bastore, wp_aastore, wp_return, wp_ireturnI, wp_ireturnZ, wp_lreturn, wp_areturnO, wp_areturnA, wp_max, wp_min, wp_obj, wp_virt, wp_nil, ld_I0, ld_Is, ld_J0, ld_Js, ld_A0, ld_As, ha_0, ha_s, cx_put1, cx_put2, cx_dl, cx_tgt, true_and, and_true, Nat.reduceAdd, Nat.reduceSub, Int.reduceAdd, Int.reduceNeg, Int.reduceToNat, Int.reduceSub, Int.cast_ofNat_Int, List.take_succ_cons, List.take_zero, List.drop_succ_cons, List.drop_zero, List.take_nil, List.drop_nil, Option.toList_some, Option.toList_none, List.cons_append, List.nil_append, wp_spec, ne_eq, Nat.reduceEqDiff, not_false_eq_true, true_or, or_true, gs, eb3, sb3, zb3, eb1, sb1, zb1, ra_174, ra_172, e]
        refine ⟨fun _ => j40 _ _ (hK g G kg), fun q => ⟨by omega, fun q => (nomatch q), fun i _ => ⟨by omega, by omega, ?_⟩⟩⟩
        refine cl_X9_giveKey (Nat.le_of_ble_eq_true rfl) st (Nat.le_refl _) (Nat.le_refl _) (e_X9_giveKey hY G List.not_mem_nil st (fun g' G' k' => ?_))
        exact j34 (by omega) g' G' (kg.trans k')
  refine bx_X1_giveAway_0 hY (pf2_ok hY) ?_
  simp only [wp_iconst, wp_bipush, wp_sipush, wp_ldc, wp_ldc2_w, wp_lconst0, wp_lconst1, wp_aconst_null, wp_iload_0, wp_istore_0, wp_iload_1, wp_istore_1, wp_iload_2, wp_istore_2, wp_iload_3, wp_istore_3, wp_iload, wp_istore, wp_lload_0, wp_lstore_0, wp_lload_1, wp_lstore_1, wp_lload_2, wp_lstore_2, wp_lload_3, wp_lstore_3, wp_lload, wp_lstore, wp_aload_0, wp_astore_0, wp_aload_1, wp_astore_1, wp_aload_2, wp_astore_2, wp_aload_3, wp_astore_3, wp_aload, wp_astore, wp_iinc, wp_iadd, wp_isub, wp_imul, wp_iand, wp_ior, wp_ixor, wp_ishl, wp_ishr, wp_iushr, wp_irem, wp_ladd, wp_lsub, wp_lmul, wp_land, wp_lor, wp_lxor, wp_lshl, wp_lshr, wp_lushr, wp_lrem, wp_lcmp, wp_i2l, wp_l2i, wp_dupI, wp_dupA, wp_dup2J, wp_dup2IA, wp_popI, wp_popA, wp_pop2, wp_goto, wp_if_eq, wp_icmp_eq, wp_if_ne, wp_icmp_ne, wp_if_lt, wp_icmp_lt, wp_if_ge, wp_icmp_ge, wp_if_gt, wp_icmp_gt, wp_if_le, wp_icmp_le, wp_ifnull, wp_ifnonnull, wp_acmp_eq, wp_acmp_ne, wp_tableswitch, wp_get0, wp_put0, wp_get1, wp_put1, wp_get2, wp_put2, wp_get3, wp_put3, wp_new, wp_newarray, wp_anewarray, wp_alen, wp_iaload, wp_laload, wp_baload, wp_aaload, wp_iastore, wp_lastore, wp_bastore, wp_aastore, wp_return, wp_ireturnI, wp_ireturnZ, wp_lreturn, wp_areturnO, wp_areturnA, wp_max, wp_min, wp_obj, wp_virt, wp_nil, ld_I0, ld_Is, ld_J0, ld_Js, ld_A0, ld_As, ha_0, ha_s, cx_put1, cx_put2, cx_dl, cx_tgt, true_and, and_true, Nat.reduceAdd, Nat.reduceSub, Int.reduceAdd, Int.reduceNeg, Int.reduceToNat, Int.reduceSub, Int.cast_ofNat_Int, List.take_succ_cons, List.take_zero, List.drop_succ_cons, List.drop_zero, List.take_nil, List.drop_nil, Option.toList_some, Option.toList_none, List.cons_append, List.nil_append, wp_spec, ne_eq, Nat.reduceEqDiff, not_false_eq_true, true_or, or_true]
  exact loop 20 0 h (by omega) (by omega) (by omega) H ev.refl
theorem e_X8_giveAway (hY : cY Y) {a : Nat} (H : CI c n L Z E h0 [] h) (hs : cq_s h a = 7) (hK : ∀ h', CI c n L Z E h0 [] h' → ev h h' → K none h') : cw Y mi_X8_giveAway K 0 [some (.inr (.inr (some a)))] [] h 0 0 := by
  obtain ⟨t, et, st⟩ := H.g7_12 hs List.not_mem_nil
  have j50 : ∀ g, CI c n L Z E h0 [] g → ev h g → cw Y mi_X8_giveAway K 50 [some (.inr (.inr (some a)))] [] g 0 0 := by
    intro g G kg
    have sa : cq_s g a = 7 := kg.s hs (by decide)
    obtain ⟨k, ek, sk⟩ := G.g7_19 sa List.not_mem_nil
    refine bx_X8_giveAway_50 hY (pf2_ok hY) ?_
    simp only [wp_iconst, wp_bipush, wp_sipush, wp_ldc, wp_ldc2_w, wp_lconst0, wp_lconst1, wp_aconst_null, wp_iload_0, wp_istore_0, wp_iload_1, wp_istore_1, wp_iload_2, wp_istore_2, wp_iload_3, wp_istore_3, wp_iload, wp_istore, wp_lload_0, wp_lstore_0, wp_lload_1, wp_lstore_1, wp_lload_2, wp_lstore_2, wp_lload_3, wp_lstore_3, wp_lload, wp_lstore, wp_aload_0, wp_astore_0, wp_aload_1, wp_astore_1, wp_aload_2, wp_astore_2, wp_aload_3, wp_astore_3, wp_aload, wp_astore, wp_iinc, wp_iadd, wp_isub, wp_imul, wp_iand, wp_ior, wp_ixor, wp_ishl, wp_ishr, wp_iushr, wp_irem, wp_ladd, wp_lsub, wp_lmul, wp_land, wp_lor, wp_lxor, wp_lshl, wp_lshr, wp_lushr, wp_lrem, wp_lcmp, wp_i2l, wp_l2i, wp_dupI, wp_dupA, wp_dup2J, wp_dup2IA, wp_popI, wp_popA, wp_pop2, wp_goto, wp_if_eq, wp_icmp_eq, wp_if_ne, wp_icmp_ne, wp_if_lt, wp_icmp_lt, wp_if_ge, wp_icmp_ge, wp_if_gt, wp_icmp_gt, wp_if_le, wp_icmp_le, wp_ifnull, wp_ifnonnull, wp_acmp_eq, wp_acmp_ne, wp_tableswitch, wp_get0, wp_put0, wp_get1, wp_put1, wp_get2, wp_put2, wp_get3, wp_put3, wp_new, wp_newarray, wp_anewarray, wp_alen, wp_iaload, wp_laload, wp_baload, wp_aaload, wp_iastore, wp_lastore, wp_bastore, wp_aastore, wp_return, wp_ireturnI, wp_ireturnZ, wp_lreturn, wp_areturnO, wp_areturnA, wp_max, wp_min, wp_obj, wp_virt, wp_nil, ld_I0, ld_Is, ld_J0, ld_Js, ld_A0, ld_As, ha_0, ha_s, cx_put1, cx_put2, cx_dl, cx_tgt, true_and, and_true, Nat.reduceAdd, Nat.reduceSub, Int.reduceAdd, Int.reduceNeg, Int.reduceToNat, Int.reduceSub, Int.cast_ofNat_Int, List.take_succ_cons, List.take_zero, List.drop_succ_cons, List.drop_zero, List.take_nil, List.drop_nil, Option.toList_some, Option.toList_none, List.cons_append, List.nil_append, wp_spec, ne_eq, Nat.reduceEqDiff, not_false_eq_true, true_or, or_true, sa, ek]
    refine cl_X1_giveAway (Nat.le_of_ble_eq_true rfl) sk (Nat.le_refl _) (Nat.le_refl _) (e_X1_giveAway hY G sk (fun g2 G2 k2 => ?_))
    refine bx_X8_giveAway_57 hY (pf2_ok hY) ?_
    simp only [wp_iconst, wp_bipush, wp_sipush, wp_ldc, wp_ldc2_w, wp_lconst0, wp_lconst1, wp_aconst_null, wp_iload_0, wp_istore_0, wp_iload_1, wp_istore_1, wp_iload_2, wp_istore_2, wp_iload_3, wp_istore_3, wp_iload, wp_istore, wp_lload_0, wp_lstore_0, wp_lload_1, wp_lstore_1, wp_lload_2, wp_lstore_2, wp_lload_3, wp_lstore_3, wp_lload, wp_lstore, wp_aload_0, wp_astore_0, wp_aload_1, wp_astore_1, wp_aload_2, wp_astore_2, wp_aload_3, wp_astore_3, wp_aload, wp_astore, wp_iinc, wp_iadd, wp_isub, wp_imul, wp_iand, wp_ior, wp_ixor, wp_ishl, wp_ishr, wp_iushr, wp_irem, wp_ladd, wp_lsub, wp_lmul, wp_land, wp_lor, wp_lxor, wp_lshl, wp_lshr, wp_lushr, wp_lrem, wp_lcmp, wp_i2l, wp_l2i, wp_dupI, wp_dupA, wp_dup2J, wp_dup2IA, wp_popI, wp_popA, wp_pop2, wp_goto, wp_if_eq, wp_icmp_eq, wp_if_ne, wp_icmp_ne, wp_if_lt, wp_icmp_lt, wp_if_ge, wp_icmp_ge, wp_if_gt, wp_icmp_gt, wp_if_le, wp_icmp_le, wp_ifnull, wp_ifnonnull, wp_acmp_eq, wp_acmp_ne, wp_tableswitch, wp_get0, wp_put0, wp_get1, wp_put1, wp_get2, wp_put2, wp_get3, wp_put3, wp_new, wp_newarray, wp_anewarray, wp_alen, wp_iaload, wp_laload, wp_baload, wp_aaload, wp_iastore, wp_lastore, wp_bastore, wp_aastore, wp_return, wp_ireturnI, wp_ireturnZ, wp_lreturn, wp_areturnO, wp_areturnA, wp_max, wp_min, wp_obj, wp_virt, wp_nil, ld_I0, ld_Is, ld_J0, ld_Js, ld_A0, ld_As, ha_0, ha_s, cx_put1, cx_put2, cx_dl, cx_tgt, true_and, and_true, Nat.reduceAdd, Nat.reduceSub, Int.reduceAdd, Int.reduceNeg, Int.reduceToNat, Int.reduceSub, Int.cast_ofNat_Int, List.take_succ_cons, List.take_zero, List.drop_succ_cons, List.drop_zero, List.take_nil, List.drop_nil, Option.toList_some, Option.toList_none, List.cons_append, List.nil_append, wp_spec, ne_eq, Nat.reduceEqDiff, not_false_eq_true, true_or, or_true]
    exact hK g2 G2 (kg.trans k2)
  have j32 : ∀ g, CI c n L Z E h0 [] g → ev h g → cw Y mi_X8_giveAway K 32 [some (.inr (.inr (some a)))] [] g 0 0 := by
    intro g G kg
    have sa : cq_s g a = 7 := kg.s hs (by decide)
    refine bx_X8_giveAway_32 hY (pf2_ok hY) ?_
    cases e : cq_A g a 11 with
    | none =>
      simp only [wp_iconst, wp_bipush, wp_sipush, wp_ldc, wp_ldc2_w, wp_lconst0, wp_lconst1, wp_aconst_null, wp_iload_0, wp_istore_0, wp_iload_1, wp_istore_1, wp_iload_2, wp_istore_2, wp_iload_3, wp_istore_3, wp_iload, wp_istore, wp_lload_0, wp_lstore_0, wp_lload_1, wp_lstore_1, wp_lload_2, wp_lstore_2, wp_lload_3, wp_lstore_3, wp_lload, wp_lstore, wp_aload_0, wp_astore_0, wp_aload_1, wp_astore_1, wp_aload_2, wp_astore_2, wp_aload_3, wp_astore_3, wp_aload, wp_astore, wp_iinc, wp_iadd, wp_isub, wp_imul, wp_iand, wp_ior, wp_ixor, wp_ishl, wp_ishr, wp_iushr, wp_irem, wp_ladd, wp_lsub, wp_lmul, wp_land, wp_lor, wp_lxor, wp_lshl, wp_lshr, wp_lushr, wp_lrem, wp_lcmp, wp_i2l, wp_l2i, wp_dupI, wp_dupA, wp_dup2J, wp_dup2IA, wp_popI, wp_popA, wp_pop2, wp_goto, wp_if_eq, wp_icmp_eq, wp_if_ne, wp_icmp_ne, wp_if_lt, wp_icmp_lt, wp_if_ge, wp_icmp_ge, wp_if_gt, wp_icmp_gt, wp_if_le, wp_icmp_le, wp_ifnull, wp_ifnonnull, wp_acmp_eq, wp_acmp_ne, wp_tableswitch, wp_get0, wp_put0, wp_get1, wp_put1, wp_get2, wp_put2, wp_get3, wp_put3, wp_new, wp_newarray, wp_anewarray, wp_alen, wp_iaload, wp_laload, wp_baload, wp_aaload, wp_iastore, wp_lastore, wp_bastore, wp_aastore, wp_return, wp_ireturnI, wp_ireturnZ, wp_lreturn, wp_areturnO, wp_areturnA, wp_max, wp_min, wp_obj, wp_virt, wp_nil, ld_I0, ld_Is, ld_J0, ld_Js, ld_A0, ld_As, ha_0, ha_s, cx_put1, cx_put2, cx_dl, cx_tgt, true_and, and_true, Nat.reduceAdd, Nat.reduceSub, Int.reduceAdd, Int.reduceNeg, Int.reduceToNat, Int.reduceSub, Int.cast_ofNat_Int, List.take_succ_cons, List.take_zero, List.drop_succ_cons, List.drop_zero, List.take_nil, List.drop_nil, Option.toList_some, Option.toList_none, List.cons_append, List.nil_append, wp_spec, ne_eq, Nat.reduceEqDiff, not_false_eq_true, true_or, or_true, sa, e]
      exact ⟨fun _ => j50 g G kg, fun i q => (nomatch q)⟩
    | some b =>
      have sb : cq_s g b = 8 := G.ta (j := 11) sa (own_9 (by decide)) e
      simp only [wp_iconst, wp_bipush, wp_sipush, wp_ldc, wp_ldc2_w, wp_lconst0, wp_lconst1, wp_aconst_null, wp_iload_0, wp_istore_0, wp_iload_1, wp_istore_1, wp_iload_2, wp_istore_2, wp_iload_3, wp_istore_3, wp_iload, wp_istore, wp_lload_0, wp_lstore_0, wp_lload_1, wp_lstore_1, wp_lload_2, wp_lstore_2, wp_lload_3, wp_lstore_3, wp_lload, wp_lstore, wp_aload_0, wp_astore_0, wp_aload_1, wp_astore_1, wp_aload_2, wp_astore_2, wp_aload_3, wp_astore_3, wp_aload, wp_astore, wp_iinc, wp_iadd, wp_isub, wp_imul, wp_iand, wp_ior, wp_ixor, wp_ishl, wp_ishr, wp_iushr, wp_irem, wp_ladd, wp_lsub, wp_lmul, wp_land, wp_lor, wp_lxor, wp_lshl, wp_lshr, wp_lushr, wp_lrem, wp_lcmp, wp_i2l, wp_l2i, wp_dupI, wp_dupA, wp_dup2J, wp_dup2IA, wp_popI, wp_popA, wp_pop2, wp_goto, wp_if_eq, wp_icmp_eq, wp_if_ne, wp_icmp_ne, wp_if_lt, wp_icmp_lt, wp_if_ge, wp_icmp_ge, wp_if_gt, wp_icmp_gt, wp_if_le, wp_icmp_le, wp_ifnull, wp_ifnonnull, wp_acmp_eq, wp_acmp_ne, wp_tableswitch, wp_get0, wp_put0, wp_get1, wp_put1, wp_get2, wp_put2, wp_get3, wp_put3, wp_new, wp_newarray, wp_anewarray, wp_alen, wp_iaload, wp_laload, wp_baload, wp_aaload, wp_iastore, wp_lastore, wp_bastore, wp_aastore, wp_return, wp_ireturnI, wp_ireturnZ, wp_lreturn, wp_areturnO, wp_areturnA, wp_max, wp_min, wp_obj, wp_virt, wp_nil, ld_I0, ld_Is, ld_J0, ld_Js, ld_A0, ld_As, ha_0, ha_s, cx_put1, cx_put2, cx_dl, cx_tgt, true_and, and_true, Nat.reduceAdd, Nat.reduceSub, Int.reduceAdd, Int.reduceNeg, Int.reduceToNat, Int.reduceSub, Int.cast_ofNat_Int, List.take_succ_cons, List.take_zero, List.drop_succ_cons, List.drop_zero, List.take_nil, List.drop_nil, Option.toList_some, Option.toList_none, List.cons_append, List.nil_append, wp_spec, ne_eq, Nat.reduceEqDiff, not_false_eq_true, true_or, or_true, sa, e]
      refine ⟨fun q => (nomatch q), fun i q => ?_⟩
      refine cl_X9_giveChain (Nat.le_of_ble_eq_true rfl) sb (Nat.le_refl _) (Nat.le_refl _) (e_X9_giveChain hY G sb (fun g2 G2 k2 => ?_))
      exact j50 g2 G2 (kg.trans k2)
  refine bx_X8_giveAway_0 hY (pf2_ok hY) ?_
  simp only [wp_iconst, wp_bipush, wp_sipush, wp_ldc, wp_ldc2_w, wp_lconst0, wp_lconst1, wp_aconst_null, wp_iload_0, wp_istore_0, wp_iload_1, wp_istore_1, wp_iload_2, wp_istore_2, wp_iload_3, wp_istore_3, wp_iload, wp_istore, wp_lload_0, wp_lstore_0, wp_lload_1, wp_lstore_1, wp_lload_2, wp_lstore_2, wp_lload_3, wp_lstore_3, wp_lload, wp_lstore, wp_aload_0, wp_astore_0, wp_aload_1, wp_astore_1, wp_aload_2, wp_astore_2, wp_aload_3, wp_astore_3, wp_aload, wp_astore, wp_iinc, wp_iadd, wp_isub, wp_imul, wp_iand, wp_ior, wp_ixor, wp_ishl, wp_ishr, wp_iushr, wp_irem, wp_ladd, wp_lsub, wp_lmul, wp_land, wp_lor, wp_lxor, wp_lshl, wp_lshr, wp_lushr, wp_lrem, wp_lcmp, wp_i2l, wp_l2i, wp_dupI, wp_dupA, wp_dup2J, wp_dup2IA, wp_popI, wp_popA, wp_pop2, wp_goto, wp_if_eq, wp_icmp_eq, wp_if_ne, wp_icmp_ne, wp_if_lt, wp_icmp_lt, wp_if_ge, wp_icmp_ge, wp_if_gt, wp_icmp_gt, wp_if_le, wp_icmp_le, wp_ifnull, wp_ifnonnull, wp_acmp_eq, wp_acmp_ne, wp_tableswitch, wp_get0, wp_put0, wp_get1, wp_put1, wp_get2, wp_put2, wp_get3, wp_put3, wp_new, wp_newarray, wp_anewarray, wp_alen, wp_iaload, wp_laload, wp_baload, wp_aaload, wp_iastore, wp_lastore, wp_bastore, wp_aastore, wp_return, wp_ireturnI, wp_ireturnZ, wp_lreturn, wp_areturnO, wp_areturnA, wp_max, wp_min, wp_obj, wp_virt, wp_nil, ld_I0, ld_Is, ld_J0, ld_Js, ld_A0, ld_As, ha_0, ha_s, cx_put1, cx_put2, cx_dl, cx_tgt, true_and, and_true, Nat.reduceAdd, Nat.reduceSub, Int.reduceAdd, Int.reduceNeg, Int.reduceToNat, Int.reduceSub, Int.cast_ofNat_Int, List.take_succ_cons, List.take_zero, List.drop_succ_cons, List.drop_zero, List.take_nil, List.drop_nil, Option.toList_some, Option.toList_none, List.cons_append, List.nil_append, wp_spec, ne_eq, Nat.reduceEqDiff, not_false_eq_true, true_or, or_true, hs, et]
  refine cl_X7_give (Nat.le_of_ble_eq_true rfl) (Nat.le_refl _) (Nat.le_refl _) (e_X7_give hY H (fun b q => by cases q; exact st) (fun g G kg => ?_))
  have sa : cq_s g a = 7 := kg.s hs (by decide)
  obtain ⟨r, er, sr⟩ := G.g7_7 sa List.not_mem_nil
  refine bx_X8_giveAway_7 hY (pf2_ok hY) ?_
  simp only [wp_iconst, wp_bipush, wp_sipush, wp_ldc, wp_ldc2_w, wp_lconst0, wp_lconst1, wp_aconst_null, wp_iload_0, wp_istore_0, wp_iload_1, wp_istore_1, wp_iload_2, wp_istore_2, wp_iload_3, wp_istore_3, wp_iload, wp_istore, wp_lload_0, wp_lstore_0, wp_lload_1, wp_lstore_1, wp_lload_2, wp_lstore_2, wp_lload_3, wp_lstore_3, wp_lload, wp_lstore, wp_aload_0, wp_astore_0, wp_aload_1, wp_astore_1, wp_aload_2, wp_astore_2, wp_aload_3, wp_astore_3, wp_aload, wp_astore, wp_iinc, wp_iadd, wp_isub, wp_imul, wp_iand, wp_ior, wp_ixor, wp_ishl, wp_ishr, wp_iushr, wp_irem, wp_ladd, wp_lsub, wp_lmul, wp_land, wp_lor, wp_lxor, wp_lshl, wp_lshr, wp_lushr, wp_lrem, wp_lcmp, wp_i2l, wp_l2i, wp_dupI, wp_dupA, wp_dup2J, wp_dup2IA, wp_popI, wp_popA, wp_pop2, wp_goto, wp_if_eq, wp_icmp_eq, wp_if_ne, wp_icmp_ne, wp_if_lt, wp_icmp_lt, wp_if_ge, wp_icmp_ge, wp_if_gt, wp_icmp_gt, wp_if_le, wp_icmp_le, wp_ifnull, wp_ifnonnull, wp_acmp_eq, wp_acmp_ne, wp_tableswitch, wp_get0, wp_put0, wp_get1, wp_put1, wp_get2, wp_put2, wp_get3, wp_put3, wp_new, wp_newarray, wp_anewarray, wp_alen, wp_iaload, wp_laload, wp_baload, wp_aaload, wp_iastore, wp_lastore, wp_bastore, wp_aastore, wp_return, wp_ireturnI, wp_ireturnZ, wp_lreturn, wp_areturnO, wp_areturnA, wp_max, wp_min, wp_obj, wp_virt, wp_nil, ld_I0, ld_Is, ld_J0, ld_Js, ld_A0, ld_As, ha_0, ha_s, cx_put1, cx_put2, cx_dl, cx_tgt, true_and, and_true, Nat.reduceAdd, Nat.reduceSub, Int.reduceAdd, Int.reduceNeg, Int.reduceToNat, Int.reduceSub, Int.cast_ofNat_Int, List.take_succ_cons, List.take_zero, List.drop_succ_cons, List.drop_zero, List.take_nil, List.drop_nil, Option.toList_some, Option.toList_none, List.cons_append, List.nil_append, wp_spec, ne_eq, Nat.reduceEqDiff, not_false_eq_true, true_or, or_true, sa, er]
  refine cl_X9_giveRoot (Nat.le_of_ble_eq_true rfl) sr (Nat.le_refl _) (Nat.le_refl _) (e_X9_giveRoot hY G sr (fun g2 G2 k2 => ?_))
  have kk := kg.trans k2
  have sa2 : cq_s g2 a = 7 := kk.s hs (by decide)
  refine bx_X8_giveAway_14 hY (pf2_ok hY) ?_
  cases e : cq_A g2 a 9 with
  | none =>
    simp only [wp_iconst, wp_bipush, wp_sipush, wp_ldc, wp_ldc2_w, wp_lconst0, wp_lconst1, wp_aconst_null, wp_iload_0, wp_istore_0, wp_iload_1, wp_istore_1, wp_iload_2, wp_istore_2, wp_iload_3, wp_istore_3, wp_iload, wp_istore, wp_lload_0, wp_lstore_0, wp_lload_1, wp_lstore_1, wp_lload_2, wp_lstore_2, wp_lload_3, wp_lstore_3, wp_lload, wp_lstore, wp_aload_0, wp_astore_0, wp_aload_1, wp_astore_1, wp_aload_2, wp_astore_2, wp_aload_3, wp_astore_3, wp_aload, wp_astore, wp_iinc, wp_iadd, wp_isub, wp_imul, wp_iand, wp_ior, wp_ixor, wp_ishl, wp_ishr, wp_iushr, wp_irem, wp_ladd, wp_lsub, wp_lmul, wp_land, wp_lor, wp_lxor, wp_lshl, wp_lshr, wp_lushr, wp_lrem, wp_lcmp, wp_i2l, wp_l2i, wp_dupI, wp_dupA, wp_dup2J, wp_dup2IA, wp_popI, wp_popA, wp_pop2, wp_goto, wp_if_eq, wp_icmp_eq, wp_if_ne, wp_icmp_ne, wp_if_lt, wp_icmp_lt, wp_if_ge, wp_icmp_ge, wp_if_gt, wp_icmp_gt, wp_if_le, wp_icmp_le, wp_ifnull, wp_ifnonnull, wp_acmp_eq, wp_acmp_ne, wp_tableswitch, wp_get0, wp_put0, wp_get1, wp_put1, wp_get2, wp_put2, wp_get3, wp_put3, wp_new, wp_newarray, wp_anewarray, wp_alen, wp_iaload, wp_laload, wp_baload, wp_aaload, wp_iastore, wp_lastore, wp_bastore, wp_aastore, wp_return, wp_ireturnI, wp_ireturnZ, wp_lreturn, wp_areturnO, wp_areturnA, wp_max, wp_min, wp_obj, wp_virt, wp_nil, ld_I0, ld_Is, ld_J0, ld_Js, ld_A0, ld_As, ha_0, ha_s, cx_put1, cx_put2, cx_dl, cx_tgt, true_and, and_true, Nat.reduceAdd, Nat.reduceSub, Int.reduceAdd, Int.reduceNeg, Int.reduceToNat, Int.reduceSub, Int.cast_ofNat_Int, List.take_succ_cons, List.take_zero, List.drop_succ_cons, List.drop_zero, List.take_nil, List.drop_nil, Option.toList_some, Option.toList_none, List.cons_append, List.nil_append, wp_spec, ne_eq, Nat.reduceEqDiff, not_false_eq_true, true_or, or_true, sa2, e]
    exact ⟨fun _ => j32 g2 G2 kk, fun i q => (nomatch q)⟩
  | some b =>
    have sb : cq_s g2 b = 8 := G2.ta (j := 9) sa2 (own_9 (by decide)) e
    simp only [wp_iconst, wp_bipush, wp_sipush, wp_ldc, wp_ldc2_w, wp_lconst0, wp_lconst1, wp_aconst_null, wp_iload_0, wp_istore_0, wp_iload_1, wp_istore_1, wp_iload_2, wp_istore_2, wp_iload_3, wp_istore_3, wp_iload, wp_istore, wp_lload_0, wp_lstore_0, wp_lload_1, wp_lstore_1, wp_lload_2, wp_lstore_2, wp_lload_3, wp_lstore_3, wp_lload, wp_lstore, wp_aload_0, wp_astore_0, wp_aload_1, wp_astore_1, wp_aload_2, wp_astore_2, wp_aload_3, wp_astore_3, wp_aload, wp_astore, wp_iinc, wp_iadd, wp_isub, wp_imul, wp_iand, wp_ior, wp_ixor, wp_ishl, wp_ishr, wp_iushr, wp_irem, wp_ladd, wp_lsub, wp_lmul, wp_land, wp_lor, wp_lxor, wp_lshl, wp_lshr, wp_lushr, wp_lrem, wp_lcmp, wp_i2l, wp_l2i, wp_dupI, wp_dupA, wp_dup2J, wp_dup2IA, wp_popI, wp_popA, wp_pop2, wp_goto, wp_if_eq, wp_icmp_eq, wp_if_ne, wp_icmp_ne, wp_if_lt, wp_icmp_lt, wp_if_ge, wp_icmp_ge, wp_if_gt, wp_icmp_gt, wp_if_le, wp_icmp_le, wp_ifnull, wp_ifnonnull, wp_acmp_eq, wp_acmp_ne, wp_tableswitch, wp_get0, wp_put0, wp_get1, wp_put1, wp_get2, wp_put2, wp_get3, wp_put3, wp_new, wp_newarray, wp_anewarray, wp_alen, wp_iaload, wp_laload, wp_baload, wp_aaload, wp_iastore, wp_lastore, wp_bastore, wp_aastore, wp_return, wp_ireturnI, wp_ireturnZ, wp_lreturn, wp_areturnO, wp_areturnA, wp_max, wp_min, wp_obj, wp_virt, wp_nil, ld_I0, ld_Is, ld_J0, ld_Js, ld_A0, ld_As, ha_0, ha_s, cx_put1, cx_put2, cx_dl, cx_tgt, true_and, and_true, Nat.reduceAdd, Nat.reduceSub, Int.reduceAdd, Int.reduceNeg, Int.reduceToNat, Int.reduceSub, Int.cast_ofNat_Int, List.take_succ_cons, List.take_zero, List.drop_succ_cons, List.drop_zero, List.take_nil, List.drop_nil, Option.toList_some, Option.toList_none, List.cons_append, List.nil_append, wp_spec, ne_eq, Nat.reduceEqDiff, not_false_eq_true, true_or, or_true, sa2, e]
    refine ⟨fun q => (nomatch q), fun i q => ?_⟩
    refine cl_X9_giveChain (Nat.le_of_ble_eq_true rfl) sb (Nat.le_refl _) (Nat.le_refl _) (e_X9_giveChain hY G2 sb (fun g3 G3 k3 => ?_))
    exact j32 g3 G3 (kk.trans k3)
theorem e_X6_giveAway (hY : cY Y) {a : Nat} (H : CI c n L Z E h0 [] h) (hs : cq_s h a = 5) (hK : ∀ h', CI c n L Z E h0 [] h' → ev h h' → K none h') : cw Y mi_X6_giveAway K 0 [some (.inr (.inr (some a))), none] [] h 0 0 := by
  have loop : ∀ (r : Nat) (k : Int) (g : cx_Q), 0 ≤ k → k ≤ 4 → 4 - k ≤ r → CI c n L Z E h0 [] g → ev h g → cw Y mi_X6_giveAway K 2 [some (.inr (.inr (some a))), some (.inl k)] [] g 0 0 := by
    intro r
    have j25 : ∀ g lv, K none g → cw Y mi_X6_giveAway K 25 lv [] g 0 0 := by
      intro g lv q
      refine bx_X6_giveAway_25 hY (pf2_ok hY) ?_
      simp only [wp_iconst, wp_bipush, wp_sipush, wp_ldc, wp_ldc2_w, wp_lconst0, wp_lconst1, wp_aconst_null, wp_iload_0, wp_istore_0, wp_iload_1, wp_istore_1, wp_iload_2, wp_istore_2, wp_iload_3, wp_istore_3, wp_iload, wp_istore, wp_lload_0, wp_lstore_0, wp_lload_1, wp_lstore_1, wp_lload_2, wp_lstore_2, wp_lload_3, wp_lstore_3, wp_lload, wp_lstore, wp_aload_0, wp_astore_0, wp_aload_1, wp_astore_1, wp_aload_2, wp_astore_2, wp_aload_3, wp_astore_3, wp_aload, wp_astore, wp_iinc, wp_iadd, wp_isub, wp_imul, wp_iand, wp_ior, wp_ixor, wp_ishl, wp_ishr, wp_iushr, wp_irem, wp_ladd, wp_lsub, wp_lmul, wp_land, wp_lor, wp_lxor, wp_lshl, wp_lshr, wp_lushr, wp_lrem, wp_lcmp, wp_i2l, wp_l2i, wp_dupI, wp_dupA, wp_dup2J, wp_dup2IA, wp_popI, wp_popA, wp_pop2, wp_goto, wp_if_eq, wp_icmp_eq, wp_if_ne, wp_icmp_ne, wp_if_lt, wp_icmp_lt, wp_if_ge, wp_icmp_ge, wp_if_gt, wp_icmp_gt, wp_if_le, wp_icmp_le, wp_ifnull, wp_ifnonnull, wp_acmp_eq, wp_acmp_ne, wp_tableswitch, wp_get0, wp_put0, wp_get1, wp_put1, wp_get2, wp_put2, wp_get3, wp_put3, wp_new, wp_newarray, wp_anewarray, wp_alen, wp_iaload, wp_laload, wp_baload, wp_aaload, wp_iastore, wp_lastore, wp_bastore, wp_aastore, wp_return, wp_ireturnI, wp_ireturnZ, wp_lreturn, wp_areturnO, wp_areturnA, wp_max, wp_min, wp_obj, wp_virt, wp_nil, ld_I0, ld_Is, ld_J0, ld_Js, ld_A0, ld_As, ha_0, ha_s, cx_put1, cx_put2, cx_dl, cx_tgt, true_and, and_true, Nat.reduceAdd, Nat.reduceSub, Int.reduceAdd, Int.reduceNeg, Int.reduceToNat, Int.reduceSub, Int.cast_ofNat_Int, List.take_succ_cons, List.take_zero, List.drop_succ_cons, List.drop_zero, List.take_nil, List.drop_nil, Option.toList_some, Option.toList_none, List.cons_append, List.nil_append, wp_spec, ne_eq, Nat.reduceEqDiff, not_false_eq_true, true_or, or_true]
      exact q
    induction r with
    | zero =>
      intro k g h1 h2 h3 G kg
      have gs := kg.s hs (by decide)
      have gi := G.i5_1 gs
      refine bx_X6_giveAway_2 hY (pf2_ok hY) ?_
      simp only [wp_iconst, wp_bipush, wp_sipush, wp_ldc, wp_ldc2_w, wp_lconst0, wp_lconst1, wp_aconst_null, wp_iload_0, wp_istore_0, wp_iload_1, wp_istore_1, wp_iload_2, wp_istore_2, wp_iload_3, wp_istore_3, wp_iload, wp_istore, wp_lload_0, wp_lstore_0, wp_lload_1, wp_lstore_1, wp_lload_2, wp_lstore_2, wp_lload_3, wp_lstore_3, wp_lload, wp_lstore, wp_aload_0, wp_astore_0, wp_aload_1, wp_astore_1, wp_aload_2, wp_astore_2, wp_aload_3, wp_astore_3, wp_aload, wp_astore, wp_iinc, wp_iadd, wp_isub, wp_imul, wp_iand, wp_ior, wp_ixor, wp_ishl, wp_ishr, wp_iushr, wp_irem, wp_ladd, wp_lsub, wp_lmul, wp_land, wp_lor, wp_lxor, wp_lshl, wp_lshr, wp_lushr, wp_lrem, wp_lcmp, wp_i2l, wp_l2i, wp_dupI, wp_dupA, wp_dup2J, wp_dup2IA, wp_popI, wp_popA, wp_pop2, wp_goto, wp_if_eq, wp_icmp_eq, wp_if_ne, wp_icmp_ne, wp_if_lt, wp_icmp_lt, wp_if_ge, wp_icmp_ge, wp_if_gt, wp_icmp_gt, wp_if_le, wp_icmp_le, wp_ifnull, wp_ifnonnull, wp_acmp_eq, wp_acmp_ne, wp_tableswitch, wp_get0, wp_put0, wp_get1, wp_put1, wp_get2, wp_put2, wp_get3, wp_put3, wp_new, wp_newarray, wp_anewarray, wp_alen, wp_iaload, wp_laload, wp_baload, wp_aaload, wp_iastore, wp_lastore, wp_bastore, wp_aastore, wp_return, wp_ireturnI, wp_ireturnZ, wp_lreturn, wp_areturnO, wp_areturnA, wp_max, wp_min, wp_obj, wp_virt, wp_nil, ld_I0, ld_Is, ld_J0, ld_Js, ld_A0, ld_As, ha_0, ha_s, cx_put1, cx_put2, cx_dl, cx_tgt, true_and, and_true, Nat.reduceAdd, Nat.reduceSub, Int.reduceAdd, Int.reduceNeg, Int.reduceToNat, Int.reduceSub, Int.cast_ofNat_Int, List.take_succ_cons, List.take_zero, List.drop_succ_cons, List.drop_zero, List.take_nil, List.drop_nil, Option.toList_some, Option.toList_none, List.cons_append, List.nil_append, wp_spec, ne_eq, Nat.reduceEqDiff, not_false_eq_true, true_or, or_true, gs]
      exact ⟨fun _ => j25 _ _ (hK g G kg), fun q => absurd q (by omega)⟩
    | succ r ih =>
      intro k g h1 h2 h3 G kg
      have gs := kg.s hs (by decide)
      have gi := G.i5_1 gs
      obtain ⟨e1, s1, z1, r1⟩ := G.row List.not_mem_nil gs
      by_cases q : cq_I g a 1 ≤ k
      · refine bx_X6_giveAway_2 hY (pf2_ok hY) ?_
        simp only [wp_iconst, wp_bipush, wp_sipush, wp_ldc, wp_ldc2_w, wp_lconst0, wp_lconst1, wp_aconst_null, wp_iload_0, wp_istore_0, wp_iload_1, wp_istore_1, wp_iload_2, wp_istore_2, wp_iload_3, wp_istore_3, wp_iload, wp_istore, wp_lload_0, wp_lstore_0, wp_lload_1, wp_lstore_1, wp_lload_2, wp_lstore_2, wp_lload_3, wp_lstore_3, wp_lload, wp_lstore, wp_aload_0, wp_astore_0, wp_aload_1, wp_astore_1, wp_aload_2, wp_astore_2, wp_aload_3, wp_astore_3, wp_aload, wp_astore, wp_iinc, wp_iadd, wp_isub, wp_imul, wp_iand, wp_ior, wp_ixor, wp_ishl, wp_ishr, wp_iushr, wp_irem, wp_ladd, wp_lsub, wp_lmul, wp_land, wp_lor, wp_lxor, wp_lshl, wp_lshr, wp_lushr, wp_lrem, wp_lcmp, wp_i2l, wp_l2i, wp_dupI, wp_dupA, wp_dup2J, wp_dup2IA, wp_popI, wp_popA, wp_pop2, wp_goto, wp_if_eq, wp_icmp_eq, wp_if_ne, wp_icmp_ne, wp_if_lt, wp_icmp_lt, wp_if_ge, wp_icmp_ge, wp_if_gt, wp_icmp_gt, wp_if_le, wp_icmp_le, wp_ifnull, wp_ifnonnull, wp_acmp_eq, wp_acmp_ne, wp_tableswitch, wp_get0, wp_put0, wp_get1, wp_put1, wp_get2, wp_put2, wp_get3, wp_put3, wp_new, wp_newarray, wp_anewarray, wp_alen, wp_iaload, wp_laload, wp_baload, wp_aaload, wp_iastore, wp_lastore, wp_bastore, wp_aastore, wp_return, wp_ireturnI, wp_ireturnZ, wp_lreturn, wp_areturnO, wp_areturnA, wp_max, wp_min, wp_obj, wp_virt, wp_nil, ld_I0, ld_Is, ld_J0, ld_Js, ld_A0, ld_As, ha_0, ha_s, cx_put1, cx_put2, cx_dl, cx_tgt, true_and, and_true, Nat.reduceAdd, Nat.reduceSub, Int.reduceAdd, Int.reduceNeg, Int.reduceToNat, Int.reduceSub, Int.cast_ofNat_Int, List.take_succ_cons, List.take_zero, List.drop_succ_cons, List.drop_zero, List.take_nil, List.drop_nil, Option.toList_some, Option.toList_none, List.cons_append, List.nil_append, wp_spec, ne_eq, Nat.reduceEqDiff, not_false_eq_true, true_or, or_true, gs, e1, s1, z1, ra_182]
        exact ⟨fun _ => j25 _ _ (hK g G kg), fun w => absurd q w⟩
      · obtain ⟨t, w1, w2, w3⟩ := r1 k (by omega) (by omega)
        refine bx_X6_giveAway_2 hY (pf2_ok hY) ?_
        simp only [wp_iconst, wp_bipush, wp_sipush, wp_ldc, wp_ldc2_w, wp_lconst0, wp_lconst1, wp_aconst_null, wp_iload_0, wp_istore_0, wp_iload_1, wp_istore_1, wp_iload_2, wp_istore_2, wp_iload_3, wp_istore_3, wp_iload, wp_istore, wp_lload_0, wp_lstore_0, wp_lload_1, wp_lstore_1, wp_lload_2, wp_lstore_2, wp_lload_3, wp_lstore_3, wp_lload, wp_lstore, wp_aload_0, wp_astore_0, wp_aload_1, wp_astore_1, wp_aload_2, wp_astore_2, wp_aload_3, wp_astore_3, wp_aload, wp_astore, wp_iinc, wp_iadd, wp_isub, wp_imul, wp_iand, wp_ior, wp_ixor, wp_ishl, wp_ishr, wp_iushr, wp_irem, wp_ladd, wp_lsub, wp_lmul, wp_land, wp_lor, wp_lxor, wp_lshl, wp_lshr, wp_lushr, wp_lrem, wp_lcmp, wp_i2l, wp_l2i, wp_dupI, wp_dupA, wp_dup2J, wp_dup2IA, wp_popI, wp_popA, wp_pop2, wp_goto, wp_if_eq, wp_icmp_eq, wp_if_ne, wp_icmp_ne, wp_if_lt, wp_icmp_lt, wp_if_ge, wp_icmp_ge, wp_if_gt, wp_icmp_gt, wp_if_le, wp_icmp_le, wp_ifnull, wp_ifnonnull, wp_acmp_eq, wp_acmp_ne, wp_tableswitch, wp_get0, wp_put0, wp_get1, wp_put1, wp_get2, wp_put2, wp_get3, wp_put3, wp_new, wp_newarray, wp_anewarray, wp_alen, wp_iaload, wp_laload, wp_baload, wp_aaload, wp_iastore, wp_lastore, wp_bastore, wp_aastore, wp_return, wp_ireturnI, wp_ireturnZ, wp_lreturn, wp_areturnO, wp_areturnA, wp_max, wp_min, wp_obj, wp_virt, wp_nil, ld_I0, ld_Is, ld_J0, ld_Js, ld_A0, ld_As, ha_0, ha_s, cx_put1, cx_put2, cx_dl, cx_tgt, true_and, and_true, Nat.reduceAdd, Nat.reduceSub, Int.reduceAdd, Int.reduceNeg, Int.reduceToNat, Int.reduceSub, Int.cast_ofNat_Int, List.take_succ_cons, List.take_zero, List.drop_succ_cons, List.drop_zero, List.take_nil, List.drop_nil, Option.toList_some, Option.toList_none, List.cons_append, List.nil_append, wp_spec, ne_eq, Nat.reduceEqDiff, not_false_eq_true, true_or, or_true, gs, e1, s1, z1, ra_182, w1]
        refine ⟨fun w => absurd w q, fun _ => ⟨by omega, ?_⟩⟩
        refine cl_X8_giveAway (Nat.le_of_ble_eq_true rfl) w2 (Nat.le_refl _) (Nat.le_refl _) (e_X8_giveAway hY G w2 (fun g2 G2 k2 => ?_))
        refine bx_X6_giveAway_19 hY (pf2_ok hY) ?_
        simp only [wp_iconst, wp_bipush, wp_sipush, wp_ldc, wp_ldc2_w, wp_lconst0, wp_lconst1, wp_aconst_null, wp_iload_0, wp_istore_0, wp_iload_1, wp_istore_1, wp_iload_2, wp_istore_2, wp_iload_3, wp_istore_3, wp_iload, wp_istore, wp_lload_0, wp_lstore_0, wp_lload_1, wp_lstore_1, wp_lload_2, wp_lstore_2, wp_lload_3, wp_lstore_3, wp_lload, wp_lstore, wp_aload_0, wp_astore_0, wp_aload_1, wp_astore_1, wp_aload_2, wp_astore_2, wp_aload_3, wp_astore_3, wp_aload, wp_astore, wp_iinc, wp_iadd, wp_isub, wp_imul, wp_iand, wp_ior, wp_ixor, wp_ishl, wp_ishr, wp_iushr, wp_irem, wp_ladd, wp_lsub, wp_lmul, wp_land, wp_lor, wp_lxor, wp_lshl, wp_lshr, wp_lushr, wp_lrem, wp_lcmp, wp_i2l, wp_l2i, wp_dupI, wp_dupA, wp_dup2J, wp_dup2IA, wp_popI, wp_popA, wp_pop2, wp_goto, wp_if_eq, wp_icmp_eq, wp_if_ne, wp_icmp_ne, wp_if_lt, wp_icmp_lt, wp_if_ge, wp_icmp_ge, wp_if_gt, wp_icmp_gt, wp_if_le, wp_icmp_le, wp_ifnull, wp_ifnonnull, wp_acmp_eq, wp_acmp_ne, wp_tableswitch, wp_get0, wp_put0, wp_get1, wp_put1, wp_get2, wp_put2, wp_get3, wp_put3, wp_new, wp_newarray, wp_anewarray, wp_alen, wp_iaload, wp_laload, wp_baload, wp_aaload, wp_iastore, wp_lastore, wp_bastore, wp_aastore, wp_return, wp_ireturnI, wp_ireturnZ, wp_lreturn, wp_areturnO, wp_areturnA, wp_max, wp_min, wp_obj, wp_virt, wp_nil, ld_I0, ld_Is, ld_J0, ld_Js, ld_A0, ld_As, ha_0, ha_s, cx_put1, cx_put2, cx_dl, cx_tgt, true_and, and_true, Nat.reduceAdd, Nat.reduceSub, Int.reduceAdd, Int.reduceNeg, Int.reduceToNat, Int.reduceSub, Int.cast_ofNat_Int, List.take_succ_cons, List.take_zero, List.drop_succ_cons, List.drop_zero, List.take_nil, List.drop_nil, Option.toList_some, Option.toList_none, List.cons_append, List.nil_append, wp_spec, ne_eq, Nat.reduceEqDiff, not_false_eq_true, true_or, or_true, cx_rg]
        exact ⟨by omega, ih (k + 1) g2 (by omega) (by omega) (by omega) G2 (kg.trans k2)⟩
  refine bx_X6_giveAway_0 hY (pf2_ok hY) ?_
  simp only [wp_iconst, wp_bipush, wp_sipush, wp_ldc, wp_ldc2_w, wp_lconst0, wp_lconst1, wp_aconst_null, wp_iload_0, wp_istore_0, wp_iload_1, wp_istore_1, wp_iload_2, wp_istore_2, wp_iload_3, wp_istore_3, wp_iload, wp_istore, wp_lload_0, wp_lstore_0, wp_lload_1, wp_lstore_1, wp_lload_2, wp_lstore_2, wp_lload_3, wp_lstore_3, wp_lload, wp_lstore, wp_aload_0, wp_astore_0, wp_aload_1, wp_astore_1, wp_aload_2, wp_astore_2, wp_aload_3, wp_astore_3, wp_aload, wp_astore, wp_iinc, wp_iadd, wp_isub, wp_imul, wp_iand, wp_ior, wp_ixor, wp_ishl, wp_ishr, wp_iushr, wp_irem, wp_ladd, wp_lsub, wp_lmul, wp_land, wp_lor, wp_lxor, wp_lshl, wp_lshr, wp_lushr, wp_lrem, wp_lcmp, wp_i2l, wp_l2i, wp_dupI, wp_dupA, wp_dup2J, wp_dup2IA, wp_popI, wp_popA, wp_pop2, wp_goto, wp_if_eq, wp_icmp_eq, wp_if_ne, wp_icmp_ne, wp_if_lt, wp_icmp_lt, wp_if_ge, wp_icmp_ge, wp_if_gt, wp_icmp_gt, wp_if_le, wp_icmp_le, wp_ifnull, wp_ifnonnull, wp_acmp_eq, wp_acmp_ne, wp_tableswitch, wp_get0, wp_put0, wp_get1, wp_put1, wp_get2, wp_put2, wp_get3, wp_put3, wp_new, wp_newarray, wp_anewarray, wp_alen, wp_iaload, wp_laload, wp_baload, wp_aaload, wp_iastore, wp_lastore, wp_bastore, wp_aastore, wp_return, wp_ireturnI, wp_ireturnZ, wp_lreturn, wp_areturnO, wp_areturnA, wp_max, wp_min, wp_obj, wp_virt, wp_nil, ld_I0, ld_Is, ld_J0, ld_Js, ld_A0, ld_As, ha_0, ha_s, cx_put1, cx_put2, cx_dl, cx_tgt, true_and, and_true, Nat.reduceAdd, Nat.reduceSub, Int.reduceAdd, Int.reduceNeg, Int.reduceToNat, Int.reduceSub, Int.cast_ofNat_Int, List.take_succ_cons, List.take_zero, List.drop_succ_cons, List.drop_zero, List.take_nil, List.drop_nil, Option.toList_some, Option.toList_none, List.cons_append, List.nil_append, wp_spec, ne_eq, Nat.reduceEqDiff, not_false_eq_true, true_or, or_true]
  exact loop 4 0 h (by omega) (by omega) (by omega) H ev.refl
theorem e_X5_giveAway (hY : cY Y) {a : Nat} (H : CI c n L Z E h0 [] h) (hn : n ≤ 6) (hs : cq_s h a = 4) (hK : ∀ h', CI c n L Z E h0 [] h' → ev h h' → K none h') : cw Y mi_X5_giveAway K 0 [some (.inr (.inr (some a))), none] [] h 0 0 := by
  have l3 : ∀ (r : Nat) (k : Int) (g : cx_Q), 0 ≤ k → k ≤ 6 → 6 - k ≤ r → CI c n L Z E h0 [] g → ev h g → cw Y mi_X5_giveAway K 57 [some (.inr (.inr (some a))), some (.inl k)] [] g 0 0 := by
    intro r
    have j81 : ∀ g lv, K none g → cw Y mi_X5_giveAway K 81 lv [] g 0 0 := by
      intro g lv q
      refine bx_X5_giveAway_81 hY (pf2_ok hY) ?_
      simp only [wp_iconst, wp_bipush, wp_sipush, wp_ldc, wp_ldc2_w, wp_lconst0, wp_lconst1, wp_aconst_null, wp_iload_0, wp_istore_0, wp_iload_1, wp_istore_1, wp_iload_2, wp_istore_2, wp_iload_3, wp_istore_3, wp_iload, wp_istore, wp_lload_0, wp_lstore_0, wp_lload_1, wp_lstore_1, wp_lload_2, wp_lstore_2, wp_lload_3, wp_lstore_3, wp_lload, wp_lstore, wp_aload_0, wp_astore_0, wp_aload_1, wp_astore_1, wp_aload_2, wp_astore_2, wp_aload_3, wp_astore_3, wp_aload, wp_astore, wp_iinc, wp_iadd, wp_isub, wp_imul, wp_iand, wp_ior, wp_ixor, wp_ishl, wp_ishr, wp_iushr, wp_irem, wp_ladd, wp_lsub, wp_lmul, wp_land, wp_lor, wp_lxor, wp_lshl, wp_lshr, wp_lushr, wp_lrem, wp_lcmp, wp_i2l, wp_l2i, wp_dupI, wp_dupA, wp_dup2J, wp_dup2IA, wp_popI, wp_popA, wp_pop2, wp_goto, wp_if_eq, wp_icmp_eq, wp_if_ne, wp_icmp_ne, wp_if_lt, wp_icmp_lt, wp_if_ge, wp_icmp_ge, wp_if_gt, wp_icmp_gt, wp_if_le, wp_icmp_le, wp_ifnull, wp_ifnonnull, wp_acmp_eq, wp_acmp_ne, wp_tableswitch, wp_get0, wp_put0, wp_get1, wp_put1, wp_get2, wp_put2, wp_get3, wp_put3, wp_new, wp_newarray, wp_anewarray, wp_alen, wp_iaload, wp_laload, wp_baload, wp_aaload, wp_iastore, wp_lastore, wp_bastore, wp_aastore, wp_return, wp_ireturnI, wp_ireturnZ, wp_lreturn, wp_areturnO, wp_areturnA, wp_max, wp_min, wp_obj, wp_virt, wp_nil, ld_I0, ld_Is, ld_J0, ld_Js, ld_A0, ld_As, ha_0, ha_s, cx_put1, cx_put2, cx_dl, cx_tgt, true_and, and_true, Nat.reduceAdd, Nat.reduceSub, Int.reduceAdd, Int.reduceNeg, Int.reduceToNat, Int.reduceSub, Int.cast_ofNat_Int, List.take_succ_cons, List.take_zero, List.drop_succ_cons, List.drop_zero, List.take_nil, List.drop_nil, Option.toList_some, Option.toList_none, List.cons_append, List.nil_append, wp_spec, ne_eq, Nat.reduceEqDiff, not_false_eq_true, true_or, or_true]
      exact q
    induction r with
    | zero =>
      intro k g h1 h2 h3 G kg
      have gs := kg.s hs (by decide)
      obtain ⟨d, ed, sd, zd⟩ := G.g4_13 gs List.not_mem_nil
      refine bx_X5_giveAway_57 hY (pf2_ok hY) ?_
      simp only [wp_iconst, wp_bipush, wp_sipush, wp_ldc, wp_ldc2_w, wp_lconst0, wp_lconst1, wp_aconst_null, wp_iload_0, wp_istore_0, wp_iload_1, wp_istore_1, wp_iload_2, wp_istore_2, wp_iload_3, wp_istore_3, wp_iload, wp_istore, wp_lload_0, wp_lstore_0, wp_lload_1, wp_lstore_1, wp_lload_2, wp_lstore_2, wp_lload_3, wp_lstore_3, wp_lload, wp_lstore, wp_aload_0, wp_astore_0, wp_aload_1, wp_astore_1, wp_aload_2, wp_astore_2, wp_aload_3, wp_astore_3, wp_aload, wp_astore, wp_iinc, wp_iadd, wp_isub, wp_imul, wp_iand, wp_ior, wp_ixor, wp_ishl, wp_ishr, wp_iushr, wp_irem, wp_ladd, wp_lsub, wp_lmul, wp_land, wp_lor, wp_lxor, wp_lshl, wp_lshr, wp_lushr, wp_lrem, wp_lcmp, wp_i2l, wp_l2i, wp_dupI, wp_dupA, wp_dup2J, wp_dup2IA, wp_popI, wp_popA, wp_pop2, wp_goto, wp_if_eq, wp_icmp_eq, wp_if_ne, wp_icmp_ne, wp_if_lt, wp_icmp_lt, wp_if_ge, wp_icmp_ge, wp_if_gt, wp_icmp_gt, wp_if_le, wp_icmp_le, wp_ifnull, wp_ifnonnull, wp_acmp_eq, wp_acmp_ne, wp_tableswitch, wp_get0, wp_put0, wp_get1, wp_put1, wp_get2, wp_put2, wp_get3, wp_put3, wp_new, wp_newarray, wp_anewarray, wp_alen, wp_iaload, wp_laload, wp_baload, wp_aaload, wp_iastore, wp_lastore, wp_bastore, wp_aastore, wp_return, wp_ireturnI, wp_ireturnZ, wp_lreturn, wp_areturnO, wp_areturnA, wp_max, wp_min, wp_obj, wp_virt, wp_nil, ld_I0, ld_Is, ld_J0, ld_Js, ld_A0, ld_As, ha_0, ha_s, cx_put1, cx_put2, cx_dl, cx_tgt, true_and, and_true, Nat.reduceAdd, Nat.reduceSub, Int.reduceAdd, Int.reduceNeg, Int.reduceToNat, Int.reduceSub, Int.cast_ofNat_Int, List.take_succ_cons, List.take_zero, List.drop_succ_cons, List.drop_zero, List.take_nil, List.drop_nil, Option.toList_some, Option.toList_none, List.cons_append, List.nil_append, wp_spec, ne_eq, Nat.reduceEqDiff, not_false_eq_true, true_or, or_true, gs, ed, sd, zd, ra_181]
      exact ⟨by omega, fun _ => j81 _ _ (hK g G kg), fun q => absurd q (by omega)⟩
    | succ r ih =>
      intro k g h1 h2 h3 G kg
      have gs := kg.s hs (by decide)
      obtain ⟨d, ed, sd, zd⟩ := G.g4_13 gs List.not_mem_nil
      by_cases q : n ≤ k
      · refine bx_X5_giveAway_57 hY (pf2_ok hY) ?_
        simp only [wp_iconst, wp_bipush, wp_sipush, wp_ldc, wp_ldc2_w, wp_lconst0, wp_lconst1, wp_aconst_null, wp_iload_0, wp_istore_0, wp_iload_1, wp_istore_1, wp_iload_2, wp_istore_2, wp_iload_3, wp_istore_3, wp_iload, wp_istore, wp_lload_0, wp_lstore_0, wp_lload_1, wp_lstore_1, wp_lload_2, wp_lstore_2, wp_lload_3, wp_lstore_3, wp_lload, wp_lstore, wp_aload_0, wp_astore_0, wp_aload_1, wp_astore_1, wp_aload_2, wp_astore_2, wp_aload_3, wp_astore_3, wp_aload, wp_astore, wp_iinc, wp_iadd, wp_isub, wp_imul, wp_iand, wp_ior, wp_ixor, wp_ishl, wp_ishr, wp_iushr, wp_irem, wp_ladd, wp_lsub, wp_lmul, wp_land, wp_lor, wp_lxor, wp_lshl, wp_lshr, wp_lushr, wp_lrem, wp_lcmp, wp_i2l, wp_l2i, wp_dupI, wp_dupA, wp_dup2J, wp_dup2IA, wp_popI, wp_popA, wp_pop2, wp_goto, wp_if_eq, wp_icmp_eq, wp_if_ne, wp_icmp_ne, wp_if_lt, wp_icmp_lt, wp_if_ge, wp_icmp_ge, wp_if_gt, wp_icmp_gt, wp_if_le, wp_icmp_le, wp_ifnull, wp_ifnonnull, wp_acmp_eq, wp_acmp_ne, wp_tableswitch, wp_get0, wp_put0, wp_get1, wp_put1, wp_get2, wp_put2, wp_get3, wp_put3, wp_new, wp_newarray, wp_anewarray, wp_alen, wp_iaload, wp_laload, wp_baload, wp_aaload, wp_iastore, wp_lastore, wp_bastore, wp_aastore, wp_return, wp_ireturnI, wp_ireturnZ, wp_lreturn, wp_areturnO, wp_areturnA, wp_max, wp_min, wp_obj, wp_virt, wp_nil, ld_I0, ld_Is, ld_J0, ld_Js, ld_A0, ld_As, ha_0, ha_s, cx_put1, cx_put2, cx_dl, cx_tgt, true_and, and_true, Nat.reduceAdd, Nat.reduceSub, Int.reduceAdd, Int.reduceNeg, Int.reduceToNat, Int.reduceSub, Int.cast_ofNat_Int, List.take_succ_cons, List.take_zero, List.drop_succ_cons, List.drop_zero, List.take_nil, List.drop_nil, Option.toList_some, Option.toList_none, List.cons_append, List.nil_append, wp_spec, ne_eq, Nat.reduceEqDiff, not_false_eq_true, true_or, or_true, gs, ed, sd, zd, ra_181]
        exact ⟨by omega, fun _ => j81 _ _ (hK g G kg), fun w => absurd q w⟩
      · obtain ⟨b, eb, sb⟩ := G.g181 sd List.not_mem_nil h1 (by omega)
        refine bx_X5_giveAway_57 hY (pf2_ok hY) ?_
        simp only [wp_iconst, wp_bipush, wp_sipush, wp_ldc, wp_ldc2_w, wp_lconst0, wp_lconst1, wp_aconst_null, wp_iload_0, wp_istore_0, wp_iload_1, wp_istore_1, wp_iload_2, wp_istore_2, wp_iload_3, wp_istore_3, wp_iload, wp_istore, wp_lload_0, wp_lstore_0, wp_lload_1, wp_lstore_1, wp_lload_2, wp_lstore_2, wp_lload_3, wp_lstore_3, wp_lload, wp_lstore, wp_aload_0, wp_astore_0, wp_aload_1, wp_astore_1, wp_aload_2, wp_astore_2, wp_aload_3, wp_astore_3, wp_aload, wp_astore, wp_iinc, wp_iadd, wp_isub, wp_imul, wp_iand, wp_ior, wp_ixor, wp_ishl, wp_ishr, wp_iushr, wp_irem, wp_ladd, wp_lsub, wp_lmul, wp_land, wp_lor, wp_lxor, wp_lshl, wp_lshr, wp_lushr, wp_lrem, wp_lcmp, wp_i2l, wp_l2i, wp_dupI, wp_dupA, wp_dup2J, wp_dup2IA, wp_popI, wp_popA, wp_pop2, wp_goto, wp_if_eq, wp_icmp_eq, wp_if_ne, wp_icmp_ne, wp_if_lt, wp_icmp_lt, wp_if_ge, wp_icmp_ge, wp_if_gt, wp_icmp_gt, wp_if_le, wp_icmp_le, wp_ifnull, wp_ifnonnull, wp_acmp_eq, wp_acmp_ne, wp_tableswitch, wp_get0, wp_put0, wp_get1, wp_put1, wp_get2, wp_put2, wp_get3, wp_put3, wp_new, wp_newarray, wp_anewarray, wp_alen, wp_iaload, wp_laload, wp_baload, wp_aaload, wp_iastore, wp_lastore, wp_bastore, wp_aastore, wp_return, wp_ireturnI, wp_ireturnZ, wp_lreturn, wp_areturnO, wp_areturnA, wp_max, wp_min, wp_obj, wp_virt, wp_nil, ld_I0, ld_Is, ld_J0, ld_Js, ld_A0, ld_As, ha_0, ha_s, cx_put1, cx_put2, cx_dl, cx_tgt, true_and, and_true, Nat.reduceAdd, Nat.reduceSub, Int.reduceAdd, Int.reduceNeg, Int.reduceToNat, Int.reduceSub, Int.cast_ofNat_Int, List.take_succ_cons, List.take_zero, List.drop_succ_cons, List.drop_zero, List.take_nil, List.drop_nil, Option.toList_some, Option.toList_none, List.cons_append, List.nil_append, wp_spec, ne_eq, Nat.reduceEqDiff, not_false_eq_true, true_or, or_true, gs, ed, sd, zd, ra_181, eb]
        refine ⟨by omega, fun w => absurd w q, fun _ => ⟨by omega, ?_⟩⟩
        refine cl_X6_giveAway (Nat.le_of_ble_eq_true rfl) sb (Nat.le_refl _) (Nat.le_refl _) (e_X6_giveAway hY G sb (fun g2 G2 k2 => ?_))
        refine bx_X5_giveAway_75 hY (pf2_ok hY) ?_
        simp only [wp_iconst, wp_bipush, wp_sipush, wp_ldc, wp_ldc2_w, wp_lconst0, wp_lconst1, wp_aconst_null, wp_iload_0, wp_istore_0, wp_iload_1, wp_istore_1, wp_iload_2, wp_istore_2, wp_iload_3, wp_istore_3, wp_iload, wp_istore, wp_lload_0, wp_lstore_0, wp_lload_1, wp_lstore_1, wp_lload_2, wp_lstore_2, wp_lload_3, wp_lstore_3, wp_lload, wp_lstore, wp_aload_0, wp_astore_0, wp_aload_1, wp_astore_1, wp_aload_2, wp_astore_2, wp_aload_3, wp_astore_3, wp_aload, wp_astore, wp_iinc, wp_iadd, wp_isub, wp_imul, wp_iand, wp_ior, wp_ixor, wp_ishl, wp_ishr, wp_iushr, wp_irem, wp_ladd, wp_lsub, wp_lmul, wp_land, wp_lor, wp_lxor, wp_lshl, wp_lshr, wp_lushr, wp_lrem, wp_lcmp, wp_i2l, wp_l2i, wp_dupI, wp_dupA, wp_dup2J, wp_dup2IA, wp_popI, wp_popA, wp_pop2, wp_goto, wp_if_eq, wp_icmp_eq, wp_if_ne, wp_icmp_ne, wp_if_lt, wp_icmp_lt, wp_if_ge, wp_icmp_ge, wp_if_gt, wp_icmp_gt, wp_if_le, wp_icmp_le, wp_ifnull, wp_ifnonnull, wp_acmp_eq, wp_acmp_ne, wp_tableswitch, wp_get0, wp_put0, wp_get1, wp_put1, wp_get2, wp_put2, wp_get3, wp_put3, wp_new, wp_newarray, wp_anewarray, wp_alen, wp_iaload, wp_laload, wp_baload, wp_aaload, wp_iastore, wp_lastore, wp_bastore, wp_aastore, wp_return, wp_ireturnI, wp_ireturnZ, wp_lreturn, wp_areturnO, wp_areturnA, wp_max, wp_min, wp_obj, wp_virt, wp_nil, ld_I0, ld_Is, ld_J0, ld_Js, ld_A0, ld_As, ha_0, ha_s, cx_put1, cx_put2, cx_dl, cx_tgt, true_and, and_true, Nat.reduceAdd, Nat.reduceSub, Int.reduceAdd, Int.reduceNeg, Int.reduceToNat, Int.reduceSub, Int.cast_ofNat_Int, List.take_succ_cons, List.take_zero, List.drop_succ_cons, List.drop_zero, List.take_nil, List.drop_nil, Option.toList_some, Option.toList_none, List.cons_append, List.nil_append, wp_spec, ne_eq, Nat.reduceEqDiff, not_false_eq_true, true_or, or_true, cx_rg]
        exact ⟨by omega, ih (k + 1) g2 (by omega) (by omega) (by omega) G2 (kg.trans k2)⟩
  have l2 : ∀ (r : Nat) (k : Int) (g : cx_Q), 1 ≤ k → k ≤ 61 → 61 - k ≤ r → CI c n L Z E h0 [] g → ev h g → cw Y mi_X5_giveAway K 33 [some (.inr (.inr (some a))), some (.inl k)] [] g 0 0 := by
    intro r
    have j55 : ∀ g (k : Int), CI c n L Z E h0 [] g → ev h g → cw Y mi_X5_giveAway K 55 [some (.inr (.inr (some a))), some (.inl k)] [] g 0 0 := by
      intro g k G kg
      refine bx_X5_giveAway_55 hY (pf2_ok hY) ?_
      simp only [wp_iconst, wp_bipush, wp_sipush, wp_ldc, wp_ldc2_w, wp_lconst0, wp_lconst1, wp_aconst_null, wp_iload_0, wp_istore_0, wp_iload_1, wp_istore_1, wp_iload_2, wp_istore_2, wp_iload_3, wp_istore_3, wp_iload, wp_istore, wp_lload_0, wp_lstore_0, wp_lload_1, wp_lstore_1, wp_lload_2, wp_lstore_2, wp_lload_3, wp_lstore_3, wp_lload, wp_lstore, wp_aload_0, wp_astore_0, wp_aload_1, wp_astore_1, wp_aload_2, wp_astore_2, wp_aload_3, wp_astore_3, wp_aload, wp_astore, wp_iinc, wp_iadd, wp_isub, wp_imul, wp_iand, wp_ior, wp_ixor, wp_ishl, wp_ishr, wp_iushr, wp_irem, wp_ladd, wp_lsub, wp_lmul, wp_land, wp_lor, wp_lxor, wp_lshl, wp_lshr, wp_lushr, wp_lrem, wp_lcmp, wp_i2l, wp_l2i, wp_dupI, wp_dupA, wp_dup2J, wp_dup2IA, wp_popI, wp_popA, wp_pop2, wp_goto, wp_if_eq, wp_icmp_eq, wp_if_ne, wp_icmp_ne, wp_if_lt, wp_icmp_lt, wp_if_ge, wp_icmp_ge, wp_if_gt, wp_icmp_gt, wp_if_le, wp_icmp_le, wp_ifnull, wp_ifnonnull, wp_acmp_eq, wp_acmp_ne, wp_tableswitch, wp_get0, wp_put0, wp_get1, wp_put1, wp_get2, wp_put2, wp_get3, wp_put3, wp_new, wp_newarray, wp_anewarray, wp_alen, wp_iaload, wp_laload, wp_baload, wp_aaload, wp_iastore, wp_lastore, wp_bastore, wp_aastore, wp_return, wp_ireturnI, wp_ireturnZ, wp_lreturn, wp_areturnO, wp_areturnA, wp_max, wp_min, wp_obj, wp_virt, wp_nil, ld_I0, ld_Is, ld_J0, ld_Js, ld_A0, ld_As, ha_0, ha_s, cx_put1, cx_put2, cx_dl, cx_tgt, true_and, and_true, Nat.reduceAdd, Nat.reduceSub, Int.reduceAdd, Int.reduceNeg, Int.reduceToNat, Int.reduceSub, Int.cast_ofNat_Int, List.take_succ_cons, List.take_zero, List.drop_succ_cons, List.drop_zero, List.take_nil, List.drop_nil, Option.toList_some, Option.toList_none, List.cons_append, List.nil_append, wp_spec, ne_eq, Nat.reduceEqDiff, not_false_eq_true, true_or, or_true]
      exact l3 6 0 g (by omega) (by omega) (by omega) G kg
    induction r with
    | zero =>
      intro k g h1 h2 h3 G kg
      have gs := kg.s hs (by decide)
      have gi := G.i4_11 gs
      refine bx_X5_giveAway_33 hY (pf2_ok hY) ?_
      simp only [wp_iconst, wp_bipush, wp_sipush, wp_ldc, wp_ldc2_w, wp_lconst0, wp_lconst1, wp_aconst_null, wp_iload_0, wp_istore_0, wp_iload_1, wp_istore_1, wp_iload_2, wp_istore_2, wp_iload_3, wp_istore_3, wp_iload, wp_istore, wp_lload_0, wp_lstore_0, wp_lload_1, wp_lstore_1, wp_lload_2, wp_lstore_2, wp_lload_3, wp_lstore_3, wp_lload, wp_lstore, wp_aload_0, wp_astore_0, wp_aload_1, wp_astore_1, wp_aload_2, wp_astore_2, wp_aload_3, wp_astore_3, wp_aload, wp_astore, wp_iinc, wp_iadd, wp_isub, wp_imul, wp_iand, wp_ior, wp_ixor, wp_ishl, wp_ishr, wp_iushr, wp_irem, wp_ladd, wp_lsub, wp_lmul, wp_land, wp_lor, wp_lxor, wp_lshl, wp_lshr, wp_lushr, wp_lrem, wp_lcmp, wp_i2l, wp_l2i, wp_dupI, wp_dupA, wp_dup2J, wp_dup2IA, wp_popI, wp_popA, wp_pop2, wp_goto, wp_if_eq, wp_icmp_eq, wp_if_ne, wp_icmp_ne, wp_if_lt, wp_icmp_lt, wp_if_ge, wp_icmp_ge, wp_if_gt, wp_icmp_gt, wp_if_le, wp_icmp_le, wp_ifnull, wp_ifnonnull, wp_acmp_eq, wp_acmp_ne, wp_tableswitch, wp_get0, wp_put0, wp_get1, wp_put1, wp_get2, wp_put2, wp_get3, wp_put3, wp_new, wp_newarray, wp_anewarray, wp_alen, wp_iaload, wp_laload, wp_baload, wp_aaload, wp_iastore, wp_lastore, wp_bastore, wp_aastore, wp_return, wp_ireturnI, wp_ireturnZ, wp_lreturn, wp_areturnO, wp_areturnA, wp_max, wp_min, wp_obj, wp_virt, wp_nil, ld_I0, ld_Is, ld_J0, ld_Js, ld_A0, ld_As, ha_0, ha_s, cx_put1, cx_put2, cx_dl, cx_tgt, true_and, and_true, Nat.reduceAdd, Nat.reduceSub, Int.reduceAdd, Int.reduceNeg, Int.reduceToNat, Int.reduceSub, Int.cast_ofNat_Int, List.take_succ_cons, List.take_zero, List.drop_succ_cons, List.drop_zero, List.take_nil, List.drop_nil, Option.toList_some, Option.toList_none, List.cons_append, List.nil_append, wp_spec, ne_eq, Nat.reduceEqDiff, not_false_eq_true, true_or, or_true, gs]
      exact ⟨fun _ => j55 g k G kg, fun q => absurd q (by omega)⟩
    | succ r ih =>
      intro k g h1 h2 h3 G kg
      have gs := kg.s hs (by decide)
      have gi := G.i4_11 gs
      refine bx_X5_giveAway_33 hY (pf2_ok hY) ?_
      simp only [wp_iconst, wp_bipush, wp_sipush, wp_ldc, wp_ldc2_w, wp_lconst0, wp_lconst1, wp_aconst_null, wp_iload_0, wp_istore_0, wp_iload_1, wp_istore_1, wp_iload_2, wp_istore_2, wp_iload_3, wp_istore_3, wp_iload, wp_istore, wp_lload_0, wp_lstore_0, wp_lload_1, wp_lstore_1, wp_lload_2, wp_lstore_2, wp_lload_3, wp_lstore_3, wp_lload, wp_lstore, wp_aload_0, wp_astore_0, wp_aload_1, wp_astore_1, wp_aload_2, wp_astore_2, wp_aload_3, wp_astore_3, wp_aload, wp_astore, wp_iinc, wp_iadd, wp_isub, wp_imul, wp_iand, wp_ior, wp_ixor, wp_ishl, wp_ishr, wp_iushr, wp_irem, wp_ladd, wp_lsub, wp_lmul, wp_land, wp_lor, wp_lxor, wp_lshl, wp_lshr, wp_lushr, wp_lrem, wp_lcmp, wp_i2l, wp_l2i, wp_dupI, wp_dupA, wp_dup2J, wp_dup2IA, wp_popI, wp_popA, wp_pop2, wp_goto, wp_if_eq, wp_icmp_eq, wp_if_ne, wp_icmp_ne, wp_if_lt, wp_icmp_lt, wp_if_ge, wp_icmp_ge, wp_if_gt, wp_icmp_gt, wp_if_le, wp_icmp_le, wp_ifnull, wp_ifnonnull, wp_acmp_eq, wp_acmp_ne, wp_tableswitch, wp_get0, wp_put0, wp_get1, wp_put1, wp_get2, wp_put2, wp_get3, wp_put3, wp_new, wp_newarray, wp_anewarray, wp_alen, wp_iaload, wp_laload, wp_baload, wp_aaload, wp_iastore, wp_lastore, wp_bastore, wp_aastore, wp_return, wp_ireturnI, wp_ireturnZ, wp_lreturn, wp_areturnO, wp_areturnA, wp_max, wp_min, wp_obj, wp_virt, wp_nil, ld_I0, ld_Is, ld_J0, ld_Js, ld_A0, ld_As, ha_0, ha_s, cx_put1, cx_put2, cx_dl, cx_tgt, true_and, and_true, Nat.reduceAdd, Nat.reduceSub, Int.reduceAdd, Int.reduceNeg, Int.reduceToNat, Int.reduceSub, Int.cast_ofNat_Int, List.take_succ_cons, List.take_zero, List.drop_succ_cons, List.drop_zero, List.take_nil, List.drop_nil, Option.toList_some, Option.toList_none, List.cons_append, List.nil_append, wp_spec, ne_eq, Nat.reduceEqDiff, not_false_eq_true, true_or, or_true, gs]
      refine ⟨fun _ => j55 g k G kg, fun q => ?_⟩
      refine cl_X5_keptOnceKey (Nat.le_of_ble_eq_true rfl) gs (Nat.le_refl _) (Nat.le_refl _) (c_X5_keptOnceKey hY G List.not_mem_nil gs (fun o ho => ?_))
      refine bx_X5_giveAway_46 hY (pf2_ok hY) ?_
      simp only [wp_iconst, wp_bipush, wp_sipush, wp_ldc, wp_ldc2_w, wp_lconst0, wp_lconst1, wp_aconst_null, wp_iload_0, wp_istore_0, wp_iload_1, wp_istore_1, wp_iload_2, wp_istore_2, wp_iload_3, wp_istore_3, wp_iload, wp_istore, wp_lload_0, wp_lstore_0, wp_lload_1, wp_lstore_1, wp_lload_2, wp_lstore_2, wp_lload_3, wp_lstore_3, wp_lload, wp_lstore, wp_aload_0, wp_astore_0, wp_aload_1, wp_astore_1, wp_aload_2, wp_astore_2, wp_aload_3, wp_astore_3, wp_aload, wp_astore, wp_iinc, wp_iadd, wp_isub, wp_imul, wp_iand, wp_ior, wp_ixor, wp_ishl, wp_ishr, wp_iushr, wp_irem, wp_ladd, wp_lsub, wp_lmul, wp_land, wp_lor, wp_lxor, wp_lshl, wp_lshr, wp_lushr, wp_lrem, wp_lcmp, wp_i2l, wp_l2i, wp_dupI, wp_dupA, wp_dup2J, wp_dup2IA, wp_popI, wp_popA, wp_pop2, wp_goto, wp_if_eq, wp_icmp_eq, wp_if_ne, wp_icmp_ne, wp_if_lt, wp_icmp_lt, wp_if_ge, wp_icmp_ge, wp_if_gt, wp_icmp_gt, wp_if_le, wp_icmp_le, wp_ifnull, wp_ifnonnull, wp_acmp_eq, wp_acmp_ne, wp_tableswitch, wp_get0, wp_put0, wp_get1, wp_put1, wp_get2, wp_put2, wp_get3, wp_put3, wp_new, wp_newarray, wp_anewarray, wp_alen, wp_iaload, wp_laload, wp_baload, wp_aaload, wp_iastore, wp_lastore, wp_bastore, wp_aastore, wp_return, wp_ireturnI, wp_ireturnZ, wp_lreturn, wp_areturnO, wp_areturnA, wp_max, wp_min, wp_obj, wp_virt, wp_nil, ld_I0, ld_Is, ld_J0, ld_Js, ld_A0, ld_As, ha_0, ha_s, cx_put1, cx_put2, cx_dl, cx_tgt, true_and, and_true, Nat.reduceAdd, Nat.reduceSub, Int.reduceAdd, Int.reduceNeg, Int.reduceToNat, Int.reduceSub, Int.cast_ofNat_Int, List.take_succ_cons, List.take_zero, List.drop_succ_cons, List.drop_zero, List.take_nil, List.drop_nil, Option.toList_some, Option.toList_none, List.cons_append, List.nil_append, wp_spec, ne_eq, Nat.reduceEqDiff, not_false_eq_true, true_or, or_true]
      refine cl_X7_give (Nat.le_of_ble_eq_true rfl) (Nat.le_refl _) (Nat.le_refl _) (e_X7_give hY G ho (fun g2 G2 k2 => ?_))
      refine bx_X5_giveAway_49 hY (pf2_ok hY) ?_
      simp only [wp_iconst, wp_bipush, wp_sipush, wp_ldc, wp_ldc2_w, wp_lconst0, wp_lconst1, wp_aconst_null, wp_iload_0, wp_istore_0, wp_iload_1, wp_istore_1, wp_iload_2, wp_istore_2, wp_iload_3, wp_istore_3, wp_iload, wp_istore, wp_lload_0, wp_lstore_0, wp_lload_1, wp_lstore_1, wp_lload_2, wp_lstore_2, wp_lload_3, wp_lstore_3, wp_lload, wp_lstore, wp_aload_0, wp_astore_0, wp_aload_1, wp_astore_1, wp_aload_2, wp_astore_2, wp_aload_3, wp_astore_3, wp_aload, wp_astore, wp_iinc, wp_iadd, wp_isub, wp_imul, wp_iand, wp_ior, wp_ixor, wp_ishl, wp_ishr, wp_iushr, wp_irem, wp_ladd, wp_lsub, wp_lmul, wp_land, wp_lor, wp_lxor, wp_lshl, wp_lshr, wp_lushr, wp_lrem, wp_lcmp, wp_i2l, wp_l2i, wp_dupI, wp_dupA, wp_dup2J, wp_dup2IA, wp_popI, wp_popA, wp_pop2, wp_goto, wp_if_eq, wp_icmp_eq, wp_if_ne, wp_icmp_ne, wp_if_lt, wp_icmp_lt, wp_if_ge, wp_icmp_ge, wp_if_gt, wp_icmp_gt, wp_if_le, wp_icmp_le, wp_ifnull, wp_ifnonnull, wp_acmp_eq, wp_acmp_ne, wp_tableswitch, wp_get0, wp_put0, wp_get1, wp_put1, wp_get2, wp_put2, wp_get3, wp_put3, wp_new, wp_newarray, wp_anewarray, wp_alen, wp_iaload, wp_laload, wp_baload, wp_aaload, wp_iastore, wp_lastore, wp_bastore, wp_aastore, wp_return, wp_ireturnI, wp_ireturnZ, wp_lreturn, wp_areturnO, wp_areturnA, wp_max, wp_min, wp_obj, wp_virt, wp_nil, ld_I0, ld_Is, ld_J0, ld_Js, ld_A0, ld_As, ha_0, ha_s, cx_put1, cx_put2, cx_dl, cx_tgt, true_and, and_true, Nat.reduceAdd, Nat.reduceSub, Int.reduceAdd, Int.reduceNeg, Int.reduceToNat, Int.reduceSub, Int.cast_ofNat_Int, List.take_succ_cons, List.take_zero, List.drop_succ_cons, List.drop_zero, List.take_nil, List.drop_nil, Option.toList_some, Option.toList_none, List.cons_append, List.nil_append, wp_spec, ne_eq, Nat.reduceEqDiff, not_false_eq_true, true_or, or_true, cx_rg]
      exact ⟨by omega, ih (k + 1) g2 (by omega) (by omega) (by omega) G2 (kg.trans k2)⟩
  have l1 : ∀ (r : Nat) (k : Int) (g : cx_Q), 1 ≤ k → k ≤ 21 → 21 - k ≤ r → CI c n L Z E h0 [] g → ev h g → cw Y mi_X5_giveAway K 9 [some (.inr (.inr (some a))), some (.inl k)] [] g 0 0 := by
    intro r
    have j31 : ∀ g (k : Int), CI c n L Z E h0 [] g → ev h g → cw Y mi_X5_giveAway K 31 [some (.inr (.inr (some a))), some (.inl k)] [] g 0 0 := by
      intro g k G kg
      refine bx_X5_giveAway_31 hY (pf2_ok hY) ?_
      simp only [wp_iconst, wp_bipush, wp_sipush, wp_ldc, wp_ldc2_w, wp_lconst0, wp_lconst1, wp_aconst_null, wp_iload_0, wp_istore_0, wp_iload_1, wp_istore_1, wp_iload_2, wp_istore_2, wp_iload_3, wp_istore_3, wp_iload, wp_istore, wp_lload_0, wp_lstore_0, wp_lload_1, wp_lstore_1, wp_lload_2, wp_lstore_2, wp_lload_3, wp_lstore_3, wp_lload, wp_lstore, wp_aload_0, wp_astore_0, wp_aload_1, wp_astore_1, wp_aload_2, wp_astore_2, wp_aload_3, wp_astore_3, wp_aload, wp_astore, wp_iinc, wp_iadd, wp_isub, wp_imul, wp_iand, wp_ior, wp_ixor, wp_ishl, wp_ishr, wp_iushr, wp_irem, wp_ladd, wp_lsub, wp_lmul, wp_land, wp_lor, wp_lxor, wp_lshl, wp_lshr, wp_lushr, wp_lrem, wp_lcmp, wp_i2l, wp_l2i, wp_dupI, wp_dupA, wp_dup2J, wp_dup2IA, wp_popI, wp_popA, wp_pop2, wp_goto, wp_if_eq, wp_icmp_eq, wp_if_ne, wp_icmp_ne, wp_if_lt, wp_icmp_lt, wp_if_ge, wp_icmp_ge, wp_if_gt, wp_icmp_gt, wp_if_le, wp_icmp_le, wp_ifnull, wp_ifnonnull, wp_acmp_eq, wp_acmp_ne, wp_tableswitch, wp_get0, wp_put0, wp_get1, wp_put1, wp_get2, wp_put2, wp_get3, wp_put3, wp_new, wp_newarray, wp_anewarray, wp_alen, wp_iaload, wp_laload, wp_baload, wp_aaload, wp_iastore, wp_lastore, wp_bastore, wp_aastore, wp_return, wp_ireturnI, wp_ireturnZ, wp_lreturn, wp_areturnO, wp_areturnA, wp_max, wp_min, wp_obj, wp_virt, wp_nil, ld_I0, ld_Is, ld_J0, ld_Js, ld_A0, ld_As, ha_0, ha_s, cx_put1, cx_put2, cx_dl, cx_tgt, true_and, and_true, Nat.reduceAdd, Nat.reduceSub, Int.reduceAdd, Int.reduceNeg, Int.reduceToNat, Int.reduceSub, Int.cast_ofNat_Int, List.take_succ_cons, List.take_zero, List.drop_succ_cons, List.drop_zero, List.take_nil, List.drop_nil, Option.toList_some, Option.toList_none, List.cons_append, List.nil_append, wp_spec, ne_eq, Nat.reduceEqDiff, not_false_eq_true, true_or, or_true]
      exact l2 60 1 g (by omega) (by omega) (by omega) G kg
    induction r with
    | zero =>
      intro k g h1 h2 h3 G kg
      have gs := kg.s hs (by decide)
      have gi := G.i4_4 gs
      refine bx_X5_giveAway_9 hY (pf2_ok hY) ?_
      simp only [wp_iconst, wp_bipush, wp_sipush, wp_ldc, wp_ldc2_w, wp_lconst0, wp_lconst1, wp_aconst_null, wp_iload_0, wp_istore_0, wp_iload_1, wp_istore_1, wp_iload_2, wp_istore_2, wp_iload_3, wp_istore_3, wp_iload, wp_istore, wp_lload_0, wp_lstore_0, wp_lload_1, wp_lstore_1, wp_lload_2, wp_lstore_2, wp_lload_3, wp_lstore_3, wp_lload, wp_lstore, wp_aload_0, wp_astore_0, wp_aload_1, wp_astore_1, wp_aload_2, wp_astore_2, wp_aload_3, wp_astore_3, wp_aload, wp_astore, wp_iinc, wp_iadd, wp_isub, wp_imul, wp_iand, wp_ior, wp_ixor, wp_ishl, wp_ishr, wp_iushr, wp_irem, wp_ladd, wp_lsub, wp_lmul, wp_land, wp_lor, wp_lxor, wp_lshl, wp_lshr, wp_lushr, wp_lrem, wp_lcmp, wp_i2l, wp_l2i, wp_dupI, wp_dupA, wp_dup2J, wp_dup2IA, wp_popI, wp_popA, wp_pop2, wp_goto, wp_if_eq, wp_icmp_eq, wp_if_ne, wp_icmp_ne, wp_if_lt, wp_icmp_lt, wp_if_ge, wp_icmp_ge, wp_if_gt, wp_icmp_gt, wp_if_le, wp_icmp_le, wp_ifnull, wp_ifnonnull, wp_acmp_eq, wp_acmp_ne, wp_tableswitch, wp_get0, wp_put0, wp_get1, wp_put1, wp_get2, wp_put2, wp_get3, wp_put3, wp_new, wp_newarray, wp_anewarray, wp_alen, wp_iaload, wp_laload, wp_baload, wp_aaload, wp_iastore, wp_lastore, wp_bastore, wp_aastore, wp_return, wp_ireturnI, wp_ireturnZ, wp_lreturn, wp_areturnO, wp_areturnA, wp_max, wp_min, wp_obj, wp_virt, wp_nil, ld_I0, ld_Is, ld_J0, ld_Js, ld_A0, ld_As, ha_0, ha_s, cx_put1, cx_put2, cx_dl, cx_tgt, true_and, and_true, Nat.reduceAdd, Nat.reduceSub, Int.reduceAdd, Int.reduceNeg, Int.reduceToNat, Int.reduceSub, Int.cast_ofNat_Int, List.take_succ_cons, List.take_zero, List.drop_succ_cons, List.drop_zero, List.take_nil, List.drop_nil, Option.toList_some, Option.toList_none, List.cons_append, List.nil_append, wp_spec, ne_eq, Nat.reduceEqDiff, not_false_eq_true, true_or, or_true, gs]
      exact ⟨fun _ => j31 g k G kg, fun q => absurd q (by omega)⟩
    | succ r ih =>
      intro k g h1 h2 h3 G kg
      have gs := kg.s hs (by decide)
      have gi := G.i4_4 gs
      refine bx_X5_giveAway_9 hY (pf2_ok hY) ?_
      simp only [wp_iconst, wp_bipush, wp_sipush, wp_ldc, wp_ldc2_w, wp_lconst0, wp_lconst1, wp_aconst_null, wp_iload_0, wp_istore_0, wp_iload_1, wp_istore_1, wp_iload_2, wp_istore_2, wp_iload_3, wp_istore_3, wp_iload, wp_istore, wp_lload_0, wp_lstore_0, wp_lload_1, wp_lstore_1, wp_lload_2, wp_lstore_2, wp_lload_3, wp_lstore_3, wp_lload, wp_lstore, wp_aload_0, wp_astore_0, wp_aload_1, wp_astore_1, wp_aload_2, wp_astore_2, wp_aload_3, wp_astore_3, wp_aload, wp_astore, wp_iinc, wp_iadd, wp_isub, wp_imul, wp_iand, wp_ior, wp_ixor, wp_ishl, wp_ishr, wp_iushr, wp_irem, wp_ladd, wp_lsub, wp_lmul, wp_land, wp_lor, wp_lxor, wp_lshl, wp_lshr, wp_lushr, wp_lrem, wp_lcmp, wp_i2l, wp_l2i, wp_dupI, wp_dupA, wp_dup2J, wp_dup2IA, wp_popI, wp_popA, wp_pop2, wp_goto, wp_if_eq, wp_icmp_eq, wp_if_ne, wp_icmp_ne, wp_if_lt, wp_icmp_lt, wp_if_ge, wp_icmp_ge, wp_if_gt, wp_icmp_gt, wp_if_le, wp_icmp_le, wp_ifnull, wp_ifnonnull, wp_acmp_eq, wp_acmp_ne, wp_tableswitch, wp_get0, wp_put0, wp_get1, wp_put1, wp_get2, wp_put2, wp_get3, wp_put3, wp_new, wp_newarray, wp_anewarray, wp_alen, wp_iaload, wp_laload, wp_baload, wp_aaload, wp_iastore, wp_lastore, wp_bastore, wp_aastore, wp_return, wp_ireturnI, wp_ireturnZ, wp_lreturn, wp_areturnO, wp_areturnA, wp_max, wp_min, wp_obj, wp_virt, wp_nil, ld_I0, ld_Is, ld_J0, ld_Js, ld_A0, ld_As, ha_0, ha_s, cx_put1, cx_put2, cx_dl, cx_tgt, true_and, and_true, Nat.reduceAdd, Nat.reduceSub, Int.reduceAdd, Int.reduceNeg, Int.reduceToNat, Int.reduceSub, Int.cast_ofNat_Int, List.take_succ_cons, List.take_zero, List.drop_succ_cons, List.drop_zero, List.take_nil, List.drop_nil, Option.toList_some, Option.toList_none, List.cons_append, List.nil_append, wp_spec, ne_eq, Nat.reduceEqDiff, not_false_eq_true, true_or, or_true, gs]
      refine ⟨fun _ => j31 g k G kg, fun q => ?_⟩
      refine cl_X5_keptLentKey (Nat.le_of_ble_eq_true rfl) gs (Nat.le_refl _) (Nat.le_refl _) (c_X5_keptLentKey hY G List.not_mem_nil gs (fun o ho => ?_))
      refine bx_X5_giveAway_22 hY (pf2_ok hY) ?_
      simp only [wp_iconst, wp_bipush, wp_sipush, wp_ldc, wp_ldc2_w, wp_lconst0, wp_lconst1, wp_aconst_null, wp_iload_0, wp_istore_0, wp_iload_1, wp_istore_1, wp_iload_2, wp_istore_2, wp_iload_3, wp_istore_3, wp_iload, wp_istore, wp_lload_0, wp_lstore_0, wp_lload_1, wp_lstore_1, wp_lload_2, wp_lstore_2, wp_lload_3, wp_lstore_3, wp_lload, wp_lstore, wp_aload_0, wp_astore_0, wp_aload_1, wp_astore_1, wp_aload_2, wp_astore_2, wp_aload_3, wp_astore_3, wp_aload, wp_astore, wp_iinc, wp_iadd, wp_isub, wp_imul, wp_iand, wp_ior, wp_ixor, wp_ishl, wp_ishr, wp_iushr, wp_irem, wp_ladd, wp_lsub, wp_lmul, wp_land, wp_lor, wp_lxor, wp_lshl, wp_lshr, wp_lushr, wp_lrem, wp_lcmp, wp_i2l, wp_l2i, wp_dupI, wp_dupA, wp_dup2J, wp_dup2IA, wp_popI, wp_popA, wp_pop2, wp_goto, wp_if_eq, wp_icmp_eq, wp_if_ne, wp_icmp_ne, wp_if_lt, wp_icmp_lt, wp_if_ge, wp_icmp_ge, wp_if_gt, wp_icmp_gt, wp_if_le, wp_icmp_le, wp_ifnull, wp_ifnonnull, wp_acmp_eq, wp_acmp_ne, wp_tableswitch, wp_get0, wp_put0, wp_get1, wp_put1, wp_get2, wp_put2, wp_get3, wp_put3, wp_new, wp_newarray, wp_anewarray, wp_alen, wp_iaload, wp_laload, wp_baload, wp_aaload, wp_iastore, wp_lastore, wp_bastore, wp_aastore, wp_return, wp_ireturnI, wp_ireturnZ, wp_lreturn, wp_areturnO, wp_areturnA, wp_max, wp_min, wp_obj, wp_virt, wp_nil, ld_I0, ld_Is, ld_J0, ld_Js, ld_A0, ld_As, ha_0, ha_s, cx_put1, cx_put2, cx_dl, cx_tgt, true_and, and_true, Nat.reduceAdd, Nat.reduceSub, Int.reduceAdd, Int.reduceNeg, Int.reduceToNat, Int.reduceSub, Int.cast_ofNat_Int, List.take_succ_cons, List.take_zero, List.drop_succ_cons, List.drop_zero, List.take_nil, List.drop_nil, Option.toList_some, Option.toList_none, List.cons_append, List.nil_append, wp_spec, ne_eq, Nat.reduceEqDiff, not_false_eq_true, true_or, or_true]
      refine cl_X7_give (Nat.le_of_ble_eq_true rfl) (Nat.le_refl _) (Nat.le_refl _) (e_X7_give hY G ho (fun g2 G2 k2 => ?_))
      refine bx_X5_giveAway_25 hY (pf2_ok hY) ?_
      simp only [wp_iconst, wp_bipush, wp_sipush, wp_ldc, wp_ldc2_w, wp_lconst0, wp_lconst1, wp_aconst_null, wp_iload_0, wp_istore_0, wp_iload_1, wp_istore_1, wp_iload_2, wp_istore_2, wp_iload_3, wp_istore_3, wp_iload, wp_istore, wp_lload_0, wp_lstore_0, wp_lload_1, wp_lstore_1, wp_lload_2, wp_lstore_2, wp_lload_3, wp_lstore_3, wp_lload, wp_lstore, wp_aload_0, wp_astore_0, wp_aload_1, wp_astore_1, wp_aload_2, wp_astore_2, wp_aload_3, wp_astore_3, wp_aload, wp_astore, wp_iinc, wp_iadd, wp_isub, wp_imul, wp_iand, wp_ior, wp_ixor, wp_ishl, wp_ishr, wp_iushr, wp_irem, wp_ladd, wp_lsub, wp_lmul, wp_land, wp_lor, wp_lxor, wp_lshl, wp_lshr, wp_lushr, wp_lrem, wp_lcmp, wp_i2l, wp_l2i, wp_dupI, wp_dupA, wp_dup2J, wp_dup2IA, wp_popI, wp_popA, wp_pop2, wp_goto, wp_if_eq, wp_icmp_eq, wp_if_ne, wp_icmp_ne, wp_if_lt, wp_icmp_lt, wp_if_ge, wp_icmp_ge, wp_if_gt, wp_icmp_gt, wp_if_le, wp_icmp_le, wp_ifnull, wp_ifnonnull, wp_acmp_eq, wp_acmp_ne, wp_tableswitch, wp_get0, wp_put0, wp_get1, wp_put1, wp_get2, wp_put2, wp_get3, wp_put3, wp_new, wp_newarray, wp_anewarray, wp_alen, wp_iaload, wp_laload, wp_baload, wp_aaload, wp_iastore, wp_lastore, wp_bastore, wp_aastore, wp_return, wp_ireturnI, wp_ireturnZ, wp_lreturn, wp_areturnO, wp_areturnA, wp_max, wp_min, wp_obj, wp_virt, wp_nil, ld_I0, ld_Is, ld_J0, ld_Js, ld_A0, ld_As, ha_0, ha_s, cx_put1, cx_put2, cx_dl, cx_tgt, true_and, and_true, Nat.reduceAdd, Nat.reduceSub, Int.reduceAdd, Int.reduceNeg, Int.reduceToNat, Int.reduceSub, Int.cast_ofNat_Int, List.take_succ_cons, List.take_zero, List.drop_succ_cons, List.drop_zero, List.take_nil, List.drop_nil, Option.toList_some, Option.toList_none, List.cons_append, List.nil_append, wp_spec, ne_eq, Nat.reduceEqDiff, not_false_eq_true, true_or, or_true, cx_rg]
      exact ⟨by omega, ih (k + 1) g2 (by omega) (by omega) (by omega) G2 (kg.trans k2)⟩
  refine bx_X5_giveAway_0 hY (pf2_ok hY) ?_
  simp only [wp_iconst, wp_bipush, wp_sipush, wp_ldc, wp_ldc2_w, wp_lconst0, wp_lconst1, wp_aconst_null, wp_iload_0, wp_istore_0, wp_iload_1, wp_istore_1, wp_iload_2, wp_istore_2, wp_iload_3, wp_istore_3, wp_iload, wp_istore, wp_lload_0, wp_lstore_0, wp_lload_1, wp_lstore_1, wp_lload_2, wp_lstore_2, wp_lload_3, wp_lstore_3, wp_lload, wp_lstore, wp_aload_0, wp_astore_0, wp_aload_1, wp_astore_1, wp_aload_2, wp_astore_2, wp_aload_3, wp_astore_3, wp_aload, wp_astore, wp_iinc, wp_iadd, wp_isub, wp_imul, wp_iand, wp_ior, wp_ixor, wp_ishl, wp_ishr, wp_iushr, wp_irem, wp_ladd, wp_lsub, wp_lmul, wp_land, wp_lor, wp_lxor, wp_lshl, wp_lshr, wp_lushr, wp_lrem, wp_lcmp, wp_i2l, wp_l2i, wp_dupI, wp_dupA, wp_dup2J, wp_dup2IA, wp_popI, wp_popA, wp_pop2, wp_goto, wp_if_eq, wp_icmp_eq, wp_if_ne, wp_icmp_ne, wp_if_lt, wp_icmp_lt, wp_if_ge, wp_icmp_ge, wp_if_gt, wp_icmp_gt, wp_if_le, wp_icmp_le, wp_ifnull, wp_ifnonnull, wp_acmp_eq, wp_acmp_ne, wp_tableswitch, wp_get0, wp_put0, wp_get1, wp_put1, wp_get2, wp_put2, wp_get3, wp_put3, wp_new, wp_newarray, wp_anewarray, wp_alen, wp_iaload, wp_laload, wp_baload, wp_aaload, wp_iastore, wp_lastore, wp_bastore, wp_aastore, wp_return, wp_ireturnI, wp_ireturnZ, wp_lreturn, wp_areturnO, wp_areturnA, wp_max, wp_min, wp_obj, wp_virt, wp_nil, ld_I0, ld_Is, ld_J0, ld_Js, ld_A0, ld_As, ha_0, ha_s, cx_put1, cx_put2, cx_dl, cx_tgt, true_and, and_true, Nat.reduceAdd, Nat.reduceSub, Int.reduceAdd, Int.reduceNeg, Int.reduceToNat, Int.reduceSub, Int.cast_ofNat_Int, List.take_succ_cons, List.take_zero, List.drop_succ_cons, List.drop_zero, List.take_nil, List.drop_nil, Option.toList_some, Option.toList_none, List.cons_append, List.nil_append, wp_spec, ne_eq, Nat.reduceEqDiff, not_false_eq_true, true_or, or_true, hs]
  refine cl_X7_give (Nat.le_of_ble_eq_true rfl) (Nat.le_refl _) (Nat.le_refl _) (e_X7_give hY H (fun b q => H.ta (j := 3) hs (own_9 (by decide)) q) (fun g G kg => ?_))
  refine bx_X5_giveAway_7 hY (pf2_ok hY) ?_
  simp only [wp_iconst, wp_bipush, wp_sipush, wp_ldc, wp_ldc2_w, wp_lconst0, wp_lconst1, wp_aconst_null, wp_iload_0, wp_istore_0, wp_iload_1, wp_istore_1, wp_iload_2, wp_istore_2, wp_iload_3, wp_istore_3, wp_iload, wp_istore, wp_lload_0, wp_lstore_0, wp_lload_1, wp_lstore_1, wp_lload_2, wp_lstore_2, wp_lload_3, wp_lstore_3, wp_lload, wp_lstore, wp_aload_0, wp_astore_0, wp_aload_1, wp_astore_1, wp_aload_2, wp_astore_2, wp_aload_3, wp_astore_3, wp_aload, wp_astore, wp_iinc, wp_iadd, wp_isub, wp_imul, wp_iand, wp_ior, wp_ixor, wp_ishl, wp_ishr, wp_iushr, wp_irem, wp_ladd, wp_lsub, wp_lmul, wp_land, wp_lor, wp_lxor, wp_lshl, wp_lshr, wp_lushr, wp_lrem, wp_lcmp, wp_i2l, wp_l2i, wp_dupI, wp_dupA, wp_dup2J, wp_dup2IA, wp_popI, wp_popA, wp_pop2, wp_goto, wp_if_eq, wp_icmp_eq, wp_if_ne, wp_icmp_ne, wp_if_lt, wp_icmp_lt, wp_if_ge, wp_icmp_ge, wp_if_gt, wp_icmp_gt, wp_if_le, wp_icmp_le, wp_ifnull, wp_ifnonnull, wp_acmp_eq, wp_acmp_ne, wp_tableswitch, wp_get0, wp_put0, wp_get1, wp_put1, wp_get2, wp_put2, wp_get3, wp_put3, wp_new, wp_newarray, wp_anewarray, wp_alen, wp_iaload, wp_laload, wp_baload, wp_aaload, wp_iastore, wp_lastore, wp_bastore, wp_aastore, wp_return, wp_ireturnI, wp_ireturnZ, wp_lreturn, wp_areturnO, wp_areturnA, wp_max, wp_min, wp_obj, wp_virt, wp_nil, ld_I0, ld_Is, ld_J0, ld_Js, ld_A0, ld_As, ha_0, ha_s, cx_put1, cx_put2, cx_dl, cx_tgt, true_and, and_true, Nat.reduceAdd, Nat.reduceSub, Int.reduceAdd, Int.reduceNeg, Int.reduceToNat, Int.reduceSub, Int.cast_ofNat_Int, List.take_succ_cons, List.take_zero, List.drop_succ_cons, List.drop_zero, List.take_nil, List.drop_nil, Option.toList_some, Option.toList_none, List.cons_append, List.nil_append, wp_spec, ne_eq, Nat.reduceEqDiff, not_false_eq_true, true_or, or_true]
  exact l1 20 1 g (by omega) (by omega) (by omega) G kg
end
