/-! class and reference side by side: bytes of numbers, of a text behind its veil -/
theorem by8_uu {v : Int64} (n : Nat) (hn : n ≤ 7) : by8 v (n : Int) = ((uu v / 2 ^ (8 * n) % 256 : Nat) : Int) := by
  unfold by8
  have e : cx_lus v (Int32.ofInt (8 * (n : Int))) &&& Int64.ofInt 255 = Int64.ofInt ((uu v / 2 ^ (8 * n) % 256 : Nat) : Int) := by
    apply uu_inj
    have t : uu (cx_lus v (Int32.ofInt (8 * (n : Int)))) = uu v / 2 ^ (8 * n) := lus_l (8 * n) (by omega) (by omega)
    have t2 : uu (Int64.ofInt 255) = 255 := by decide
    rw [uu_and, t, t2, uu_of (by omega), and_m _ 8 rfl]
  rw [e, two_i (by omega) (by omega)]
theorem and255_n {a : Int} : cx_and a 255 = (((Int32.ofInt a).toBitVec.toNat % 256 : Nat) : Int) := by
  have e1 : Int32.ofInt a &&& Int32.ofInt 255 = Int32.ofInt (((Int32.ofInt a).toBitVec.toNat % 256 : Nat) : Int) := by
    apply Int32.toBitVec_inj.mp
    rw [Int32.toBitVec_and]
    apply BitVec.eq_of_toNat_eq
    rw [BitVec.toNat_and]
    have e2 : (Int32.ofInt 255).toBitVec.toNat = 2 ^ 8 - 1 := by decide
    rw [e2, Nat.and_two_pow_sub_one_eq_mod]
    show _ = (BitVec.ofInt 32 _).toNat
    rw [BitVec.ofInt_natCast, BitVec.toNat_ofNat]
    exact (Nat.mod_eq_of_lt (by omega)).symm
  show (Int32.ofInt a &&& Int32.ofInt 255).toInt = _
  rw [e1]
  exact Int32.toInt_ofInt_of_le (by first | (simp; done) | (simp; omega)) (by first | (simp; done) | (simp; omega))
theorem and255_u {w : Int64} : cx_and w.toInt32.toInt 255 = ((uu w % 256 : Nat) : Int) := by
  rw [and255_n, Int32.ofInt_toInt]
  have e : w.toInt32.toBitVec.toNat = uu w % 4294967296 := by
    show (BitVec.signExtend 32 w.toBitVec).toNat = _
    rw [BitVec.signExtend_eq_setWidth_of_le _ (by decide), BitVec.toNat_setWidth]
    rfl
  rw [e]
  omega
theorem ssr_8 {v : BitVec 64} (n : Nat) (hn : n ≤ 56) : (v.sshiftRight n).toNat % 256 = v.toNat / 2 ^ n % 256 := by
  have h1 : ∀ i, i < 8 → (v.sshiftRight n).getLsbD i = v.getLsbD (n + i) := by
    intro i hi
    rw [BitVec.getLsbD_sshiftRight, if_pos (by omega), decide_eq_false (by omega)]
    rfl
  have e : BitVec.ofNat 8 (v.sshiftRight n).toNat = BitVec.ofNat 8 (v.toNat / 2 ^ n) := by
    apply BitVec.eq_of_getLsbD_eq
    intro i hi
    have a : (v.sshiftRight n).toNat.testBit i = v.toNat.testBit (n + i) := h1 i hi
    rw [BitVec.getLsbD_ofNat, BitVec.getLsbD_ofNat, Nat.testBit_div_two_pow, a, Nat.add_comm]
  have := congrArg BitVec.toNat e
  rw [BitVec.toNat_ofNat, BitVec.toNat_ofNat] at this
  exact this
theorem lsr_8 {v : Int64} (n : Nat) (hn : n ≤ 7) : uu (cx_lsr v (Int32.ofInt (8 * (n : Int)))) % 256 = uu v / 2 ^ (8 * n) % 256 := by
  have e : uu (cx_lsr v (Int32.ofInt (8 * (n : Int)))) = (v.toBitVec.sshiftRight (8 * n)).toNat := by
    match n, hn with
    | 0, _ => rfl
    | 1, _ => rfl
    | 2, _ => rfl
    | 3, _ => rfl
    | 4, _ => rfl
    | 5, _ => rfl
    | 6, _ => rfl
    | 7, _ => rfl
    | n + 8, h => omega
  rw [e, ssr_8 (8 * n) (by omega)]
  rfl
theorem put_by8 {v : Int64} (n : Nat) (hn : n ≤ 7) : cx_and (cx_lsr v (Int32.ofInt (8 * (n : Int)))).toInt32.toInt 255 = by8 v (n : Int) := by
  rw [and255_u, lsr_8 n hn, by8_uu n hn]
theorem uu_xor (x y : Int64) : uu (x ^^^ y) = uu x ^^^ uu y := by
  unfold uu
  rw [Int64.toBitVec_xor, BitVec.toNat_xor]
theorem xor_n {a b : Nat} (ha : a < 256) (hb : b < 256) : cx_xor (a : Int) (b : Int) = ((a ^^^ b : Nat) : Int) := by
  have hc : a ^^^ b < 2 ^ 8 := Nat.xor_lt_two_pow (by omega) (by omega)
  have e : Int32.ofInt (a : Int) ^^^ Int32.ofInt (b : Int) = Int32.ofInt ((a ^^^ b : Nat) : Int) := by
    apply Int32.toBitVec_inj.mp
    rw [Int32.toBitVec_xor]
    apply BitVec.eq_of_toNat_eq
    rw [BitVec.toNat_xor]
    show (BitVec.ofInt 32 _).toNat ^^^ (BitVec.ofInt 32 _).toNat = (BitVec.ofInt 32 _).toNat
    rw [BitVec.ofInt_natCast, BitVec.ofInt_natCast, BitVec.ofInt_natCast, BitVec.toNat_ofNat, BitVec.toNat_ofNat, BitVec.toNat_ofNat, Nat.mod_eq_of_lt (by omega), Nat.mod_eq_of_lt (by omega), Nat.mod_eq_of_lt (by omega)]
  show (Int32.ofInt _ ^^^ Int32.ofInt _).toInt = _
  rw [e]
  exact Int32.toInt_ofInt_of_le (by first | (simp; done) | (simp; omega)) (by first | (simp; done) | (simp; omega))
theorem veil_n {k : Int64} {i : Int} : g_veil k i = ((uu (f_key 5 k (Int64.ofInt i)) % 256 : Nat) : Int) := by
  unfold g_veil
  generalize f_key 5 k (Int64.ofInt i) = w
  have e : w &&& Int64.ofInt 255 = Int64.ofInt ((uu w % 256 : Nat) : Int) := by
    apply uu_inj
    have t2 : uu (Int64.ofInt 255) = 255 := by decide
    rw [uu_and, t2, uu_of (by omega), and_m _ 8 rfl]
  rw [e, two_i (by omega) (by omega)]
/-- a byte behind its veil, as the reference puts it -/
theorem veil_8 {t : Int} {k : Int64} {i : Int} (ht : 0 ≤ t ∧ t ≤ 255) : cx_and (Int64.ofInt t ^^^ f_key 5 k (Int64.ofInt i)).toInt32.toInt 255 = vB t k i := by
  obtain ⟨a, rfl⟩ := Int.eq_ofNat_of_zero_le ht.1
  unfold vB
  rw [veil_n, and255_u]
  generalize f_key 5 k (Int64.ofInt i) = w
  have ha : a < 256 := by omega
  rw [xor_n ha (by omega), uu_xor, uu_of (by omega)]
  have e : (a ^^^ uu w) % 2 ^ 8 = a % 2 ^ 8 ^^^ uu w % 2 ^ 8 := Nat.xor_mod_two_pow
  have e1 : a % 2 ^ 8 = a := Nat.mod_eq_of_lt (by omega)
  rw [e1] at e
  rw [show (256 : Nat) = 2 ^ 8 from rfl, e]
