/-! two bytes as a number -/
theorem two_b {a b : Nat} (ha : a < 256) (hb : b < 256) : cx_lsl (Int64.ofInt (a : Int)) (Int32.ofInt 8) ||| Int64.ofInt (b : Int) = Int64.ofInt ((256 * a + b : Nat) : Int) := by
  unfold cx_lsl
  have e : ((Int32.ofInt 8).toInt64 &&& 63) = 8 := by decide
  rw [e]
  apply Int64.toBitVec_inj.mp
  rw [Int64.toBitVec_or, Int64.toBitVec_shiftLeft]
  have e2 : ((8 : Int64).toBitVec.smod 64) = 8#64 := by decide
  rw [e2]
  apply BitVec.eq_of_toNat_eq
  rw [BitVec.toNat_or, BitVec.shiftLeft_eq', BitVec.toNat_shiftLeft]
  have t : ∀ n : Nat, n < 2 ^ 64 → (Int64.ofInt (n : Int)).toBitVec.toNat = n := by
    intro n hn
    show (BitVec.ofInt 64 (n : Int)).toNat = n
    rw [BitVec.ofInt_natCast, BitVec.toNat_ofNat]
    exact Nat.mod_eq_of_lt hn
  have e3 : (8#64).toNat = 8 := rfl
  rw [t a (by omega), t b (by omega), t (256 * a + b) (by omega), e3]
  have e4 : a <<< 8 = 256 * a := by rw [Nat.shiftLeft_eq]; omega
  have e5 : a <<< 8 % 2 ^ 64 = a <<< 8 := Nat.mod_eq_of_lt (by rw [e4]; omega)
  rw [e5, ← Nat.shiftLeft_add_eq_or_of_lt (by omega), e4]
theorem two_i {n : Int} (h0 : 0 ≤ n) (h1 : n ≤ 65535) : (Int64.ofInt n).toInt32.toInt = n := by
  rw [Int64.toInt32_ofInt]
  exact Int32.toInt_ofInt_of_le (by simp; omega) (by simp; omega)
theorem m_bytes_2 {h : cx_Q} {x : Nat} {p : Int} (hb : ∀ j, 0 ≤ cq_I h (x + 62) j ∧ cq_I h (x + 62) j ≤ 255) : (m_bytes h x p 2).toInt32.toInt = 256 * cq_I h (x + 62) (cq_I h x 77 + p) + cq_I h (x + 62) (cq_I h x 77 + p + 1) := by
  have e : m_bytes h x p 2 = cx_lsl (Int64.ofInt (cq_I h (x + 62) (cq_I h x 77 + p))) (Int32.ofInt 8) ||| Int64.ofInt (cq_I h (x + 62) (cq_I h x 77 + p + 1)) := by
    unfold m_bytes
    have e2 : (2 : Int).toNat = 0 + 1 + 1 := rfl
    have e0 : ∀ a : Int64, cx_lsl (Int64.ofInt 0) (Int32.ofInt 8) ||| a = a := by
      intro a
      have : cx_lsl (Int64.ofInt 0) (Int32.ofInt 8) = 0 := by decide
      rw [this]
      exact Int64.zero_or
    rw [e2, m_ba_s, m_ba_s, e0]
    unfold m_ba
    rw [m_fold]
    have e3 : cq_I h x 77 + p + 0 = cq_I h x 77 + p := by omega
    have e4 : cq_I h x 77 + p + (0 + 1) = cq_I h x 77 + p + 1 := by omega
    rw [e3, e4]
  rw [e]
  have b1 := hb (cq_I h x 77 + p)
  have b2 := hb (cq_I h x 77 + p + 1)
  generalize cq_I h (x + 62) (cq_I h x 77 + p) = a at b1
  generalize cq_I h (x + 62) (cq_I h x 77 + p + 1) = b at b2
  obtain ⟨a', rfl⟩ := Int.eq_ofNat_of_zero_le b1.1
  obtain ⟨b', rfl⟩ := Int.eq_ofNat_of_zero_le b2.1
  rw [two_b (by omega) (by omega), two_i (by omega) (by omega)]
  omega
theorem m_bytes_2r {h : cx_Q} {x : Nat} {p : Int} (hb : ∀ j, 0 ≤ cq_I h (x + 62) j ∧ cq_I h (x + 62) j ≤ 255) : 0 ≤ (m_bytes h x p 2).toInt32.toInt ∧ (m_bytes h x p 2).toInt32.toInt ≤ 65535 := by
  rw [m_bytes_2 hb]
  have b1 := hb (cq_I h x 77 + p)
  have b2 := hb (cq_I h x 77 + p + 1)
  omega
