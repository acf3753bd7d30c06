/-! the class: letters -/
section
variable {Y : cx_Y} {K : Option cx_V → cx_Q → Prop} {c : Nat} {n L Z : Int} {E : Nat → Option Int} {h0 : cx_Q} {X : List Nat} {h : cx_Q}
theorem lo8 (u : Int64) : 0 ≤ (u &&& Int64.ofInt 255).toInt32.toInt ∧ (u &&& Int64.ofInt 255).toInt32.toInt ≤ 255 := by
  have e : (u &&& Int64.ofInt 255).toInt32.toInt = ((u.toBitVec.toNat % 256 : Nat) : Int) := by
    have e1 : u &&& Int64.ofInt 255 = Int64.ofInt ((u.toBitVec.toNat % 256 : Nat) : Int) := by
      apply Int64.toBitVec_inj.mp
      rw [Int64.toBitVec_and]
      apply BitVec.eq_of_toNat_eq
      rw [BitVec.toNat_and]
      have e2 : (Int64.ofInt 255).toBitVec.toNat = 2 ^ 8 - 1 := by decide
      have e3 : (Int64.ofInt ((u.toBitVec.toNat % 256 : Nat) : Int)).toBitVec.toNat = u.toBitVec.toNat % 256 := by
        show (BitVec.ofInt 64 ((u.toBitVec.toNat % 256 : Nat) : Int)).toNat = _
        rw [BitVec.ofInt_natCast, BitVec.toNat_ofNat]
        exact Nat.mod_eq_of_lt (by omega)
      rw [e2, e3, Nat.and_two_pow_sub_one_eq_mod]
    rw [e1, two_i (by omega) (by omega)]
  rw [e]
  omega
end
