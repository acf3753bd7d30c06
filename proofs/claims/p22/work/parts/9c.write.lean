/-! the reference: a letter is written -/
theorem and255 {a : Int} : 0 ≤ cx_and a 255 ∧ cx_and a 255 ≤ 255 := by
  have e1 : Int32.ofInt a &&& Int32.ofInt 255 = Int32.ofInt (((Int32.ofInt a).toBitVec.toNat % 256 : Nat) : Int) := by
    apply Int32.toBitVec_inj.mp
    rw [Int32.toBitVec_and]
    apply BitVec.eq_of_toNat_eq
    rw [BitVec.toNat_and]
    have e2 : (Int32.ofInt 255).toBitVec.toNat = 2 ^ 8 - 1 := by decide
    rw [e2, Nat.and_two_pow_sub_one_eq_mod]
    show _ = (BitVec.ofInt 32 _).toNat
    rw [BitVec.ofInt_natCast, BitVec.toNat_ofNat]
    exact (Nat.mod_eq_of_lt (by omega)).symm
  have e3 : cx_and a 255 = (((Int32.ofInt a).toBitVec.toNat % 256 : Nat) : Int) := by
    show (Int32.ofInt a &&& Int32.ofInt 255).toInt = _
    rw [e1]
    exact Int32.toInt_ofInt_of_le (by first | (simp; done) | (simp; omega)) (by first | (simp; done) | (simp; omega))
  rw [e3]
  omega
/-- behind p bytes of letter z that is written, with m bytes on the tape -/
def WI (F : Nat → Int → Int) (G : cx_Q → Prop) (x : Nat) (n L Q D : Int) (U V : Int → Int) (h0 : cx_Q) (N O z m p : Int) (g : cx_Q) : Prop := MI x n L Q D U V h0 g ∧ TI F G x g N O ∧ cq_I g x 76 = 100 * z + p ∧ cq_I g x 72 = z ∧ cq_I g x 68 = m
section
variable {x : Nat} {n L Q D N O z m p : Int} {U V : Int → Int} {h0 h : cx_Q}
theorem WI.put {F : Nat → Int → Int} {G : cx_Q → Prop} (v : Int64) : ∀ (k : Nat) {p : Int} {h : cx_Q}, WI F G x n L Q D U V h0 N O z m p h → WI F G x n L Q D U V h0 N O z m (p + k) (m_put x v k h)
  | 0, p, h, M => by
    rw [show p + ((0 : Nat) : Int) = p by omega]
    exact M
  | k + 1, p, h, M => by
    rw [m_put_s, show p + ((k + 1 : Nat) : Int) = (p + 1) + k by omega]
    refine WI.put v k ?_
    obtain ⟨M, T, e1, e2, e3⟩ := M
    have q := and255 (a := (cx_lsr v (Int32.ofInt (8 * (k : Int)))).toInt32.toInt)
    unfold m_put1
    refine ⟨?_, ?_, ?_, ?_, ?_⟩
    · refine MI.sx (MI.sI M (o := 62) q (by decide) (by decide)) (j := 76) ?_ (by decide)
      exact True.intro
    · repeat' (first | with_reducible assumption | with_reducible refine TI.sJ ?_ | (with_reducible refine TI.sF ?_ ?_ ?_ ?_; rotate_left; decide; decide; decide) | (with_reducible refine TI.sT ?_ ?_ ?_; rotate_left; decide; first | exact fun q => absurd q (by decide) | exact fun _ => ⟨by omega, by omega⟩))
    · simp only [mm_sI, mm_sJ, mm_sA, mm_IJ, mm_IA, mm_JI, mm_JA, mm_AI, mm_AJ, mm_ssI, mm_ssJ, mm_ssA, mm_zI, mm_zJ, mm_zA, mm_nI, mm_nJ, mm_nA, Nat.left_eq_add, Nat.add_eq_left, Nat.add_left_cancel_iff, Nat.reduceEqDiff, Int.reduceEq, false_and, and_false, if_false, if_true, and_self, true_and, true_or, or_true, false_or, or_false]
      omega
    · simp only [mm_sI, mm_sJ, mm_sA, mm_IJ, mm_IA, mm_JI, mm_JA, mm_AI, mm_AJ, mm_ssI, mm_ssJ, mm_ssA, mm_zI, mm_zJ, mm_zA, mm_nI, mm_nJ, mm_nA, Nat.left_eq_add, Nat.add_eq_left, Nat.add_left_cancel_iff, Nat.reduceEqDiff, Int.reduceEq, false_and, and_false, if_false, if_true, and_self, true_and, true_or, or_true, false_or, or_false]
      omega
    · simp only [mm_sI, mm_sJ, mm_sA, mm_IJ, mm_IA, mm_JI, mm_JA, mm_AI, mm_AJ, mm_ssI, mm_ssJ, mm_ssA, mm_zI, mm_zJ, mm_zA, mm_nI, mm_nJ, mm_nA, Nat.left_eq_add, Nat.add_eq_left, Nat.add_left_cancel_iff, Nat.reduceEqDiff, Int.reduceEq, false_and, and_false, if_false, if_true, and_self, true_and, true_or, or_true, false_or, or_false]
      omega
end
