/-! the reference: each of its calls -/
section
variable {Y : cx_Y} {K : Option cx_V → cx_Q → Prop} {x : Nat} {n L k : Int} {U V : Int → Int} {h0 h : cx_Q}
theorem m_oc_rg {f : Int → Int} {b : Int} : ∀ {r : Nat} {i a : Int}, a ≤ m_oc f b r i a ∧ m_oc f b r i a ≤ a + r
  | 0, i, a => by rw [m_oc]; omega
  | r + 1, i, a => by
    rw [m_oc]
    by_cases c : f (b + i) = 0
    · rw [if_pos c]
      have := m_oc_rg (f := f) (b := b) (r := r) (i := i + 1) (a := a + 0)
      omega
    · rw [if_neg c]
      have := m_oc_rg (f := f) (b := b) (r := r) (i := i + 1) (a := a + 1)
      omega
theorem TI_fd {F : Nat → Int → Int} {G : cx_Q → Prop} {N O a b c d e : Int} : ∀ (r : Nat) {i : Int} {h : cx_Q}, TI F G x h N O → TI F G x (m_fd x a b c d e r i h) N O
  | 0, i, h, T => T
  | r + 1, i, h, T => by
    rw [m_fd]
    refine TI_fd r ?_
    unfold m_fd1
    exact TI.sF (TI.sT T (by decide) (fun q => absurd q (by decide))) (by decide) (by decide) (by decide)
end
