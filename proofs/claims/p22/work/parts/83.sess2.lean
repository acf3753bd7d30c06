/-! the class: turns and SESSIONS are made -/
section
variable {Y : cx_Y} {K : Option cx_V → cx_Q → Prop} {c : Nat} {n L Z : Int} {E : Nat → Option Int} {h0 : cx_Q} {X : List Nat} {h : cx_Q}
/-- a cell is made that needs nothing -/
theorem CI.new (H : CI c n L Z E h0 X h) {s : Nat} {z : Int} (hz : zT n s z) (h4 : s ≠ 4) (h5 : s ≠ 5) (hm : ∀ j, ¬ muA s j z) (n6 : s ≠ 6 := by decide) (n8 : s ≠ 8 := by decide) : CI c n L Z E h0 X (cq_nw h s z) := (H.nw hz (fun q => absurd q h4) (fun q => absurd q h4)).mk nw_n.1 (fun j q => absurd (by rw [nw_n.2.1] at q; exact q) (hm j)) (fun q => absurd q h5) n6 n8
end
