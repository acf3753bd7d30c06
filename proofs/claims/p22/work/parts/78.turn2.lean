/-! the class: turns that follow one another -/
theorem ns {h : cx_Q} {a b s t : Nat} (ha : cq_s h a = s) (hb : cq_s h b = t) (q : s ≠ t) : ¬ a = b := fun e => by rw [e, hb] at ha; exact q ha.symm
section
variable {Y : cx_Y} {K : Option cx_V → cx_Q → Prop} {c : Nat} {n L Z : Int} {E : Nat → Option Int} {h0 : cx_Q} {X : List Nat} {h : cx_Q}
end
