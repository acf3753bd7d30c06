/-! the class's object: a SESSION is BEGUN -/
section
variable {Y : cx_Y} {K : Option cx_V → cx_Q → Prop} {c : Nat} {n L Z : Int} {E : Nat → Option Int} {h0 : cx_Q} {X : List Nat} {h : cx_Q}
theorem CI.idn {g : cx_Q} (G : CI c n L Z E h0 [] g) {p : Nat} (sp : cq_s g p = 4) {k : Int} (hE : E p = some k) : ∃ d, cq_A g p 3 = some d ∧ cq_s g d = 6 := by
  have pe := G.pe p sp
  rw [hE] at pe
  cases z : cq_A g p 3 with
  | none => exact absurd z pe.1
  | some d => exact ⟨d, rfl, G.ta (j := 3) sp (own_9 (by decide)) z⟩
end
