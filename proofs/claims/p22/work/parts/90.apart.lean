/-! the class: a letter is taken apart -/
section
variable {Y : cx_Y} {K : Option cx_V → cx_Q → Prop} {c : Nat} {n L Z : Int} {E : Nat → Option Int} {h0 : cx_Q} {X : List Nat} {h : cx_Q}
/-- no more than this cell is other, and it has these bytes -/
def ta (a b : Nat) (h g : cx_Q) : Prop := (∀ d, cq_s h d ≠ 99 → cq_s g d = cq_s h d) ∧ (∀ d, d ≠ a → cq_A g d = cq_A h d ∧ cq_I g d = cq_I h d) ∧ cq_A g a 0 = some b
theorem ta.s {a b : Nat} {g : cx_Q} (p : ta a b h g) {d s : Nat} (hs : cq_s h d = s) (hn : s ≠ 99) : cq_s g d = s := (p.1 d (by rw [hs]; exact hn)).trans hs
theorem ta.sI {a b : Nat} {g : cx_Q} {j v : Int} (p : ta a b h g) : ta a b h (cq_sI g a j v) := ⟨p.1, fun d w => ⟨(p.2.1 d w).1, by
  rw [← (p.2.1 d w).2]
  funext r
  rw [mm_sI, if_neg (fun e => w e.1)]⟩, p.2.2⟩
theorem ta.sJ {a b d : Nat} {g : cx_Q} {j : Int} {v : Int64} (p : ta a b h g) : ta a b h (cq_sJ g d j v) := p
end
