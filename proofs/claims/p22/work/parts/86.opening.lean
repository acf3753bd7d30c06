/-! the class: opening a letter in a SESSION -/
section
variable {Y : cx_Y} {K : Option cx_V → cx_Q → Prop} {c : Nat} {n L Z : Int} {E : Nat → Option Int} {h0 : cx_Q} {X : List Nat} {h : cx_Q}
/-- no more than longs, and ints of this cell, are other -/
def oo (a : Nat) (h h' : cx_Q) : Prop := h'.1 = h.1 ∧ cq_s h' = cq_s h ∧ cq_z h' = cq_z h ∧ cq_A h' = cq_A h ∧ ∀ b, b ≠ a → cq_I h' b = cq_I h b
theorem oo.refl {a : Nat} : oo a h h := ⟨rfl, rfl, rfl, rfl, fun _ _ => rfl⟩
theorem oo.trans {a : Nat} {h1 h2 : cx_Q} (p : oo a h h1) (q : oo a h1 h2) : oo a h h2 := ⟨q.1.trans p.1, q.2.1.trans p.2.1, q.2.2.1.trans p.2.2.1, q.2.2.2.1.trans p.2.2.2.1, fun b w => (q.2.2.2.2 b w).trans (p.2.2.2.2 b w)⟩
theorem oo.sJ {a b : Nat} {h' : cx_Q} {j : Int} {v : Int64} (p : oo a h h') : oo a h (cq_sJ h' b j v) := p
theorem oo.sI {a : Nat} {h' : cx_Q} {j v : Int} (p : oo a h h') : oo a h (cq_sI h' a j v) := ⟨p.1, p.2.1, p.2.2.1, p.2.2.2.1, fun b w => by
  rw [← p.2.2.2.2 b w]
  funext r
  rw [mm_sI, if_neg (fun e => w e.1)]⟩
theorem oo.kq {a : Nat} {h' : cx_Q} (p : oo a h h') (hs : cq_s h a = 3) (hc : cq_s h c = 9) : kq c h h' := ⟨fun b _ => by rw [p.2.1], p.2.2.2.2 c (fun e => by rw [e, hs] at hc; exact absurd hc (by decide)), by rw [p.2.2.2.1], fun b w => p.2.2.2.2 b (fun e => by rw [e, hs] at w; exact absurd w (by decide)), fun b _ => by rw [p.2.2.2.1]⟩
end
