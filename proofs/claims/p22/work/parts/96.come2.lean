/-! the class's object: letters come -/
section
variable {Y : cx_Y} {K : Option cx_V → cx_Q → Prop} {c : Nat} {n L Z : Int} {E : Nat → Option Int} {h0 : cx_Q} {X : List Nat} {h : cx_Q}
/-- as kz, and the envelope is as it was -/
def ky (c : Nat) (h h' : cx_Q) : Prop := kz c h h' ∧ ∀ a, cq_s h a = 0 → cq_I h' a = cq_I h a
theorem ky.refl : ky c h h := ⟨kz.refl, fun _ _ => rfl⟩
theorem ky.trans {h1 h2 : cx_Q} (p : ky c h h1) (q : ky c h1 h2) : ky c h h2 := ⟨p.1.trans q.1, fun a w => (q.2 a (p.1.s w (by decide))).trans (p.2 a w)⟩
theorem ky.sI {g : cx_Q} {j v : Int} (p : ky c h g) (hc : cq_s g c = 9) : ky c h (cq_sI g c j v) := ⟨p.1.sI, fun a w => by
  rw [← p.2 a w]
  funext r
  rw [mm_sI, if_neg (fun e => by have := p.1.s w (by decide); rw [e.1, hc] at this; exact absurd this (by decide))]⟩
theorem kq.y {h' : cx_Q} (p : kq c h h') : ky c h h' := ⟨p.z, p.2.2.2.1⟩
theorem kp.y {h' : cx_Q} (p : kp c h h') : ky c h h' := p.1.y
theorem ta.z {a b : Nat} {g : cx_Q} (p : ta a b h g) (hs : cq_s h a = 0) (hc : cq_s h c = 9) : kz c h g := ⟨p.1, fun d w => (p.2.1 d (ns w hs (by decide))).1, (p.2.1 c (ns hc hs (by decide))).1⟩
end
