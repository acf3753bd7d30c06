/-! the class's object: ONCE keys, copies, a SESSION is BEGUN -/
section
variable {Y : cx_Y} {K : Option cx_V → cx_Q → Prop} {c : Nat} {n L Z : Int} {E : Nat → Option Int} {h0 : cx_Q} {X : List Nat} {h : cx_Q}
/-- a letter more -/
theorem CI.more {g : cx_Q} {lb l : Nat} (G : CI c n L Z E h0 [] g) (el : cq_A g c 1 = some lb) (sl : cq_s g lb = 102) (s2 : cq_s g l = 2) (hi : cq_I g c 2 < 80) : CI c n L Z E h0 [] (cq_sI (cq_sA g lb (cq_I g c 2) (some l)) c 2 (cq_I g c 2 + 1)) := by
  have gc := G.cs
  have i2 := G.i9_2 gc
  have nc : ¬ c = lb := ns gc sl (by decide)
  have G1 : CI c n L Z E h0 [] (cq_sA g lb (cq_I g c 2) (some l)) := G.sAx sl (own_m (by decide)) (fun b q => by cases q; exact s2) (fun q => (nomatch q)) (fun q => absurd q (by decide)) (fun _ => Option.some_ne_none l) (fun q => absurd q (by decide)) (fun q => by omega) (by omega) (fun q => absurd q (by decide)) (fun q => absurd q (by decide))
  refine G1.sIx gc (own_9 (by decide)) ⟨by omega, by omega⟩ (by omega) (fun q => absurd q (by decide)) (by omega) (fun _ _ => ?_)
  intro b hb i i0 i1
  rw [mm_sI, if_pos ⟨rfl, rfl⟩] at i1
  rw [mm_AI, mm_sA, if_neg (fun e => nc e.1)] at hb
  rw [el] at hb
  cases hb
  rw [mm_AI, mm_sA]
  split
  · exact Option.some_ne_none l
  · rename_i q
    exact G.le lb el i i0 (by omega)
theorem isC_i {o : Option Nat} {s : Nat} (q : ∀ b, o = some b → cq_s h b = s) : cx_isC h s o := by
  cases o with
  | none => trivial
  | some b => exact q b rfl
end
