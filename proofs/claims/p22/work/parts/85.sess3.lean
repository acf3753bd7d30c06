/-! the class: a SESSION -/
section
variable {Y : cx_Y} {K : Option cx_V → cx_Q → Prop} {c : Nat} {n L Z : Int} {E : Nat → Option Int} {h0 : cx_Q} {X : List Nat} {h : cx_Q}
theorem CI.sA79 (H : CI c n L Z E h0 X h) {a b : Nat} (hs : cq_s h a = 7) (hE : cq_s h0 a = 7 → E a ≠ none) (hb : cq_s h b = 8) : CI c n L Z E h0 X (cq_sA h a 9 (some b)) := ⟨H.1.sAx hs (own_9 (by decide)) (fun t q => by cases q; exact hb) (fun q => (nomatch q)) (fun q => absurd q (by decide)) (fun q => absurd q (by decide)) (fun q => absurd q (by decide)) (fun q => by omega) (by omega) (fun q => absurd q (by decide)) (fun _ _ => Option.some_ne_none b), H.2.s7 hs hE⟩
/-- a pair of SECRETS is made -/
theorem CI.pair {M : cx_Q} (H : CI c n L Z E h0 X M) {o1 o2 : Option Nat} (h1 : ∀ b, o1 = some b → cq_s M b = 6) (h2 : ∀ b, o2 = some b → cq_s M b = 6) : CI c n L Z E h0 X (cq_sA (cq_sA (cq_nw M 101 2) M.1 0 o1) M.1 1 o2) ∧ kp c M (cq_sA (cq_sA (cq_nw M 101 2) M.1 0 o1) M.1 1 o2) := by
  have alM := H.al M.1 (Nat.le_refl _)
  have H2 := H.new (s := 101) (z := 2) ⟨by decide, by decide⟩ (by decide) (by decide) (fun j q => by unfold muA at q; omega)
  have k2 : kp c M (cq_nw M 101 2) := kp.refl.nw (s := 101) (z := 2) alM H.cs
  have sn : cq_s (cq_nw M 101 2) M.1 = 101 := nw_n.1
  have hn : cq_s h0 M.1 = 99 := H.ct.old alM
  obtain ⟨G1, f1⟩ := H2.s101 (j := 0) (v := o1) sn hn H.nwP (fun b q => k2.s (h1 b q) (by decide))
  exact ⟨(G1.s101 (j := 1) (v := o2) sn hn f1 (fun b q => k2.s (h2 b q) (by decide))).1, (k2.sA sn H2.cs (by decide)).sA sn H2.cs (by decide)⟩
end
