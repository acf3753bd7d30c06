/-! the class: its objects are made -/
section
variable {Y : cx_Y} {K : Option cx_V → cx_Q → Prop} {c : Nat} {n L Z : Int} {E : Nat → Option Int} {h0 : cx_Q} {X : List Nat} {h : cx_Q}
/-- sorts and ints of what is there are kept, and references but for those of a -/
def kA (c a : Nat) (h h' : cx_Q) : Prop := (∀ b, cq_s h b ≠ 99 → cq_s h' b = cq_s h b) ∧ (∀ b r, cq_s h b ≠ 99 → b ≠ a → cq_A h' b r = cq_A h b r) ∧ cq_I h' c = cq_I h c
theorem kA.refl {a : Nat} : kA c a h h := ⟨fun _ _ => rfl, fun _ _ _ _ => rfl, rfl⟩
theorem kA.trans {a : Nat} {h1 h2 : cx_Q} (p : kA c a h h1) (q : kA c a h1 h2) : kA c a h h2 := ⟨fun b w => (q.1 b (by rw [p.1 b w]; exact w)).trans (p.1 b w), fun b r w w2 => (q.2.1 b r (by rw [p.1 b w]; exact w) w2).trans (p.2.1 b r w w2), q.2.2.trans p.2.2⟩
theorem kA.s {a b s : Nat} {h' : cx_Q} (p : kA c a h h') (hs : cq_s h b = s) (hn : s ≠ 99) : cq_s h' b = s := (p.1 b (by rw [hs]; exact hn)).trans hs
theorem kA.nb {a b : Nat} {h' : cx_Q} (p : kA c a h h') (hal : cq_s h' h'.1 = 99) (w : cq_s h b ≠ 99) : b ≠ h'.1 := fun e => by
  have := p.1 b w
  rw [e, hal] at this
  rw [e] at w
  exact w this.symm
/-- an array is made and put into a field -/
theorem CI.stA {a s t : Nat} {j z : Int} (G : CI c n L Z E h0 (a :: X) h) (sa : cq_s h a = s) (ho : own s) (hz : zT n t z) (t4 : t ≠ 4) (t5 : t ≠ 5) (tm : ∀ j, ¬ muA t j z) (st : tyA s j = t) (sp : spA s j = false ∨ (s = 9 ∧ j = 1 ∧ cq_I h a 2 = 0) ∨ (s = 5 ∧ j = 0)) (s9 : s ≠ 99) (t6 : t ≠ 6 := by decide) :
    CI c n L Z E h0 (a :: X) (cq_sA (cq_nw h t z) a j (some h.1)) ∧ kA c a h (cq_sA (cq_nw h t z) a j (some h.1)) ∧ cq_A (cq_sA (cq_nw h t z) a j (some h.1)) a j = some h.1 ∧ (∀ r, r ≠ j → cq_A (cq_sA (cq_nw h t z) a j (some h.1)) a r = cq_A h a r) := by
  have hal := G.al h.1 (Nat.le_refl _)
  have na : a ≠ h.1 := fun e => by rw [← e, sa] at hal; exact s9 hal
  have nc : c ≠ h.1 := fun e => by rw [← e, G.cs] at hal; exact absurd hal (by decide)
  have G2 := G.new hz t4 t5 tm t6 (fun e => tm 1 (by rw [e]; unfold muA; omega))
  have sa2 : cq_s (cq_nw h t z) a = s := (nw_o na).1.trans sa
  have sn : cq_s (cq_nw h t z) h.1 = t := nw_n.1
  refine ⟨?_, ⟨fun b w => ?_, fun b r w w2 => ?_, ?_⟩, ?_, fun r w => ?_⟩
  · have hv : ∀ b, some h.1 = some b → cq_s (cq_nw h t z) b = tyA s j := fun b q => by cases q; rw [sn, st]
    rcases sp with sp | ⟨e1, e2, e3⟩ | ⟨e1, e2⟩
    · exact G2.sA sa2 ho hv (fun q => (nomatch q)) sp
    · subst e1 e2
      refine G2.sAx sa2 ho hv (fun q => (nomatch q)) (fun q => absurd q (by decide)) (fun q => absurd q (by decide)) (fun q => absurd q (by decide)) (fun q => absurd q (by decide)) (by decide) (fun _ _ => ?_) (fun q => absurd q (by decide))
      rw [(nw_o na).2.2.1]
      exact e3
    · subst e1 e2
      exact G2.sAx sa2 ho hv (fun q => (nomatch q)) (fun q => absurd q (by decide)) (fun q => absurd q (by decide)) (fun _ _ => List.mem_cons_self) (fun q => absurd q (by decide)) (by decide) (fun q => absurd q (by decide)) (fun q => absurd q (by decide))
  · have nb : b ≠ h.1 := fun e => by rw [e] at w; exact w hal
    exact (nw_o (s := t) (z := z) nb).1
  · have nb : b ≠ h.1 := fun e => by rw [e] at w; exact w hal
    rw [mm_sA, if_neg (fun e => w2 e.1), (nw_o nb).2.2.2.2]
  · exact (nw_o (s := t) (z := z) nc).2.2.1
  · rw [mm_sA, if_pos ⟨rfl, rfl⟩]
  · rw [mm_sA, if_neg (fun e => w e.2), (nw_o na).2.2.2.2]
end
