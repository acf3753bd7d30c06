/-! the class: a user is made -/
section
variable {Y : cx_Y} {K : Option cx_V → cx_Q → Prop} {c : Nat} {n L Z : Int} {E : Nat → Option Int} {h0 : cx_Q} {X : List Nat} {h : cx_Q}
theorem nw_k {a : Nat} {s : Nat} {z : Int} (hal : cq_s h h.1 = 99) (hc : cq_s h c = 9) : kA c a h (cq_nw h s z) := by
  have nb : ∀ {b : Nat}, cq_s h b ≠ 99 → b ≠ h.1 := fun w e => by rw [e] at w; exact w hal
  refine ⟨fun b w => (nw_o (s := s) (z := z) (nb w)).1, fun b r w _ => ?_, (nw_o (s := s) (z := z) (nb (by rw [hc]; decide))).2.2.1⟩
  rw [(nw_o (s := s) (z := z) (nb w)).2.2.2.2]
theorem sA_k {a : Nat} {j : Int} {v : Option Nat} : kA c a h (cq_sA h a j v) := ⟨fun _ _ => rfl, fun b r _ w => by rw [mm_sA, if_neg (fun e => w e.1)], rfl⟩
/-- what is other at cells that were not there yet does not count -/
theorem kA.nx {a b : Nat} {h' h2 : cx_Q} (p : kA c a h h') (hb : cq_s h b = 99) (q : kA c b h' h2) : kA c a h h2 := ⟨fun d w => (q.1 d (by rw [p.1 d w]; exact w)).trans (p.1 d w), fun d r w w2 => (q.2.1 d r (by rw [p.1 d w]; exact w) (fun e => by rw [e] at w; exact w hb)).trans (p.2.1 d r w w2), q.2.2.trans p.2.2⟩
/-- cell a is being made; its fields F are there -/
def PI (c : Nat) (n L Z : Int) (E : Nat → Option Int) (h0 : cx_Q) (X : List Nat) (h : cx_Q) (a s : Nat) (F : List Int) (g : cx_Q) : Prop := CI c n L Z E h0 (a :: X) g ∧ kA c a h g ∧ cq_s g a = s ∧ ∀ j ∈ F, cq_A g a j ≠ none
theorem PI.st {a s t : Nat} {j z : Int} {F : List Int} {g : cx_Q} (Q : PI c n L Z E h0 X h a s F g) (ho : own s) (hz : zT n t z) (t4 : t ≠ 4) (t5 : t ≠ 5) (tm : ∀ j, ¬ muA t j z) (st : tyA s j = t) (sp : spA s j = false ∨ (s = 9 ∧ j = 1 ∧ cq_I g a 2 = 0) ∨ (s = 5 ∧ j = 0)) (s9 : s ≠ 99) (t6 : t ≠ 6 := by decide) : PI c n L Z E h0 X h a s (j :: F) (cq_sA (cq_nw g t z) a j (some g.1)) := by
  obtain ⟨A1, A2, A3, A4⟩ := Q.1.stA (z := z) Q.2.2.1 ho hz t4 t5 tm st sp s9 t6
  refine ⟨A1, Q.2.1.trans A2, A2.s Q.2.2.1 s9, fun r hr => ?_⟩
  by_cases e : r = j
  · rw [e, A3]; exact Option.some_ne_none _
  · rw [A4 r e]
    rcases List.mem_cons.mp hr with q | q
    · exact absurd q e
    · exact Q.2.2.2 r q
theorem um {t : Nat} {z : Int} (w : t ≠ 0 ∧ t ≠ 1 ∧ t ≠ 2 ∧ t ≠ 3 ∧ t ≠ 4 ∧ t ≠ 7 ∧ t ≠ 8 ∧ t ≠ 9 ∧ t ≠ 105 ∧ t ≠ 181) : ∀ j, ¬ muA t j z := fun j q => by unfold muA at q; omega
end
