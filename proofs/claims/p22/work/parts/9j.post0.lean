/-! the class's object is made -/
section
variable {Y : cx_Y} {K : Option cx_V → cx_Q → Prop} {c : Nat} {n L Z : Int} {h0 : cx_Q} {h : cx_Q}
theorem CI.pm {E : Nat → Option Int} {X X' : List Nat} (H : CI c n L Z E h0 X h) (w : ∀ a, a ∈ X ↔ a ∈ X') : CI c n L Z E h0 X' h := ⟨⟨H.1.1, H.1.2.1, H.1.2.2.1, H.1.2.2.2.1, H.1.2.2.2.2.1, H.l6, H.l8, fun b hb => H.nn b (fun q => hb ((w b).mp q)), fun b hb => H.rw b (fun q => hb ((w b).mp q)), H.1.2.2.2.2.2.2.2.2.2⟩, H.2.X_ (fun b _ => w b)⟩
/-- nobody has registered -/
def E0 : Nat → Option Int := fun _ => none
theorem kA.of {a : Nat} {h' : cx_Q} (p : kp c h h') (q : ∀ b r, cq_s h b ≠ 99 → b ≠ a → cq_A h' b r = cq_A h b r) : kA c a h h' := ⟨p.1.1, q, p.1.2.1⟩
/-- an object was made beside: its cells are new -/
theorem PI.ob {F : List Int} {g g' : cx_Q} {b s : Nat} {X : List Nat} {E : Nat → Option Int} (Q : PI c n L Z E h0 X h c 9 F g) (hb : cq_s g b = 99) (sb : cq_s g' b = s) (G : CI c n L Z E h0 (c :: X) g') (k : kA c b g g') : PI c n L Z E h0 X h c 9 F g' ∧ cq_s g' b = s := by
  have bh : cq_s h b = 99 := by
    by_cases q : cq_s h b = 99
    · exact q
    · have := Q.2.1.1 b q
      rw [hb] at this
      exact this.symm
  have nc : c ≠ b := fun e => by rw [← e, Q.2.2.1] at hb; exact absurd hb (by decide)
  refine ⟨⟨G, Q.2.1.nx bh k, k.s Q.2.2.1 (by decide), fun j hj => ?_⟩, sb⟩
  rw [k.2.1 c j (by rw [Q.2.2.1]; decide) nc]
  exact Q.2.2.2 j hj
theorem PI.sf {F : List Int} {g : cx_Q} {b : Nat} {j : Int} {X : List Nat} {E : Nat → Option Int} (Q : PI c n L Z E h0 X h c 9 F g) (sb : cq_s g b = tyA 9 j) (sp : spA 9 j = false) : PI c n L Z E h0 X h c 9 (j :: F) (cq_sA g c j (some b)) := by
  refine ⟨Q.1.sA Q.2.2.1 (own_9 (by decide)) (fun d q => by cases q; exact sb) (fun q => (nomatch q)) sp, Q.2.1.trans sA_k, Q.2.2.1, fun r hr => ?_⟩
  rw [mm_sA]
  by_cases e : r = j
  · rw [if_pos ⟨rfl, e⟩]; exact Option.some_ne_none _
  · rw [if_neg (fun q => e q.2)]
    rcases List.mem_cons.mp hr with q | q
    · exact absurd q e
    · exact Q.2.2.2 r q
/-- users 0 to i less 1 are there -/
def peo (g : cx_Q) (b : Nat) (i : Int) : Prop := (∀ j, 0 ≤ j → j < i → ∃ p, cq_A g b j = some p ∧ cq_s g p = 4) ∧ ∀ j k, 0 ≤ j → j < k → k < i → cq_A g b j ≠ cq_A g b k
end
