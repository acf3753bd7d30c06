/-! the class: a row's SESSIONS are put, brought first, retired -/
section
variable {Y : cx_Y} {K : Option cx_V → cx_Q → Prop} {c : Nat} {n L Z : Int} {E : Nat → Option Int} {h0 : cx_Q} {X : List Nat} {h : cx_Q}
/-- a row is whole again, with this session first -/
theorem CI.put {a t : Nat} (H : CI c n L Z E h0 (a :: X) h) (hs : cq_s h a = 5) (e0 : cq_A h a 0 = some (a + 1)) (ht : cq_s h t = 7) (h9 : cq_A h t 9 ≠ none) (hr : ∀ i, 0 < i → i < cq_I h a 1 → ∃ s, cq_A h (a + 1) i = some s ∧ cq_A h s 9 ≠ none) : CI c n L Z E h0 X (cq_sA h (a + 1) 0 (some t)) := by
  have s1 : cq_s h (a + 1) = 182 := H.ta hs (own_9 (by decide)) e0
  have H1 : CI c n L Z E h0 (a :: X) (cq_sA h (a + 1) 0 (some t)) := H.sAx s1 (own_h (by decide)) (fun b q => by cases q; exact ht) (fun q => (nomatch q)) (fun _ => ⟨a, List.mem_cons_self, rfl⟩) (fun q => absurd q (by decide)) (fun q => absurd q (by decide)) (fun q => by omega) (by omega) (fun q => absurd q (by decide)) (fun q => absurd q (by decide))
  have nt : ¬ t = a + 1 := ns ht s1 (by decide)
  refine H1.mk hs (fun j q => by unfold muA at q; omega) (fun _ => ⟨?_, fun i i0 i1 => ?_⟩)
  · rw [mm_sA, if_neg (fun e => by omega)]
    exact e0
  · have i1' : i < cq_I h a 1 := i1
    by_cases w : i = 0
    · refine ⟨t, ?_, ?_⟩
      · rw [mm_sA, if_pos ⟨rfl, w⟩]
      · rw [mm_sA, if_neg (fun e => nt e.1)]
        exact h9
    · obtain ⟨s, q1, q2⟩ := hr i (by omega) i1'
      have s7 : cq_s h s = 7 := H.ta s1 (own_h (by decide)) q1
      refine ⟨s, ?_, ?_⟩
      · rw [mm_sA, if_neg (fun e => w e.2)]
        exact q1
      · rw [mm_sA, if_neg (fun e => ns s7 s1 (by decide) e.1)]
        exact q2
end
