/-! noTurn, and what is asked while the objects are made -/
section
variable {c : Nat} {n L Z : Int} {E E' : Nat → Option Int} {h0 : cx_Q} {X : List Nat} {h : cx_Q}
/-- a turn that follows nothing -/
theorem CT.lk0 {t p : Nat} (H : CT c E h0 (t :: X) h) (hs : cq_s h t = 8) (f0 : cq_A h t 0 = none) (f1 : cq_A h t 1 = some p) (sp : cq_s h p = 101) (f3 : cq_A h t 3 = none) (fl : cq_I h t 4 = 0 ∧ cq_I h t 5 = 1000000) : CT c E h0 X h := by
  obtain ⟨t1, t2, t3, t4, t5, t6, t7, t8, t9, t10, t11, t12, t13, t14, t15, t16, t17, t18, t19⟩ := H
  have nm : ∀ {a : Nat}, a ≠ t → a ∉ X → a ∉ t :: X := fun {a} w1 w2 z => (List.mem_cons.mp z).elim w1 w2
  have nx_ : ∀ {a : Nat}, a ∉ t :: X → a ∉ X := fun {a} w z => w (List.mem_cons_of_mem _ z)
  have n6 : ∀ {w : Nat}, cq_s h w = 6 → w ≠ t := fun {w} q z => by rw [z, hs] at q; exact absurd q (by decide)
  refine ⟨t1, t2, t3, t4, t5, fun a s0 s8 aX eC => ?_, fun a s8 aX => ?_, fun b d s8 e => ?_, fun b d s8 bX e => ?_, fun a b r q sa sb aX bX e0 e1 er eq_ mt => ?_, t11, fun w sw wX => t12 w sw (nm (n6 sw) wX), fun p_ n_ w sp_ q => nx_ (t13 p_ n_ w sp_ q), fun a r s8 aX e => ?_, fun a s0 s6 aX eC => t15 a s0 s6 (nm (n6 s6) aX) eC, t16, t17, t18, t19⟩
  · by_cases z : a = t
    · rw [z]
      exact ⟨fl.1, fl.2, fun y => absurd f0 y⟩
    · exact t6 a s0 s8 (nm z aX) eC
  · by_cases z : a = t
    · rw [z]
      exact Or.inl f0
    · exact t7 a s8 (nm z aX)
  · obtain ⟨w1, w2⟩ := t8 b d s8 e
    exact ⟨nx_ w1, w2⟩
  · by_cases z : b = t
    · rw [z, f3] at e; cases e
    · obtain ⟨w1, w2⟩ := t9 b d s8 (nm z bX) e
      exact ⟨nx_ w1, w2⟩
  · by_cases z : a = t
    · rw [z] at e1
      exact absurd f0 e1
    · by_cases z' : b = t
      · rw [z', f0] at e0
        exact absurd e0 e1
      · exact t10 a b r q sa sb (nm z aX) (nm z' bX) e0 e1 er eq_ mt
  · by_cases z : a = t
    · rw [z, f1] at e
      rw [← Option.some.inj e]
      exact sp
    · exact t14 a r s8 (nm z aX) e
theorem CI.lk0 {t p q : Nat} (H : CI c n L Z E h0 (t :: X) h) (hs : cq_s h t = 8) (f0 : cq_A h t 0 = none) (f1 : cq_A h t 1 = some p) (sp : cq_s h p = 101) (f3 : cq_A h t 3 = none) (f6 : cq_A h t 6 = some q) (fl : cq_I h t 4 = 0 ∧ cq_I h t 5 = 1000000) : CI c n L Z E h0 X h := by
  refine ⟨H.1.mk hs (fun j w => ?_) (fun w => absurd w (by decide)), H.2.lk0 hs f0 f1 sp f3 fl⟩
  have : j = 1 ∨ j = 6 := by unfold muA at w; omega
  rcases this with z | z <;> rw [z]
  · rw [f1]; exact Option.some_ne_none _
  · rw [f6]; exact Option.some_ne_none _
theorem CT.wk (H : CT c E h0 X h) (e : E' c ≠ none) (e4 : ∀ d, E' d = none → E d = none) : CT c E' h0 X h := by
  obtain ⟨t1, t2, t3, t4, t5, t6, t7, t8, t9, t10, t11, t12, t13, t14, t15, t16, t17, t18, t19⟩ := H
  exact ⟨t1, fun a j s => ⟨(t2 a j s).1, (t2 a j s).2.1, fun q => absurd q e⟩, fun a j s => ⟨(t3 a j s).1, fun q => absurd q e⟩, t4, fun a j s q => absurd q e, fun a s0 s8 aX q => absurd q e, t7, t8, t9, t10, t11, t12, t13, t14, fun a s0 s6 aX q => absurd q e, fun d j s q => t16 d j s (e4 d q), fun p s => Or.inr e, fun a j k s q w => t18 a j k s q (e4 a w), t19⟩
theorem CI.wk (H : CI c n L Z E h0 X h) (e : E' c ≠ none) (e4 : ∀ d, E' d = none → E d = none) (n4 : ∀ a, cq_s h a ≠ 4) : CI c n L Z E' h0 X h := by
  obtain ⟨⟨b1, b2, b3, b4, b5, b6, b7, b8, b9, b10, b11⟩, C⟩ := H
  exact ⟨⟨b1, b2, b3, b4, b5, b6, b7, b8, b9, fun a s => absurd s (n4 a), b11⟩, C.wk e e4⟩
theorem PI.s14 {F : List Int} {g : cx_Q} {b : Nat} (Q : PI c n L Z E h0 X h c 9 F g) (hc0 : cq_s h0 c = 99) (sb : cq_s g b = tyA 9 14) : PI c n L Z E h0 X h c 9 (14 :: F) (cq_sA g c 14 (some b)) := by
  refine ⟨Q.1.s9 Q.2.2.1 (fun z => by rw [hc0] at z; exact absurd z (by decide)) (fun d q => by cases q; exact sb) (fun q => (nomatch q)) rfl, Q.2.1.trans sA_k, Q.2.2.1, fun r hr => ?_⟩
  rw [mm_sA]
  by_cases e : r = 14
  · rw [if_pos ⟨rfl, e⟩]; exact Option.some_ne_none _
  · rw [if_neg (fun q => e q.2)]
    rcases List.mem_cons.mp hr with q | q
    · exact absurd q e
    · exact Q.2.2.2 r q
end
theorem gvL_o {a : Nat} {j : Int} : ∀ {l : List (Nat × Int × Bool × Int)} {h : cx_Q}, (∀ m ∈ l, ¬ (m.1 = a ∧ m.2.1 = j)) → cq_I (gvL l h) a j = cq_I h a j
  | [], h, _ => rfl
  | m :: l, h, e => by
    rw [gvL, gvL_o (fun m' hm => e m' (List.mem_cons_of_mem _ hm))]
    unfold gv1
    rw [mm_sI, if_neg (fun z => e m List.mem_cons_self ⟨z.1.symm, z.2.symm⟩)]
theorem LM.off {S : Nat × Int × Bool × Int → Prop} {h h1 : cx_Q} {a : Nat} {j : Int} (p : LM S h h1) (e : ∀ m, S m → ¬ (m.1 = a ∧ m.2.1 = j)) : cq_I h1 a j = cq_I h a j := by
  obtain ⟨l, p1, p2⟩ := p
  rw [p1]
  exact gvL_o (fun m hm => e m ((p2 m).mp hm))
theorem LM.on {S : Nat × Int × Bool × Int → Prop} {h h1 : cx_Q} {a : Nat} {j : Int} (p : LM S h h1) (f : ∀ m, S m → m.1 = a → m.2.1 = j → m.2.2.1 = false) {m : Nat × Int × Bool × Int} (e : S m) (e1 : m.1 = a) (e2 : m.2.1 = j) : cq_I h1 a j ≠ 0 := by
  obtain ⟨l, p1, p2⟩ := p
  rw [p1]
  exact (gvL_f (fun m' hm => f m' ((p2 m').mp hm))).mpr (Or.inr ⟨m, (p2 m).mpr e, e1, e2⟩)
/-- noTurn as it is made -/
theorem nt_f {g g8 : cx_Q} (al : ∀ a, g.1 ≤ a → cq_s g a = 99) (e8 : g8 = cq_sA (cq_sA (cq_sA (cq_nw (cq_sI (cq_nw (cq_nw g 8 0) 101 0) g.1 5 1000000) 183 80) g.1 6 (some (cq_nw (cq_nw g 8 0) 101 0).1)) g.1 0 none) g.1 1 (some (cq_nw g 8 0).1)) : ev g g8 ∧ (∀ b r, cq_s g b ≠ 99 → b ≠ g.1 → cq_A g8 b r = cq_A g b r) ∧ cq_s g8 g.1 = 8 ∧ cq_A g8 g.1 0 = none ∧ cq_A g8 g.1 1 = some (g.1 + 1) ∧ cq_s g8 (g.1 + 1) = 101 ∧ cq_A g8 g.1 3 = none ∧ cq_A g8 g.1 6 = some (g.1 + 2) ∧ cq_I g8 g.1 4 = 0 ∧ cq_I g8 g.1 5 = 1000000 := by
  have hal := al g.1 (Nat.le_refl _)
  have o1 : ∀ {b : Nat}, b ≠ g.1 → _ := fun {b} w => nw_o (h := g) (s := 8) (z := 0) (a := b) w
  have m1 : (cq_nw g 8 0).1 = g.1 + 1 := rfl
  have m2 : (cq_nw (cq_nw g 8 0) 101 0).1 = g.1 + 2 := rfl
  have o2 : ∀ {b : Nat}, b ≠ g.1 + 1 → _ := fun {b} w => nw_o (h := cq_nw g 8 0) (s := 101) (z := 0) (a := b) w
  have o3 : ∀ {b : Nat}, b ≠ g.1 + 2 → _ := fun {b} w => nw_o (h := cq_sI (cq_nw (cq_nw g 8 0) 101 0) g.1 5 1000000) (s := 183) (z := 80) (a := b) w
  have hal1 : cq_s (cq_nw g 8 0) (cq_nw g 8 0).1 = 99 := (o1 (by rw [m1]; omega)).1.trans (al _ (by rw [m1]; omega))
  have hal2 : cq_s (cq_nw (cq_nw g 8 0) 101 0) (cq_nw (cq_nw g 8 0) 101 0).1 = 99 := (o2 (by rw [m2]; omega)).1.trans ((o1 (by rw [m2]; omega)).1.trans (al _ (by rw [m2]; omega)))
  have v : ev g g8 := by
    rw [e8]
    exact ((((((ev.refl.nw hal).nw hal1).fI hal).nw hal2).fA hal).fA hal).fA hal
  refine ⟨v, fun b r sb nb => ?_, ?_, ?_, ?_, ?_, ?_, ?_, ?_, ?_⟩
  · have b1 : b ≠ g.1 + 1 := fun z => sb (by rw [z]; exact al _ (by omega))
    have b2 : b ≠ g.1 + 2 := fun z => sb (by rw [z]; exact al _ (by omega))
    rw [e8, mm_sA, if_neg (fun z => nb z.1), mm_sA, if_neg (fun z => nb z.1), mm_sA, if_neg (fun z => nb z.1), (o3 b2).2.2.2.2]
    show cq_A (cq_nw (cq_nw g 8 0) 101 0) b r = _
    rw [(o2 b1).2.2.2.2, (o1 nb).2.2.2.2]
  · rw [e8]
    show cq_s (cq_nw (cq_sI (cq_nw (cq_nw g 8 0) 101 0) g.1 5 1000000) 183 80) g.1 = 8
    rw [(o3 (by omega)).1]
    show cq_s (cq_nw (cq_nw g 8 0) 101 0) g.1 = 8
    rw [(o2 (by omega)).1]
    exact nw_n.1
  · rw [e8, mm_sA, if_neg (fun z => absurd z.2 (by decide)), mm_sA, if_pos ⟨rfl, rfl⟩]
  · rw [e8, mm_sA, if_pos ⟨rfl, rfl⟩, m1]
  · rw [e8]
    show cq_s (cq_nw (cq_sI (cq_nw (cq_nw g 8 0) 101 0) g.1 5 1000000) 183 80) (g.1 + 1) = 101
    rw [(o3 (by omega)).1]
    exact (nw_n (h := cq_nw g 8 0) (s := 101) (z := 0)).1
  · rw [e8, mm_sA, if_neg (fun z => absurd z.2 (by decide)), mm_sA, if_neg (fun z => absurd z.2 (by decide)), mm_sA, if_neg (fun z => absurd z.2 (by decide)), (o3 (by omega)).2.2.2.2]
    show cq_A (cq_nw (cq_nw g 8 0) 101 0) g.1 3 = none
    rw [(o2 (by omega)).2.2.2.2, nw_n.2.2.2.2]
  · rw [e8, mm_sA, if_neg (fun z => absurd z.2 (by decide)), mm_sA, if_neg (fun z => absurd z.2 (by decide)), mm_sA, if_pos ⟨rfl, rfl⟩, m2]
  · rw [e8]
    show cq_I (cq_nw (cq_sI (cq_nw (cq_nw g 8 0) 101 0) g.1 5 1000000) 183 80) g.1 4 = 0
    rw [(o3 (by omega)).2.2.1, mm_sI, if_neg (fun z => absurd z.2 (by decide)), (o2 (by omega)).2.2.1, nw_n.2.2.1]
  · rw [e8]
    show cq_I (cq_nw (cq_sI (cq_nw (cq_nw g 8 0) 101 0) g.1 5 1000000) 183 80) g.1 5 = 1000000
    rw [(o3 (by omega)).2.2.1, mm_sI, if_pos ⟨rfl, rfl⟩]
