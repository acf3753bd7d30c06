/-! the law, from its start -/
section
variable {Y : cx_Y} {K : Option cx_V → cx_Q → Prop} {p : Nat} {N : Int} {h : cx_Q}
/-- ahead of the law nothing is there but the script -/
def S0 (p : Nat) (N : Int) (h : cx_Q) : Prop := p < h.1 ∧ cq_s h p = 98 ∧ cq_z h p = N ∧ ∀ a, a ≠ p → cq_s h a = 99
theorem rI_9 {s : Nat} {j v : Int} {Z : Int} (q : s = 98 ∨ s = 99) : rI Z s j v := by
  unfold rI
  rw [if_neg (by omega), if_neg (by omega), if_neg (by omega), if_neg (by omega), if_neg (by omega), if_neg (by omega), if_neg (by omega), if_neg (by omega), if_neg (by omega)]
  trivial
theorem rI_90 {j : Int} : rI 0 9 j 0 := by
  unfold rI
  rw [if_neg (by decide), if_neg (by decide), if_neg (by decide), if_neg (by decide), if_neg (by decide), if_neg (by decide), if_neg (by decide), if_pos (by decide)]
  repeat' (with_reducible refine itp ?_ ?_)
  all_goals (first | trivial | exact ⟨by decide, by decide⟩)
theorem zT_9 {n z : Int} {s : Nat} (q : s = 98 ∨ s = 99 ∨ s = 9) : zT n s z := by
  unfold zT
  rw [if_neg (by omega), if_neg (by omega), if_neg (by omega), if_neg (by omega), if_neg (by omega), if_neg (by omega), if_neg (by omega), if_neg (by omega), if_neg (by omega), if_neg (by omega), if_neg (by omega), if_neg (by omega), if_neg (by omega), if_neg (by omega), if_neg (by omega), if_neg (by omega), if_neg (by omega), if_neg (by omega), if_neg (by omega)]
  trivial
/-- while the objects are made nothing is asked -/
def EI (c : Nat) (d : Nat) : Option Int := if d = c then some 0 else none
theorem EI_c {c : Nat} : EI c c ≠ none := by
  unfold EI
  rw [if_pos rfl]
  exact Option.some_ne_none _
theorem EI_n {c d : Nat} (w : d ≠ c) : EI c d = none := if_neg w
/-- the class's object alone -/
theorem S0.CI {n : Int} {E : Nat → Option Int} (S : S0 p N h) : CI h.1 n 0 0 E h [h.1] (cq_nw h 9 0) := by
  obtain ⟨s1, s2, s3, s4⟩ := S
  have so : ∀ a, a ≠ h.1 → cq_s (cq_nw h 9 0) a = 98 ∨ cq_s (cq_nw h 9 0) a = 99 := fun a ha => by
    rw [(nw_o ha).1]
    by_cases e : a = p
    · rw [e]; exact Or.inl s2
    · exact Or.inr (s4 a e)
  have sc : cq_s (cq_nw h 9 0) h.1 = 9 := nw_n.1
  have is : ∀ {a s : Nat}, s ≠ 98 → s ≠ 99 → s ≠ 9 → cq_s (cq_nw h 9 0) a ≠ s := fun {a s} h1 h2 h3 e => by
    by_cases q : a = h.1
    · rw [q, sc] at e; exact h3 e.symm
    · rcases so a q with w | w
      · rw [w] at e; exact h1 e.symm
      · rw [w] at e; exact h2 e.symm
  have hh : ∀ {a s : Nat}, s ≠ 98 → s ≠ 99 → cq_s h a ≠ s := fun {a s} h1 h2 e => by
    by_cases q : a = p
    · rw [q, s2] at e; exact h1 e.symm
    · rw [s4 a q] at e; exact h2 e.symm
  have ct_ : CT h.1 E h [h.1] (cq_nw h 9 0) := by
    refine ⟨fun a q => ?_, fun a j q => absurd q (hh (by decide) (by decide)), fun a j q => absurd q (hh (by decide) (by decide)), fun a j q => absurd q (hh (by decide) (by decide)), fun a j q => absurd q (hh (by decide) (by decide)), fun a _ q => absurd q (is (by decide) (by decide) (by decide)), fun a q => absurd q (is (by decide) (by decide) (by decide)), fun b t q => absurd q (is (by decide) (by decide) (by decide)), fun b t q => absurd q (is (by decide) (by decide) (by decide)), fun a b r q w => absurd w (is (by decide) (by decide) (by decide)), fun a q => absurd q (is (by decide) (by decide) (by decide)), fun a q => absurd q (is (by decide) (by decide) (by decide)), fun a m w q => absurd q (is (by decide) (by decide) (by decide)), fun a r q => absurd q (is (by decide) (by decide) (by decide)), fun a _ q => absurd q (is (by decide) (by decide) (by decide)), fun a j q => absurd q (hh (by decide) (by decide)), fun a q => absurd q (is (by decide) (by decide) (by decide)), fun a j k q w => ?_, fun a q => absurd q (hh (by decide) (by decide))⟩
    · have e : a ≠ h.1 := fun z => by
        rw [z] at q
        exact q (s4 h.1 (by omega))
      exact ⟨(nw_o e).1, (nw_o e).2.1⟩
    · exfalso
      rcases w with w | w | w
      · rw [w] at q; exact absurd q (hh (by decide) (by decide))
      · rw [w.1] at q; exact absurd q (hh (by decide) (by decide))
      · rw [w.1] at q; exact absurd q (hh (by decide) (by decide))
  refine ⟨⟨⟨Nat.le_succ _, fun a q => ?_⟩, fun a ha => ?_, fun a j b ho hj => ?_, fun a => ?_, fun a j => ?_, fun a b q => absurd q (is (by decide) (by decide) (by decide)), fun a b q => absurd q (is (by decide) (by decide) (by decide)), fun a ha j q => ?_, fun a _ q => absurd q (is (by decide) (by decide) (by decide)), fun a q => absurd q (is (by decide) (by decide) (by decide)), sc, ?_, fun b q => ?_, Int.le_refl _⟩, ct_⟩
  · have lt : a = p := by
      by_cases e : a = p
      · exact e
      · rw [s4 a e] at q
        exact absurd rfl (isR_own q).2
    subst lt
    have := nw_o (h := h) (s := 9) (z := 0) (show a ≠ h.1 by omega)
    exact ⟨s1, this⟩
  · have ha : h.1 + 1 ≤ a := ha
    rw [(nw_o (by omega)).1]
    exact s4 a (by omega)
  · by_cases e : a = h.1
    · rw [e, nw_n.2.2.2.2] at hj
      cases hj
    · exfalso
      rcases so a e with w | w
      · rw [w] at ho; unfold own at ho; omega
      · rw [w] at ho; unfold own at ho; omega
  · by_cases e : a = h.1
    · rw [e, sc]; exact zT_9 (Or.inr (Or.inr rfl))
    · rcases so a e with w | w
      · rw [w]; exact zT_9 (Or.inl rfl)
      · rw [w]; exact zT_9 (Or.inr (Or.inl rfl))
  · by_cases e : a = h.1
    · rw [e, sc, nw_n.2.2.1]; exact rI_90
    · rcases so a e with w | w
      · rw [w]; exact rI_9 (Or.inl rfl)
      · rw [w]; exact rI_9 (Or.inr rfl)
  · exfalso
    have e : a ≠ h.1 := fun z => ha (by rw [z]; exact List.mem_cons_self)
    rcases so a e with w | w
    · rw [w] at q; unfold muA at q; omega
    · rw [w] at q; unfold muA at q; omega
  · rw [nw_n.2.2.1]
  · rw [nw_n.2.2.2.2] at q
    cases q
theorem zT_R {n z : Int} {s : Nat} (q : isR s) : zT n s z := by
  unfold isR at q
  unfold zT
  rw [if_neg (by omega), if_neg (by omega), if_neg (by omega), if_neg (by omega), if_neg (by omega), if_neg (by omega), if_neg (by omega), if_neg (by omega), if_neg (by omega), if_neg (by omega), if_neg (by omega), if_neg (by omega), if_neg (by omega), if_neg (by omega), if_neg (by omega), if_neg (by omega), if_neg (by omega), if_neg (by omega), if_neg (by omega)]
  trivial
theorem itn9 {p : Prop} [Decidable p] {a b : Nat} (ha : a ≠ 99) (hb : b ≠ 99) : (if p then a else b) ≠ 99 := by
  split
  · exact ha
  · exact hb
theorem ty99 {s : Nat} {j : Int} : tyA s j ≠ 99 := by
  unfold tyA
  repeat' (with_reducible refine itn9 ?_ ?_)
  all_goals decide
/-- cells beside those of the class -/
theorem CT.al {c : Nat} {E E' : Nat → Option Int} {h0 h1 g : cx_Q} (C : CT c E h0 [] h1) (es : ∀ a k, (k = 4 ∨ k = 6 ∨ k = 8 ∨ k = 101 ∨ k = 183) → (cq_s g a = k ↔ cq_s h1 a = k)) (eq : ∀ a, (cq_s h1 a = 4 ∨ cq_s h1 a = 6 ∨ cq_s h1 a = 8 ∨ cq_s h1 a = 101) → cq_z g a = cq_z h1 a ∧ cq_I g a = cq_I h1 a ∧ cq_J g a = cq_J h1 a ∧ cq_A g a = cq_A h1 a) : CT c E' g [] g := by
  obtain ⟨t1, t2, t3, t4, t5, t6, t7, t8, t9, t10, t11, t12, t13, t14, t15, t16, t17, t18, t19⟩ := C
  have e8 : ∀ {a : Nat}, cq_s g a = 8 → cq_s h1 a = 8 ∧ cq_A g a = cq_A h1 a := fun {a} q => ⟨(es a 8 (by omega)).mp q, (eq a (by have := (es a 8 (by omega)).mp q; omega)).2.2.2⟩
  have f8 : ∀ {a : Nat}, cq_s h1 a = 8 → cq_s g a = 8 ∧ cq_A g a = cq_A h1 a := fun {a} q => ⟨(es a 8 (by omega)).mpr q, (eq a (by omega)).2.2.2⟩
  have f6 : ∀ w, cq_s h1 w = 6 → cq_s g w = 6 ∧ cq_J g w 1 = cq_J h1 w 1 ∧ cq_A g w 2 = cq_A h1 w 2 := fun w q => ⟨(es w 6 (by omega)).mpr q, by rw [(eq w (by omega)).2.2.1], by rw [(eq w (by omega)).2.2.2]⟩
  have e4 : ∀ {a : Nat}, cq_s g a = 4 → cq_s h1 a = 4 := fun {a} q => (es a 4 (by omega)).mp q
  have f4 : ∀ {a : Nat}, cq_s h1 a = 4 → cq_s g a = 4 ∧ cq_I g a = cq_I h1 a ∧ cq_J g a = cq_J h1 a ∧ cq_A g a = cq_A h1 a := fun {a} q => ⟨(es a 4 (by omega)).mpr q, (eq a (by omega)).2⟩
  refine ⟨fun _ _ => ⟨rfl, rfl⟩, fun _ _ _ => ⟨rfl, rfl, fun _ => rfl⟩, fun _ _ _ => ⟨fun _ => rfl, fun _ => rfl⟩, fun _ _ _ => rfl, fun _ _ _ _ => rfl, fun a q1 q2 => by rw [q1] at q2; exact absurd q2 (by decide), fun a q _ => ?_, fun b t q e => ?_, fun b t q _ e => ?_, fun a b r q' qa qb _ _ e0 e1 er eq_ mt => ?_, fun p q => ?_, fun w q _ => ?_, fun _ _ _ _ _ => List.not_mem_nil, fun a r q _ e => ?_, fun a q1 q2 => by rw [q1] at q2; exact absurd q2 (by decide), fun _ _ _ _ => rfl, fun _ q => Or.inl q, fun _ _ _ _ _ _ => rfl, fun _ _ => ⟨rfl, rfl⟩⟩
  · obtain ⟨s, eA⟩ := e8 q
    rcases t7 a s List.not_mem_nil with w | ⟨b, w1, w2, w3, w4, w5, n, w6⟩
    · exact Or.inl (by rw [eA]; exact w)
    · refine Or.inr ⟨b, by rw [eA]; exact w1, w2, (f8 w3).1, by rw [eA]; exact w4, (es _ 183 (by omega)).mpr w5, n, ?_⟩
      rw [(f8 w3).2]
      exact inL_c (fun w z => ⟨(f8 z).1, by rw [(f8 z).2]⟩) w6
  · obtain ⟨s, eA⟩ := e8 q
    rw [eA] at e
    obtain ⟨w1, w2, w3⟩ := t8 b t s e
    exact ⟨w1, (f8 w2).1, by rw [(f8 w2).2]; exact w3⟩
  · obtain ⟨s, eA⟩ := e8 q
    rw [eA] at e
    obtain ⟨w1, w2, w3⟩ := t9 b t s List.not_mem_nil e
    exact ⟨w1, (f8 w2).1, by rw [(f8 w2).2, eA]; exact w3⟩
  · obtain ⟨s, eA⟩ := e8 qa
    obtain ⟨s', eB⟩ := e8 qb
    rw [eA, eB] at e0
    rw [eA] at e1 er
    rw [eB] at eq_
    have r1 := t14 a r s List.not_mem_nil er
    have r2 := t14 b q' s' List.not_mem_nil eq_
    have z1 := eq r (by omega)
    have z2 := eq q' (by omega)
    refine t10 a b r q' s s' List.not_mem_nil List.not_mem_nil e0 e1 er eq_ ?_
    unfold mtR at mt ⊢
    rw [z1.1, z2.1, z1.2.2.2, z2.2.2.2] at mt
    exact mt
  · have s := e4 q
    obtain ⟨_, eI, eJ, eA⟩ := f4 s
    rw [eI, eJ, eA]
    exact chD_c f6 (t11 p s)
  · have s := (es w 6 (by omega)).mp q
    obtain ⟨p, m, w1, w2⟩ := t12 w s List.not_mem_nil
    obtain ⟨s4, _, _, eA⟩ := f4 w1
    refine ⟨p, m, s4, ?_⟩
    rw [eA]
    exact inD_c (fun w z => ⟨(f6 w z).1, (f6 w z).2.2⟩) w2
  · obtain ⟨s, eA⟩ := e8 q
    rw [eA] at e
    exact (es r 101 (by omega)).mpr (t14 a r s List.not_mem_nil e)
/-- the reference is made behind the class: the class's cells are as they were -/
theorem CI.aL {c x : Nat} {n L Z : Int} {E : Nat → Option Int} {h0 h1 g : cx_Q} (H : CI c n L Z E h0 [] h1) (hx : h1.1 = x) (S : rS g x) (A : aL x h1 g) : CI c n L Z E g [] g ∧ kz c h1 g := by
  obtain ⟨a1, a2, a3⟩ := A
  have lt : ∀ {a : Nat}, cq_s h1 a ≠ 99 → a < x := fun {a} q => by
    by_cases w : h1.1 ≤ a
    · exact absurd (H.al a w) q
    · omega
  -- cells of the class stand ahead of the reference
  have cs : ∀ a, ¬ isR (cq_s g a) → cq_s g a ≠ 99 → a < x := fun a q1 q2 => by
    by_cases w : a < x
    · exact w
    · by_cases w2 : g.1 ≤ a
      · exact absurd (a3 a w2) q2
      · exact absurd (S.isR (a := a) (by omega)) q1
  have ol : ∀ {a s : Nat}, cq_s g a = s → ¬ isR s → s ≠ 99 → a < x := fun q w1 w2 => cs _ (by rw [q]; exact w1) (by rw [q]; exact w2)
  have nr : ∀ {s : Nat}, s ≤ 9 → ¬ isR s ∧ s ≠ 99 := fun q => by unfold isR; omega
  have ow : ∀ {s : Nat}, own s → ¬ isR s ∧ s ≠ 99 := fun q => by unfold own at q; unfold isR; omega
  have kc : c < x := lt (by rw [H.cs]; decide)
  have kzz : kz c h1 g := ⟨fun a q => (a2 a (lt q)).1, fun a q => (a2 a (lt (by rw [q]; decide))).2.2.2.2, (a2 c kc).2.2.2.2⟩
  have ct_ : CT c E g [] g := H.ct.al (fun a k w => ⟨fun q => by
      have la := ol q (by unfold isR; omega) (by omega)
      rw [(a2 a la).1] at q
      exact q, fun q => by
      have la := lt (a := a) (by rw [q]; omega)
      rw [(a2 a la).1]
      exact q⟩) (fun a w => (a2 a (lt (by omega))).2)
  refine ⟨⟨⟨⟨Nat.le_refl _, fun a q => ⟨?_, rfl, rfl, rfl, rfl, rfl⟩⟩, a3, fun a j b ho hj => ?_, fun a => ?_, fun a j => ?_, fun a b q e => ?_, fun a b q e => ?_, fun a ha j q => ?_, fun a ha q => ?_, fun a q => ?_, ?_, ?_, ?_, H.z0⟩, ct_⟩, kzz⟩
  · by_cases z : g.1 ≤ a
    · exact absurd (a3 a z) (isR_own q).2
    · omega
  · have la := cs a (ow ho).1 (ow ho).2
    rw [(a2 a la).1] at ho ⊢
    rw [(a2 a la).2.2.2.2] at hj
    have hb := H.ty a j b ho hj
    have nb : cq_s h1 b ≠ 99 := by
      rw [hb]
      exact ty99
    rw [(a2 b (lt nb)).1]
    exact hb
  · by_cases q : a < x
    · rw [(a2 a q).1, (a2 a q).2.1]
      exact H.zz a
    · by_cases w2 : g.1 ≤ a
      · rw [a3 a w2]; exact zT_9 (Or.inr (Or.inl rfl))
      · exact zT_R (S.isR (a := a) (by omega))
  · by_cases q : a < x
    · rw [(a2 a q).1, (a2 a q).2.2.1]
      exact H.ri a j
    · by_cases w2 : g.1 ≤ a
      · rw [a3 a w2]; exact rI_9 (Or.inr rfl)
      · exact rI_R (S.isR (a := a) (by omega))
  · have la := ol q (nr (by decide)).1 (by decide)
    rw [(a2 a la).1] at q
    rw [(a2 a la).2.2.2.2] at e
    exact H.l6 a b q e
  · have la := ol q (nr (by decide)).1 (by decide)
    rw [(a2 a la).1] at q
    rw [(a2 a la).2.2.2.2] at e
    exact H.l8 a b q e
  · have la : a < x := by
      refine cs a (fun r => ?_) (fun r => ?_)
      · unfold muA at q; unfold isR at r; omega
      · rw [r] at q; unfold muA at q; omega
    rw [(a2 a la).1, (a2 a la).2.1] at q
    rw [(a2 a la).2.2.2.2]
    exact H.nn a ha j q
  · have la := ol q (nr (by decide)).1 (by decide)
    rw [(a2 a la).1] at q
    obtain ⟨r1, r2⟩ := H.rw a ha q
    have l1 : a + 1 < x := by
      have := H.ty a 0 (a + 1) (by rw [q]; exact own_9 (by decide)) r1
      exact lt (by rw [this, q]; decide)
    unfold rwT
    rw [(a2 a la).2.2.2.2, (a2 a la).2.2.1, (a2 (a + 1) l1).2.2.2.2]
    refine ⟨r1, fun i i1 i2 => ?_⟩
    obtain ⟨s, e1, e2⟩ := r2 i i1 i2
    have sa1 : cq_s h1 (a + 1) = 182 := by
      have := H.ty a 0 (a + 1) (by rw [q]; exact own_9 (by decide)) r1
      rw [this, q]; rfl
    have ss : cq_s h1 s = 7 := by
      have := H.ty (a + 1) i s (by rw [sa1]; unfold own; omega) e1
      rw [this, sa1]; rfl
    exact ⟨s, e1, by rw [(a2 s (lt (by rw [ss]; decide))).2.2.2.2]; exact e2⟩
  · have la := ol q (nr (by decide)).1 (by decide)
    rw [(a2 a la).1] at q
    rw [(a2 a la).2.2.2.2, (a2 a la).2.2.1]
    exact H.pe a q
  · rw [(a2 c kc).1]; exact H.cs
  · rw [(a2 c kc).2.2.1]; exact H.lk
  · unfold leT
    rw [(a2 c kc).2.2.2.2, (a2 c kc).2.2.1]
    intro b hb i i1 i2
    have sb : cq_s h1 b = 102 := by
      have := H.ty c 1 b (by rw [H.cs]; exact own_9 (by decide)) hb
      rw [this, H.cs]; rfl
    rw [(a2 b (lt (by rw [sb]; decide))).2.2.2.2]
    exact H.le b hb i i1 i2
end
