/-! class and reference side by side -/
section
variable {c x p : Nat} {n L Z Q D k N : Int} {U V : Int → Int} {E : Nat → Option Int} {h0 h h' : cx_Q}
theorem rS.isR (S : rS h x) {a : Nat} (ha : x ≤ a ∧ a ≤ x + 65) : isR (cq_s h a) := by
  by_cases e : a = x
  · rw [e, S.1]
    exact Or.inl rfl
  · have := (S.2 (a - x) (by omega) (by omega)).2.1
    rw [show x + (a - x) = a by omega] at this
    rw [this]
    unfold CRatchetPostLaw_law_r3677_28c36a.isR
    omega
/-- the reference's cells are as they were -/
theorem RI.fr (R : RI x n L U V k h0 h) (F : FR h h') : RI x n L U V k h' h' := by
  have S := R.1.rS
  have e : ∀ a, x ≤ a ∧ a ≤ x + 65 → cq_s h' a = cq_s h a ∧ cq_z h' a = cq_z h a ∧ cq_I h' a = cq_I h a ∧ cq_J h' a = cq_J h a ∧ cq_A h' a = cq_A h a := fun a ha => (F.2 a (S.isR ha)).2
  have e0 := e x (by omega)
  have eo : ∀ o : Nat, 1 ≤ o → o ≤ 65 → cq_I h' (x + o) = cq_I h (x + o) := fun o h1 h2 => (e (x + o) (by omega)).2.2.1
  obtain ⟨⟨m1, m2, m3, m4, m5, m6, m7, m8⟩, t1, t2, t3, t4, t5⟩ := R
  refine ⟨⟨⟨rfl, rfl, rfl, rfl, fun _ _ => ⟨rfl, rfl⟩⟩, ⟨e0.1.trans S.1, fun o h1 h2 => ?_⟩, fun o j h1 h2 => ?_, fun j => ?_, ?_, ?_, ?_, ?_⟩, ?_, ?_, ?_, fun o ho j => ?_, ?_⟩
  · rw [e0.2.2.2.2, (e (x + o) (by omega)).1, (e (x + o) (by omega)).2.1]
    exact S.2 o h1 h2
  · rw [eo o h1 h2]; exact m3 o j h1 h2
  · rw [e0.2.2.1]; exact m4 j
  · rw [eo 11 (by decide) (by decide)]; exact m5
  · rw [eo 16 (by decide) (by decide)]; exact m6
  · rw [e0.2.2.1]; exact m7
  · rw [e0.2.2.1]; exact m8
  · rw [e0.2.2.1]; exact t1
  · rw [e0.2.2.1]; exact t2
  · rw [e0.2.2.1]; exact t3
  · have o1 : ∀ o ∈ tV, 1 ≤ o ∧ o ≤ 65 := by decide
    rw [eo o (o1 o ho).1 (o1 o ho).2]
    exact t4 o ho j
  · have o1 : ∀ o ∈ tV, 1 ≤ o ∧ o ≤ 65 := by decide
    unfold TW at t5 ⊢
    rw [e0.2.2.1, eo 2 (by decide) (by decide), eo 3 (by decide) (by decide), eo 4 (by decide) (by decide), eo 5 (by decide) (by decide), eo 6 (by decide) (by decide)]
    refine ⟨t5.1, t5.2.1, fun o ho j => ?_, t5.2.2.2⟩
    rw [eo o (o1 o ho).1 (o1 o ho).2]
    exact t5.2.2.1 o ho j
theorem rI_R {s : Nat} {j v : Int} (q : isR s) : rI Z s j v := by
  unfold isR at q
  unfold rI
  rw [if_neg (by omega), if_neg (by omega), if_neg (by omega), if_neg (by omega), if_neg (by omega), if_neg (by omega), if_neg (by omega), if_neg (by omega), if_neg (by omega)]
  trivial
theorem isR_own {s : Nat} (q : isR s) : ¬ own s ∧ s ≠ 99 := by
  unfold isR at q
  unfold own
  omega
/-- the class's cells are as they were -/
theorem CB.wz (H : CB c n L Z E h0 [] h) (W : wz x h h') (S : rS h x) : CB c n L Z E h' [] h' := by
  have es : cq_s h' = cq_s h := W.2.1
  have ez : cq_z h' = cq_z h := W.2.2.1
  have eA : cq_A h' = cq_A h := W.2.2.2.1
  have eI : ∀ a, ¬ isR (cq_s h a) → cq_I h' a = cq_I h a := fun a q => (W.2.2.2.2 a (fun w => q (S.isR w))).1
  have lt : ∀ a, isR (cq_s h a) → a < h.1 := fun a q => by
    by_cases w : h.1 ≤ a
    · have := H.al a w
      exact absurd this (isR_own q).2
    · omega
  have ni : ∀ {a s : Nat}, cq_s h a = s → ¬ isR s → cq_I h' a = cq_I h a := fun q w => eI _ (by rw [q]; exact w)
  have i4 : ¬ isR 4 := by unfold isR; omega
  have i5 : ¬ isR 5 := by unfold isR; omega
  have i9 : ¬ isR 9 := by unfold isR; omega
  refine ⟨⟨Nat.le_refl _, fun a q => ⟨?_, rfl, rfl, rfl, rfl, rfl⟩⟩, ?_, ?_, ?_, fun a j => ?_, ?_, ?_, ?_, fun a ha q => ?_, fun a q => ?_, ?_, ?_, ?_, H.z0⟩
  · rw [es] at q
    rw [W.1]
    exact lt a q
  · rw [W.1, es]; exact H.al
  · rw [es, eA]; exact H.ty
  · rw [es, ez]; exact H.zz
  · rw [es]
    by_cases q : isR (cq_s h a)
    · exact rI_R q
    · rw [eI a q]
      exact H.ri a j
  · rw [es, eA]; exact H.l6
  · rw [es, eA]; exact H.l8
  · rw [es, eA, ez]; exact H.nn
  · rw [es] at q
    unfold rwT
    rw [eA, ni q i5]
    exact H.rw a ha q
  · rw [es] at q
    rw [eA, ni q i4]
    exact H.pe a q
  · rw [es]; exact H.cs
  · rw [ni H.cs i9]; exact H.lk
  · unfold leT
    rw [eA, ni H.cs i9]
    exact H.le
theorem CI.wz (H : CI c n L Z E h0 [] h) (W : wz x h h') (S : rS h x) : CI c n L Z E h' [] h' := by
  have no : ∀ a, (cq_s h a = 6 ∨ cq_s h a = 8 ∨ cq_s h a = 183 ∨ cq_s h a = 4 ∨ cq_s h a = 2) → ¬ (x ≤ a ∧ a ≤ x + 65) := fun a q w => by
    have := S.isR w
    unfold isR at this
    omega
  refine ⟨H.1.wz W S, (H.2.cg W.2.1 W.2.2.1 (fun a j q => ?_) (fun a j q => ?_) (fun a j q => by rw [W.2.2.2.1])).an⟩
  · unfold rlI at q
    simp only [Bool.or_eq_true, Bool.and_eq_true, beq_iff_eq] at q
    rw [(W.2.2.2.2 a (no a (by omega))).1]
  · unfold rlJ at q
    simp only [Bool.or_eq_true, Bool.and_eq_true, beq_iff_eq] at q
    rw [(W.2.2.2.2 a (no a (by omega))).2]
/-- users, told alike -/
def uT (c : Nat) (n : Int) (E : Nat → Option Int) (U V : Int → Int) (h : cx_Q) : Prop := ∃ b, cq_A h c 0 = some b ∧ cq_s h b = 105 ∧ peo h b n ∧ ∀ u, 0 ≤ u → u < n → ∀ q, cq_A h b u = some q → (U u = 0 → E q = none) ∧ (U u ≠ 0 → E q = some (V u))
/-- behind k calls -/
def LR (p c x : Nat) (n N L : Int) (U V : Int → Int) (k : Int) (h : cx_Q) : Prop := ∃ (Z : Int) (E : Nat → Option Int), CI c n L Z E h [] h ∧ Z ≤ 100 * k ∧ RI x n L U V k h h ∧ (2 ≤ n ∧ n ≤ 6) ∧ (0 ≤ L ∧ L ≤ k) ∧ (∀ u, 0 ≤ V u ∧ V u ≤ 20) ∧ (∀ u, U u = 0 → V u = 0) ∧ (cq_s h p = 98 ∧ cq_z h p = N) ∧ uT c n E U V h
theorem uT.kz (w : uT c n E U V h) (z : kz c h h') : uT c n E U V h' := by
  obtain ⟨b, e1, e2, e3, e4⟩ := w
  have eb : cq_A h' b = cq_A h b := z.2.1 b e2
  refine ⟨b, by rw [z.2.2]; exact e1, z.s e2 (by decide), ⟨fun j q1 q2 => ?_, fun j k q1 q2 q3 => ?_⟩, fun u q1 q2 q => ?_⟩
  · obtain ⟨p, w1, w2⟩ := e3.1 j q1 q2
    exact ⟨p, by rw [eb]; exact w1, z.s w2 (by decide)⟩
  · rw [eb]; exact e3.2 j k q1 q2 q3
  · rw [eb]; exact e4 u q1 q2 q
theorem wz.kz (W : wz x h h') : kz c h h' := ⟨fun a _ => by rw [W.2.1], fun a _ => by rw [W.2.2.2.1], by rw [W.2.2.2.1]⟩
/-- a call of both was made -/
theorem LR.mk (hk : 0 ≤ k) (H : CI c n L Z E h0 [] h) (hZ : Z ≤ 100 * (k + 1)) (R : RI x n L U V (k + 1) h h') (hn : 2 ≤ n ∧ n ≤ 6) (hL : 0 ≤ L ∧ L ≤ k + 1) (hV : ∀ u, 0 ≤ V u ∧ V u ≤ 20) (hU : ∀ u, U u = 0 → V u = 0) (S : rS h x) (hp : cq_s h p = 98 ∧ cq_z h p = N) (w : uT c n E U V h) : LR p c x n N L U V (k + 1) h' := by
  have W := R.1.1
  refine ⟨Z, E, H.wz W S, hZ, R.fr ⟨Nat.le_refl _, fun a q => ⟨?_, rfl, rfl, rfl, rfl, rfl⟩⟩, hn, hL, hV, hU, ?_, w.kz W.kz⟩
  · have al := (H.wz W S).al
    by_cases z : h'.1 ≤ a
    · exact absurd (al a z) (isR_own q).2
    · omega
  · rw [W.2.1, W.2.2.1]; exact hp
end
