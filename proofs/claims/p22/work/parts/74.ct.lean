/-! the class: SECRETS and turns, as they hang together -/
def dV (s : Int64) (d : Int) : Int64 := f_asSecret (f_mix s (Int64.ofInt (d + 1)))
def dO (s : Int64) (d : Int) : Int64 := f_power (Int64.ofInt 3) (dV s d)
theorem nw_o {h : cx_Q} {s a : Nat} {z : Int} (q : a ≠ h.1) : cq_s (cq_nw h s z) a = cq_s h a ∧ cq_z (cq_nw h s z) a = cq_z h a ∧ cq_I (cq_nw h s z) a = cq_I h a ∧ cq_J (cq_nw h s z) a = cq_J h a ∧ cq_A (cq_nw h s z) a = cq_A h a := ⟨if_neg q, if_neg q, if_neg q, if_neg q, if_neg q⟩
theorem nw_n {h : cx_Q} {s : Nat} {z : Int} : cq_s (cq_nw h s z) h.1 = s ∧ cq_z (cq_nw h s z) h.1 = z ∧ cq_I (cq_nw h s z) h.1 = (fun _ => 0) ∧ cq_J (cq_nw h s z) h.1 = (fun _ => 0) ∧ cq_A (cq_nw h s z) h.1 = (fun _ => none) := ⟨if_pos rfl, if_pos rfl, if_pos rfl, if_pos rfl, if_pos rfl⟩
/-- what SECRETS and turns rest on -/
def rlI (s : Nat) (j : Int) : Bool := s == 6 || s == 8 || s == 183 || (s == 4 && j == 1) || (s == 2 && j == 3)
def rlJ (s : Nat) (j : Int) : Bool := s == 6 || (s == 4 && j == 0)
def rlA (s : Nat) (j : Int) : Bool := s == 6 || s == 8 || s == 101 || s == 174 || s == 7 || (s == 9 && j == 14) || (s == 1 && j == 3) || (s == 4 && j == 2) || (s == 2 && j == 2)
/-- a chain of SECRETS: its newest is the n-th or an earlier one -/
def chD (h : cx_Q) (sd : Int64) : Nat → Option Nat → Prop
  | 0, o => o = none
  | n + 1, o => (∃ w, o = some w ∧ cq_s h w = 6 ∧ cq_J h w 1 = dO sd n ∧ chD h sd n (cq_A h w 2)) ∨ chD h sd n o
/-- a SECRET of a chain -/
def inD (h : cx_Q) : Nat → Option Nat → Nat → Prop
  | 0, _, _ => False
  | n + 1, o, w => ∃ t, o = some t ∧ cq_s h t = 6 ∧ (t = w ∨ inD h n (cq_A h t 2) w)
/-- a turn of a row of sisters -/
def inL (h : cx_Q) : Nat → Option Nat → Nat → Prop
  | 0, _, _ => False
  | n + 1, o, a => ∃ t, o = some t ∧ cq_s h t = 8 ∧ (t = a ∨ inL h n (cq_A h t 3) a)
/-- pairs that are the same -/
def mtR (h : cx_Q) (r q : Nat) : Prop := cq_z h q = cq_z h r ∧ ∀ i, 0 ≤ i → 2 * i + 1 < cq_z h r → (cq_A h r (2 * i) ≠ none ∧ cq_A h r (2 * i + 1) ≠ none) ∧ ((cq_A h r (2 * i) = cq_A h q (2 * i) ∧ cq_A h r (2 * i + 1) = cq_A h q (2 * i + 1)) ∨ (cq_A h r (2 * i) = cq_A h q (2 * i + 1) ∧ cq_A h r (2 * i + 1) = cq_A h q (2 * i)))
theorem mtR.symm {h : cx_Q} {r q : Nat} (m : mtR h r q) : mtR h q r := by
  refine ⟨m.1.symm, fun i i0 i1 => ?_⟩
  obtain ⟨⟨a1, a2⟩, b⟩ := m.2 i i0 (by rw [← m.1]; exact i1)
  rcases b with ⟨b1, b2⟩ | ⟨b1, b2⟩
  · rw [b1] at a1
    rw [b2] at a2
    exact ⟨⟨a1, a2⟩, Or.inl ⟨b1.symm, b2.symm⟩⟩
  · rw [b1] at a1
    rw [b2] at a2
    exact ⟨⟨a2, a1⟩, Or.inr ⟨b2.symm, b1.symm⟩⟩
theorem chD_c {h h' : cx_Q} {sd : Int64} (e : ∀ w, cq_s h w = 6 → cq_s h' w = 6 ∧ cq_J h' w 1 = cq_J h w 1 ∧ cq_A h' w 2 = cq_A h w 2) : ∀ {n : Nat} {o : Option Nat}, chD h sd n o → chD h' sd n o
  | 0, _, q => q
  | n + 1, o, q => by
    rcases q with ⟨w, q0, q1, q2, q3⟩ | q
    · obtain ⟨e1, e2, e3⟩ := e w q1
      exact Or.inl ⟨w, q0, e1, e2.trans q2, by rw [e3]; exact chD_c e q3⟩
    · exact Or.inr (chD_c e q)
theorem inD_c {h h' : cx_Q} (e : ∀ w, cq_s h w = 6 → cq_s h' w = 6 ∧ cq_A h' w 2 = cq_A h w 2) : ∀ {n : Nat} {o : Option Nat} {w : Nat}, inD h n o w → inD h' n o w
  | 0, _, _, q => q
  | n + 1, o, w, q => by
    obtain ⟨t, q1, q2, q3⟩ := q
    obtain ⟨e1, e2⟩ := e t q2
    refine ⟨t, q1, e1, ?_⟩
    rcases q3 with q3 | q3
    · exact Or.inl q3
    · exact Or.inr (by rw [e2]; exact inD_c e q3)
theorem inD_s {h : cx_Q} : ∀ {n : Nat} {o : Option Nat} {w : Nat}, inD h n o w → cq_s h w = 6
  | 0, _, _, q => q.elim
  | n + 1, o, w, q => by
    obtain ⟨t, q1, q2, q3⟩ := q
    rcases q3 with q3 | q3
    · rw [← q3]; exact q2
    · exact inD_s q3
theorem inL_c {h h' : cx_Q} (e : ∀ w, cq_s h w = 8 → cq_s h' w = 8 ∧ cq_A h' w 3 = cq_A h w 3) : ∀ {n : Nat} {o : Option Nat} {w : Nat}, inL h n o w → inL h' n o w
  | 0, _, _, q => q
  | n + 1, o, w, q => by
    obtain ⟨t, q1, q2, q3⟩ := q
    obtain ⟨e1, e2⟩ := e t q2
    refine ⟨t, q1, e1, ?_⟩
    rcases q3 with q3 | q3
    · exact Or.inl q3
    · exact Or.inr (by rw [e2]; exact inL_c e q3)
theorem mtR_c {h h' : cx_Q} {r q : Nat} (e1 : cq_z h' r = cq_z h r) (e2 : cq_z h' q = cq_z h q) (e3 : ∀ j, cq_A h' r j = cq_A h r j) (e4 : ∀ j, cq_A h' q j = cq_A h q j) (m : mtR h' r q) : mtR h r q := by
  refine ⟨by rw [← e1, ← e2]; exact m.1, fun i i0 i1 => ?_⟩
  rw [← e1] at i1
  have := m.2 i i0 i1
  rw [e3, e3, e4, e4] at this
  exact this
/-- h0 the memory ahead of the call; E c = none: no LOOK is under way -/
def CT (c : Nat) (E : Nat → Option Int) (h0 : cx_Q) (X : List Nat) (h : cx_Q) : Prop :=
  (∀ a, cq_s h0 a ≠ 99 → cq_s h a = cq_s h0 a ∧ cq_z h a = cq_z h0 a)
  ∧ (∀ a j, cq_s h0 a = 6 → cq_J h a j = cq_J h0 a j ∧ cq_A h a j = cq_A h0 a j ∧ (E c = none → cq_I h a j = cq_I h0 a j))
  ∧ (∀ a j, cq_s h0 a = 8 → (j ≠ 2 → cq_A h a j = cq_A h0 a j) ∧ (E c = none → cq_I h a j = cq_I h0 a j))
  ∧ (∀ a j, cq_s h0 a = 101 → cq_A h a j = cq_A h0 a j)
  ∧ (∀ a j, cq_s h0 a = 183 → E c = none → cq_I h a j = cq_I h0 a j)
  ∧ (∀ a, cq_s h0 a = 99 → cq_s h a = 8 → a ∉ X → E c = none → cq_I h a 4 = 0 ∧ cq_I h a 5 = 1000000 ∧ (cq_A h a 0 ≠ none → cq_s h (a + 1) = 183 ∧ ∀ j, cq_I h (a + 1) j = 0))
  ∧ (∀ a, cq_s h a = 8 → a ∉ X → cq_A h a 0 = none ∨ ∃ b, cq_A h a 0 = some b ∧ b < a ∧ cq_s h b = 8 ∧ cq_A h a 6 = some (a + 1) ∧ cq_s h (a + 1) = 183 ∧ ∃ n, inL h n (cq_A h b 2) a)
  ∧ (∀ b t, cq_s h b = 8 → cq_A h b 2 = some t → t ∉ X ∧ cq_s h t = 8 ∧ cq_A h t 0 = some b)
  ∧ (∀ b t, cq_s h b = 8 → b ∉ X → cq_A h b 3 = some t → t ∉ X ∧ cq_s h t = 8 ∧ cq_A h t 0 = cq_A h b 0)
  ∧ (∀ a b r q, cq_s h a = 8 → cq_s h b = 8 → a ∉ X → b ∉ X → cq_A h a 0 = cq_A h b 0 → cq_A h a 0 ≠ none → cq_A h a 1 = some r → cq_A h b 1 = some q → mtR h r q → a = b)
  ∧ (∀ p, cq_s h p = 4 → chD h (cq_J h p 0) (cq_I h p 1).toNat (cq_A h p 2))
  ∧ (∀ w, cq_s h w = 6 → w ∉ X → ∃ p n, cq_s h p = 4 ∧ inD h n (cq_A h p 2) w)
  ∧ (∀ p n w, cq_s h p = 4 → inD h n (cq_A h p 2) w → w ∉ X)
  ∧ (∀ a r, cq_s h a = 8 → a ∉ X → cq_A h a 1 = some r → cq_s h r = 101)
  ∧ (∀ a, cq_s h0 a = 99 → cq_s h a = 6 → a ∉ X → E c = none → cq_I h a 3 = 0)
  ∧ (∀ d j, cq_s h0 d = 174 → E d = none → cq_A h d j = cq_A h0 d j)
  ∧ (∀ p, cq_s h p = 4 → cq_s h0 p = 4 ∨ E c ≠ none)
  ∧ (∀ a j k, cq_s h0 a = k → (k = 7 ∨ (k = 9 ∧ j = 14) ∨ (k = 1 ∧ j = 3)) → E a = none → cq_A h a j = cq_A h0 a j)
  ∧ (∀ a, cq_s h0 a = 2 → cq_A h a 2 = cq_A h0 a 2 ∧ cq_I h a 3 = cq_I h0 a 3)
section
variable {c : Nat} {E : Nat → Option Int} {h0 : cx_Q} {X : List Nat} {h h' : cx_Q}
/-- nothing of that is other -/
theorem CT.cg (H : CT c E h0 X h) (es : cq_s h' = cq_s h) (ez : cq_z h' = cq_z h) (eI : ∀ a j, rlI (cq_s h a) j = true → cq_I h' a j = cq_I h a j) (eJ : ∀ a j, rlJ (cq_s h a) j = true → cq_J h' a j = cq_J h a j) (eA : ∀ a j, rlA (cq_s h a) j = true → cq_A h' a j = cq_A h a j) : CT c E h0 X h' := by
  obtain ⟨t1, t2, t3, t4, t5, t6, t7, t8, t9, t10, t11, t12, t13, t14, t15, t16, t17, t18, t19⟩ := H
  have s0 : ∀ {a k : Nat}, cq_s h0 a = k → k ≠ 99 → cq_s h a = k := fun {a k} q w => (t1 a (by rw [q]; exact w)).1.trans q
  have I6 : ∀ {a : Nat} (j : Int), cq_s h a = 6 → cq_I h' a j = cq_I h a j := fun {a} j q => eI a j (by rw [q]; rfl)
  have I8 : ∀ {a : Nat} (j : Int), cq_s h a = 8 → cq_I h' a j = cq_I h a j := fun {a} j q => eI a j (by rw [q]; rfl)
  have I183 : ∀ {a : Nat} (j : Int), cq_s h a = 183 → cq_I h' a j = cq_I h a j := fun {a} j q => eI a j (by rw [q]; rfl)
  have J6 : ∀ {a : Nat} (j : Int), cq_s h a = 6 → cq_J h' a j = cq_J h a j := fun {a} j q => eJ a j (by rw [q]; rfl)
  have A6 : ∀ {a : Nat} (j : Int), cq_s h a = 6 → cq_A h' a j = cq_A h a j := fun {a} j q => eA a j (by rw [q]; rfl)
  have A8 : ∀ {a : Nat} (j : Int), cq_s h a = 8 → cq_A h' a j = cq_A h a j := fun {a} j q => eA a j (by rw [q]; rfl)
  have A101 : ∀ {a : Nat} (j : Int), cq_s h a = 101 → cq_A h' a j = cq_A h a j := fun {a} j q => eA a j (by rw [q]; rfl)
  have I41 : ∀ {a : Nat}, cq_s h a = 4 → cq_I h' a 1 = cq_I h a 1 := fun {a} q => eI a 1 (by rw [q]; rfl)
  have J40 : ∀ {a : Nat}, cq_s h a = 4 → cq_J h' a 0 = cq_J h a 0 := fun {a} q => eJ a 0 (by rw [q]; rfl)
  have A42 : ∀ {a : Nat}, cq_s h a = 4 → cq_A h' a 2 = cq_A h a 2 := fun {a} q => eA a 2 (by rw [q]; rfl)
  have cD : ∀ w, cq_s h w = 6 → cq_s h' w = 6 ∧ cq_J h' w 1 = cq_J h w 1 ∧ cq_A h' w 2 = cq_A h w 2 := fun w q => ⟨by rw [es]; exact q, J6 1 q, A6 2 q⟩
  have cD2 : ∀ w, cq_s h w = 6 → cq_s h' w = 6 ∧ cq_A h' w 2 = cq_A h w 2 := fun w q => ⟨by rw [es]; exact q, A6 2 q⟩
  have cD3 : ∀ w, cq_s h' w = 6 → cq_s h w = 6 ∧ cq_A h w 2 = cq_A h' w 2 := fun w q => by rw [es] at q; exact ⟨q, (A6 2 q).symm⟩
  have cL : ∀ w, cq_s h w = 8 → cq_s h' w = 8 ∧ cq_A h' w 3 = cq_A h w 3 := fun w q => ⟨by rw [es]; exact q, A8 3 q⟩
  refine ⟨?_, ?_, ?_, ?_, ?_, ?_, ?_, ?_, ?_, ?_, ?_, ?_, ?_, ?_, ?_, ?_, ?_, ?_, ?_⟩
  · rw [es, ez]; exact t1
  · intro a j q
    have s := s0 q (by decide)
    rw [J6 j s, A6 j s, I6 j s]
    exact t2 a j q
  · intro a j q
    have s := s0 q (by decide)
    rw [A8 j s, I8 j s]
    exact t3 a j q
  · intro a j q
    rw [A101 j (s0 q (by decide))]
    exact t4 a j q
  · intro a j q
    rw [I183 j (s0 q (by decide))]
    exact t5 a j q
  · intro a q0 q1 q2 q3
    rw [es] at q1 ⊢
    rw [I8 4 q1, I8 5 q1, A8 0 q1]
    obtain ⟨w1, w2, w3⟩ := t6 a q0 q1 q2 q3
    exact ⟨w1, w2, fun z => ⟨(w3 z).1, fun j => by rw [I183 j (w3 z).1]; exact (w3 z).2 j⟩⟩
  · intro a q1 q2
    rw [es] at q1 ⊢
    rw [A8 0 q1, A8 6 q1]
    rcases t7 a q1 q2 with w | ⟨b, w1, w2, w3, w4, w5, n, w6⟩
    · exact Or.inl w
    · exact Or.inr ⟨b, w1, w2, w3, w4, w5, n, by rw [A8 2 w3]; exact inL_c cL w6⟩
  · intro b t q1 q2
    rw [es] at q1 ⊢
    rw [A8 2 q1] at q2
    obtain ⟨w1, w2, w3⟩ := t8 b t q1 q2
    exact ⟨w1, w2, by rw [A8 0 w2]; exact w3⟩
  · intro b t q1 q0 q2
    rw [es] at q1 ⊢
    rw [A8 3 q1] at q2
    obtain ⟨w1, w2, w3⟩ := t9 b t q1 q0 q2
    exact ⟨w1, w2, by rw [A8 0 w2, A8 0 q1]; exact w3⟩
  · intro a b r q a1 a2 a3 a4 a5 a6 a7 a8 m
    rw [es] at a1 a2
    rw [A8 0 a1, A8 0 a2] at a5
    rw [A8 0 a1] at a6
    rw [A8 1 a1] at a7
    rw [A8 1 a2] at a8
    have sr := t14 a r a1 a3 a7
    have sq := t14 b q a2 a4 a8
    exact t10 a b r q a1 a2 a3 a4 a5 a6 a7 a8 (mtR_c (by rw [ez]) (by rw [ez]) (fun j => A101 j sr) (fun j => A101 j sq) m)
  · intro p q
    rw [es] at q
    rw [J40 q, I41 q, A42 q]
    exact chD_c cD (t11 p q)
  · intro w q1 q2
    rw [es] at q1
    obtain ⟨p, n, w1, w2⟩ := t12 w q1 q2
    exact ⟨p, n, by rw [es]; exact w1, by rw [A42 w1]; exact inD_c cD2 w2⟩
  · intro p n w q1 q2
    rw [es] at q1
    rw [A42 q1] at q2
    exact t13 p n w q1 (inD_c cD3 q2)
  · intro a r q1 q2 q3
    rw [es] at q1 ⊢
    rw [A8 1 q1] at q3
    exact t14 a r q1 q2 q3
  · intro a q0 q1 q2 q3
    rw [es] at q1
    rw [I6 3 q1]
    exact t15 a q0 q1 q2 q3
  · intro d j q0 q1
    rw [eA d j (by rw [s0 q0 (by decide)]; rfl)]
    exact t16 d j q0 q1
  · rw [es]; exact t17
  · intro a j k q0 q9 q1
    rw [eA a j (by rw [s0 q0 (by omega)]; rcases q9 with rfl | ⟨rfl, rfl⟩ | ⟨rfl, rfl⟩ <;> rfl)]
    exact t18 a j k q0 q9 q1
  · intro a q0
    rw [eA a 2 (by rw [s0 q0 (by decide)]; rfl), eI a 3 (by rw [s0 q0 (by decide)]; rfl)]
    exact t19 a q0
theorem CT.sI (H : CT c E h0 X h) {a s : Nat} {j v : Int} (hs : cq_s h a = s) (hx : rlI s j = false) : CT c E h0 X (cq_sI h a j v) := H.cg rfl rfl (fun b k q => by
  rw [mm_sI, if_neg (fun e => ?_)]
  rw [e.1, e.2, hs, hx] at q
  cases q) (fun _ _ _ => rfl) (fun _ _ _ => rfl)
theorem CT.sJ (H : CT c E h0 X h) {a s : Nat} {j : Int} {v : Int64} (hs : cq_s h a = s) (hx : rlJ s j = false) : CT c E h0 X (cq_sJ h a j v) := H.cg rfl rfl (fun _ _ _ => rfl) (fun b k q => by
  rw [mm_sJ, if_neg (fun e => ?_)]
  rw [e.1, e.2, hs, hx] at q
  cases q) (fun _ _ _ => rfl)
theorem CT.sA (H : CT c E h0 X h) {a s : Nat} {j : Int} {v : Option Nat} (hs : cq_s h a = s) (hx : rlA s j = false) : CT c E h0 X (cq_sA h a j v) := H.cg rfl rfl (fun _ _ _ => rfl) (fun _ _ _ => rfl) (fun b k q => by
  rw [mm_sA, if_neg (fun e => ?_)]
  rw [e.1, e.2, hs, hx] at q
  cases q)
theorem CT.E_ {E' : Nat → Option Int} (H : CT c E h0 X h) (e : E' c = E c) (e4 : ∀ d, E' d = none → E d = none) : CT c E' h0 X h := by
  obtain ⟨t1, t2, t3, t4, t5, t6, t7, t8, t9, t10, t11, t12, t13, t14, t15, t16, t17, t18, t19⟩ := H
  unfold CT
  rw [e]
  exact ⟨t1, t2, t3, t4, t5, t6, t7, t8, t9, t10, t11, t12, t13, t14, t15, fun d j q w => t16 d j q (e4 d w), t17, fun a j k q z w => t18 a j k q z (e4 a w), t19⟩
theorem CT.old (H : CT c E h0 X h) {a : Nat} (q : cq_s h a = 99) : cq_s h0 a = 99 := by
  by_cases w : cq_s h0 a = 99
  · exact w
  · exact (H.1 a w).1.symm.trans q
/-- a cell more -/
theorem CT.nw (H : CT c E h0 X h) (al : cq_s h h.1 = 99) (h6 : ∀ t b, cq_s h t = 6 → cq_A h t 2 = some b → b ≠ h.1) {s : Nat} {z : Int} (hc : s = 4 → E c ≠ none) : CT c E h0 (h.1 :: X) (cq_nw h s z) := by
  have hq := H.old al
  obtain ⟨t1, t2, t3, t4, t5, t6, t7, t8, t9, t10, t11, t12, t13, t14, t15, t16, t17, t18, t19⟩ := H
  have o : ∀ {a k : Nat}, cq_s h a = k → k ≠ 99 → a ≠ h.1 := fun {a k} q w e => by rw [e, al] at q; exact w q.symm
  have o0 : ∀ {a k : Nat}, cq_s h0 a = k → k ≠ 99 → a ≠ h.1 := fun {a k} q w e => by rw [e, hq] at q; exact w q.symm
  obtain ⟨n1, n2, n3, n4, n5⟩ := nw_n (h := h) (s := s) (z := z)
  have w_ : ∀ {a : Nat}, a ≠ h.1 → cq_s (cq_nw h s z) a = cq_s h a ∧ cq_z (cq_nw h s z) a = cq_z h a ∧ cq_I (cq_nw h s z) a = cq_I h a ∧ cq_J (cq_nw h s z) a = cq_J h a ∧ cq_A (cq_nw h s z) a = cq_A h a := fun {a} q => nw_o q
  have nX : ∀ {a : Nat}, a ∉ h.1 :: X → a ≠ h.1 ∧ a ∉ X := fun {a} q => ⟨fun e => q (by rw [e]; exact List.mem_cons_self), fun e => q (List.mem_cons_of_mem _ e)⟩
  have yX : ∀ {a k : Nat}, cq_s h a = k → k ≠ 99 → a ∉ X → a ∉ h.1 :: X := fun {a k} q w z e => (List.mem_cons.mp e).elim (o q w) z
  have cL : ∀ w, cq_s h w = 8 → cq_s (cq_nw h s z) w = 8 ∧ cq_A (cq_nw h s z) w 3 = cq_A h w 3 := fun w q => by
    obtain ⟨b1, _, _, _, b5⟩ := w_ (o q (by decide))
    rw [b1, b5]
    exact ⟨q, rfl⟩
  have cD : ∀ w, cq_s h w = 6 → cq_s (cq_nw h s z) w = 6 ∧ cq_J (cq_nw h s z) w 1 = cq_J h w 1 ∧ cq_A (cq_nw h s z) w 2 = cq_A h w 2 := fun w q => by
    obtain ⟨b1, _, _, b4, b5⟩ := w_ (o q (by decide))
    rw [b1, b4, b5]
    exact ⟨q, rfl, rfl⟩
  have cD2 : ∀ w, cq_s h w = 6 → cq_s (cq_nw h s z) w = 6 ∧ cq_A (cq_nw h s z) w 2 = cq_A h w 2 := fun w q => ⟨(cD w q).1, (cD w q).2.2⟩
  have bk : ∀ {n : Nat} {o' : Option Nat} {w : Nat}, (∀ t, o' = some t → t ≠ h.1) → inD (cq_nw h s z) n o' w → (∀ t b, cq_s h t = 6 → cq_A h t 2 = some b → b ≠ h.1) → inD h n o' w := by
    intro n
    induction n with
    | zero => exact fun _ q _ => q
    | succ n ih =>
      intro o' w ho q hl
      obtain ⟨t, q1, q2, q3⟩ := q
      obtain ⟨b1, _, _, _, b5⟩ := w_ (ho t q1)
      rw [b1] at q2
      rw [b5] at q3
      exact ⟨t, q1, q2, q3.elim Or.inl (fun y => Or.inr (ih (fun b e => hl t b q2 e) y hl))⟩
  have ch6 : ∀ {n : Nat} {sd : Int64} {o' : Option Nat} {t : Nat}, chD h sd n o' → o' = some t → cq_s h t = 6 := by
    intro n
    induction n with
    | zero => exact fun q e => by rw [show _ = none from q] at e; cases e
    | succ n ih =>
      intro sd o' t q e
      rcases q with ⟨w, q0, q1, _⟩ | q
      · rw [q0] at e
        cases e
        exact q1
      · exact ih q e
  refine ⟨?_, ?_, ?_, ?_, ?_, ?_, ?_, ?_, ?_, ?_, ?_, ?_, ?_, ?_, ?_, ?_, ?_, ?_, ?_⟩
  · intro a q
    obtain ⟨b1, b2, _⟩ := w_ (o0 (a := a) rfl q)
    rw [b1, b2]
    exact t1 a q
  · intro a j q
    obtain ⟨_, _, b3, b4, b5⟩ := w_ (o0 q (by decide))
    rw [b3, b4, b5]
    exact t2 a j q
  · intro a j q
    obtain ⟨_, _, b3, b4, b5⟩ := w_ (o0 q (by decide))
    rw [b3, b5]
    exact t3 a j q
  · intro a j q
    obtain ⟨_, _, b3, b4, b5⟩ := w_ (o0 q (by decide))
    rw [b5]
    exact t4 a j q
  · intro a j q
    obtain ⟨_, _, b3, b4, b5⟩ := w_ (o0 q (by decide))
    rw [b3]
    exact t5 a j q
  · intro a q0 q1 q2 q3
    obtain ⟨x1, x2⟩ := nX q2
    obtain ⟨b1, _, b3, _, b5⟩ := w_ x1
    rw [b1] at q1
    rw [b3, b5]
    obtain ⟨w1, w2, w3⟩ := t6 a q0 q1 x2 q3
    refine ⟨w1, w2, fun y => ?_⟩
    obtain ⟨c1, _, c3, _⟩ := w_ (o (w3 y).1 (by decide))
    rw [c1, c3]
    exact w3 y
  · intro a q1 q2
    obtain ⟨x1, x2⟩ := nX q2
    obtain ⟨b1, _, b3, _, b5⟩ := w_ x1
    rw [b1] at q1
    rw [b5]
    rcases t7 a q1 x2 with w | ⟨b, w1, w2, w3, w4, w5, n, w6⟩
    · exact Or.inl w
    · obtain ⟨c1, _, _, _, c5⟩ := w_ (o w3 (by decide))
      obtain ⟨d1, _⟩ := w_ (o w5 (by decide))
      exact Or.inr ⟨b, w1, w2, by rw [c1]; exact w3, w4, by rw [d1]; exact w5, n, by rw [c5]; exact inL_c cL w6⟩
  · intro b t q1 q2
    by_cases e : b = h.1
    · rw [e, n5] at q2
      cases q2
    · obtain ⟨b1, _, _, _, b5⟩ := w_ e
      rw [b1] at q1
      rw [b5] at q2
      obtain ⟨w1, w2, w3⟩ := t8 b t q1 q2
      obtain ⟨c1, _, _, _, c5⟩ := w_ (o w2 (by decide))
      exact ⟨yX w2 (by decide) w1, by rw [c1]; exact w2, by rw [c5]; exact w3⟩
  · intro b t q1 q0 q2
    obtain ⟨x1, x2⟩ := nX q0
    obtain ⟨b1, _, _, _, b5⟩ := w_ x1
    rw [b1] at q1
    rw [b5] at q2
    obtain ⟨w1, w2, w3⟩ := t9 b t q1 x2 q2
    obtain ⟨c1, _, _, _, c5⟩ := w_ (o w2 (by decide))
    exact ⟨yX w2 (by decide) w1, by rw [c1]; exact w2, by rw [c5, b5]; exact w3⟩
  · intro a b r q a1 a2 a3 a4 a5 a6 a7 a8 m
    obtain ⟨x1, x2⟩ := nX a3
    obtain ⟨y1, y2⟩ := nX a4
    obtain ⟨b1, _, _, _, b5⟩ := w_ x1
    obtain ⟨c1, _, _, _, c5⟩ := w_ y1
    rw [b1] at a1
    rw [c1] at a2
    rw [b5, c5] at a5
    rw [b5] at a6 a7
    rw [c5] at a8
    have sr := w_ (o (t14 a r a1 x2 a7) (by decide))
    have sq := w_ (o (t14 b q a2 y2 a8) (by decide))
    exact t10 a b r q a1 a2 x2 y2 a5 a6 a7 a8 (mtR_c sr.2.1 sq.2.1 (fun j => by rw [sr.2.2.2.2]) (fun j => by rw [sq.2.2.2.2]) m)
  · intro p q
    by_cases e : p = h.1
    · rw [e, n5, n3]
      exact rfl
    · obtain ⟨b1, _, b3, b4, b5⟩ := w_ e
      rw [b1] at q
      rw [b3, b4, b5]
      exact chD_c cD (t11 p q)
  · intro w q1 q2
    obtain ⟨x1, x2⟩ := nX q2
    obtain ⟨b1, _⟩ := w_ x1
    rw [b1] at q1
    obtain ⟨p, n, w1, w2⟩ := t12 w q1 x2
    obtain ⟨c1, _, _, _, c5⟩ := w_ (o w1 (by decide))
    exact ⟨p, n, by rw [c1]; exact w1, by rw [c5]; exact inD_c cD2 w2⟩
  · intro p n w q1 q2
    by_cases e : p = h.1
    · rw [e, n5] at q2
      cases n with
      | zero => exact q2.elim
      | succ n =>
        obtain ⟨t, q3, _⟩ := q2
        cases q3
    · obtain ⟨b1, _, b3, b4, b5⟩ := w_ e
      rw [b1] at q1
      rw [b5] at q2
      have c0 := t11 p q1
      have key : inD h n (cq_A h p 2) w := by
        exact bk (fun t e' => o (ch6 c0 e') (by decide)) q2 h6
      exact yX (inD_s key) (by decide) (t13 p n w q1 key)
  · intro a r q1 q2 q3
    obtain ⟨x1, x2⟩ := nX q2
    obtain ⟨b1, _, _, _, b5⟩ := w_ x1
    rw [b1] at q1
    rw [b5] at q3
    have sr := t14 a r q1 x2 q3
    rw [(w_ (o sr (by decide))).1]
    exact sr
  · intro a q0 q1 q2 q3
    obtain ⟨x1, x2⟩ := nX q2
    obtain ⟨b1, _, b3, _, _⟩ := w_ x1
    rw [b1] at q1
    rw [b3]
    exact t15 a q0 q1 x2 q3
  · intro d j q0 q1
    rw [(w_ (o0 q0 (by decide))).2.2.2.2]
    exact t16 d j q0 q1
  · intro p q
    by_cases e : p = h.1
    · rw [e, n1] at q
      exact Or.inr (hc q)
    · rw [(w_ e).1] at q
      exact t17 p q
  · intro a j k q0 q9 q1
    rw [(w_ (o0 q0 (by omega))).2.2.2.2]
    exact t18 a j k q0 q9 q1
  · intro a q0
    obtain ⟨_, _, b3, _, b5⟩ := w_ (o0 q0 (by decide))
    rw [b3, b5]
    exact t19 a q0
end
