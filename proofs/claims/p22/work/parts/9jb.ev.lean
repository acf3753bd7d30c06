/-! the class: alike but for what LOOKS leave behind -/
def okI (s : Nat) : Bool := s != 6 && s != 8 && s != 183 && s != 99
def okA (s : Nat) : Bool := s != 8 && s != 99
def ev (h h' : cx_Q) : Prop := h.1 ≤ h'.1 ∧ (∀ a, cq_s h a ≠ 99 → cq_s h' a = cq_s h a ∧ cq_z h' a = cq_z h a ∧ cq_J h' a = cq_J h a) ∧ (∀ a, okI (cq_s h a) = true → cq_I h' a = cq_I h a) ∧ (∀ a, okA (cq_s h a) = true → cq_A h' a = cq_A h a) ∧ ∀ a j, cq_s h a = 8 → j ≠ 2 → cq_A h' a j = cq_A h a j
theorem okI_9 {s : Nat} (q : okI s = true) : s ≠ 99 := fun e => by rw [e] at q; exact absurd q (by decide)
theorem okA_9 {s : Nat} (q : okA s = true) : s ≠ 99 := fun e => by rw [e] at q; exact absurd q (by decide)
section
variable {h h' h1 h2 : cx_Q} {a b k0 : Nat} {j v : Int} {w : Int64} {o : Option Nat}
theorem ev.refl : ev h h := ⟨Nat.le_refl _, fun _ _ => ⟨rfl, rfl, rfl⟩, fun _ _ => rfl, fun _ _ => rfl, fun _ _ _ _ => rfl⟩
theorem ev.trans (p : ev h h1) (q : ev h1 h2) : ev h h2 := by
  refine ⟨Nat.le_trans p.1 q.1, fun a w => ?_, fun a w => ?_, fun a w => ?_, fun a j w w2 => (q.2.2.2.2 a j ((p.2.1 a (by rw [w]; decide)).1.trans w) w2).trans (p.2.2.2.2 a j w w2)⟩
  · obtain ⟨p1, p2, p3⟩ := p.2.1 a w
    obtain ⟨q1, q2, q3⟩ := q.2.1 a (by rw [p1]; exact w)
    exact ⟨q1.trans p1, q2.trans p2, q3.trans p3⟩
  · have p1 := (p.2.1 a (okI_9 w)).1
    exact (q.2.2.1 a (by rw [p1]; exact w)).trans (p.2.2.1 a w)
  · have p1 := (p.2.1 a (okA_9 w)).1
    exact (q.2.2.2.1 a (by rw [p1]; exact w)).trans (p.2.2.2.1 a w)
theorem ev.s (p : ev h h') (hs : cq_s h a = k0) (hn : k0 ≠ 99) : cq_s h' a = k0 := (p.2.1 a (by rw [hs]; exact hn)).1.trans hs
theorem ev.z (p : ev h h') (hs : cq_s h a = k0) (hn : k0 ≠ 99) : cq_z h' a = cq_z h a := (p.2.1 a (by rw [hs]; exact hn)).2.1
theorem ev.J (p : ev h h') (hs : cq_s h a = k0) (hn : k0 ≠ 99) : cq_J h' a = cq_J h a := (p.2.1 a (by rw [hs]; exact hn)).2.2
theorem ev.I (p : ev h h') (hs : cq_s h a = k0) (hn : okI k0 = true) : cq_I h' a = cq_I h a := p.2.2.1 a (by rw [hs]; exact hn)
theorem ev.A (p : ev h h') (hs : cq_s h a = k0) (hn : okA k0 = true) : cq_A h' a = cq_A h a := p.2.2.2.1 a (by rw [hs]; exact hn)
/-- a turn's references, but for its newest after -/
theorem ev.T (p : ev h h') (hs : cq_s h a = 8) (hj : ¬ j = 2) : cq_A h' a j = cq_A h a j := p.2.2.2.2 a j hs hj
/-- what is written where nothing is read -/
theorem ev.tI (p : ev h h') (hs : cq_s h' a = k0) (hx : okI k0 = false) : ev h (cq_sI h' a j v) := by
  refine ⟨p.1, p.2.1, fun b w => ?_, p.2.2.2⟩
  rw [← p.2.2.1 b w]
  funext r
  rw [mm_sI, if_neg (fun e => ?_)]
  have := (p.2.1 b (okI_9 w)).1
  rw [e.1, hs] at this
  rw [e.1, ← this, hx] at w
  cases w
/-- a turn's newest after -/
theorem ev.tA (p : ev h h') (hs : cq_s h' a = 8) : ev h (cq_sA h' a 2 o) := by
  refine ⟨p.1, p.2.1, p.2.2.1, fun b w => ?_, fun b r w w2 => ?_⟩
  · rw [← p.2.2.2.1 b w]
    funext r
    rw [mm_sA, if_neg (fun e => ?_)]
    have := (p.2.1 b (okA_9 w)).1
    rw [e.1, hs] at this
    rw [e.1, ← this] at w
    exact absurd w (by decide)
  · rw [mm_sA, if_neg (fun e => w2 e.2)]
    exact p.2.2.2.2 b r w w2
/-- what is written into a cell that was not there -/
theorem ev.fI (p : ev h h') (hs : cq_s h a = 99) : ev h (cq_sI h' a j v) := by
  refine ⟨p.1, p.2.1, fun b w => ?_, p.2.2.2⟩
  rw [← p.2.2.1 b w]
  funext r
  rw [mm_sI, if_neg (fun e => okI_9 w (by rw [e.1]; exact hs))]
theorem ev.fJ (p : ev h h') (hs : cq_s h a = 99) : ev h (cq_sJ h' a j w) := by
  refine ⟨p.1, fun b q => ⟨(p.2.1 b q).1, (p.2.1 b q).2.1, ?_⟩, p.2.2.1, p.2.2.2⟩
  rw [← (p.2.1 b q).2.2]
  funext r
  rw [mm_sJ, if_neg (fun e => q (by rw [e.1]; exact hs))]
theorem ev.fA (p : ev h h') (hs : cq_s h a = 99) : ev h (cq_sA h' a j o) := by
  refine ⟨p.1, p.2.1, p.2.2.1, fun b w => ?_, fun b r w w2 => ?_⟩
  · rw [← p.2.2.2.1 b w]
    funext r
    rw [mm_sA, if_neg (fun e => okA_9 w (by rw [e.1]; exact hs))]
  · rw [mm_sA, if_neg (fun e => by rw [e.1, hs] at w; exact absurd w (by decide))]
    exact p.2.2.2.2 b r w w2
theorem ev.nw (p : ev h h') (al : cq_s h' h'.1 = 99) {t : Nat} {z : Int} : ev h (cq_nw h' t z) := by
  have ne : ∀ {b : Nat}, cq_s h b ≠ 99 → b ≠ h'.1 := fun {b} w e => w (by have := (p.2.1 b w).1; rw [e, al] at this; rw [e]; exact this.symm)
  refine ⟨Nat.le_succ_of_le p.1, fun b w => ?_, fun b w => ?_, fun b w => ?_, fun b r w w2 => (congrFun (nw_o (h := h') (s := t) (z := z) (ne (by rw [w]; decide))).2.2.2.2 r).trans (p.2.2.2.2 b r w w2)⟩
  · obtain ⟨n1, n2, n3, n4, n5⟩ := nw_o (h := h') (s := t) (z := z) (ne w)
    obtain ⟨p1, p2, p3⟩ := p.2.1 b w
    exact ⟨n1.trans p1, n2.trans p2, n4.trans p3⟩
  · exact ((nw_o (h := h') (s := t) (z := z) (ne (okI_9 w))).2.2.1).trans (p.2.2.1 b w)
  · exact ((nw_o (h := h') (s := t) (z := z) (ne (okA_9 w))).2.2.2.2).trans (p.2.2.2.1 b w)
/-- the same is written at both sides -/
theorem ev.cI (p : ev h h') : ev (cq_sI h a j v) (cq_sI h' a j v) := by
  refine ⟨p.1, p.2.1, fun b w => ?_, p.2.2.2⟩
  have := p.2.2.1 b w
  funext r
  rw [mm_sI, mm_sI, this]
theorem ev.cJ (p : ev h h') : ev (cq_sJ h a j w) (cq_sJ h' a j w) := by
  refine ⟨p.1, fun b q => ⟨(p.2.1 b q).1, (p.2.1 b q).2.1, ?_⟩, p.2.2.1, p.2.2.2⟩
  have := (p.2.1 b q).2.2
  funext r
  rw [mm_sJ, mm_sJ, this]
theorem ev.cA (p : ev h h') : ev (cq_sA h a j o) (cq_sA h' a j o) := by
  refine ⟨p.1, p.2.1, p.2.2.1, fun b w => ?_, fun b r w w2 => by rw [mm_sA, mm_sA, p.2.2.2.2 b r w w2]⟩
  have := p.2.2.2.1 b w
  funext r
  rw [mm_sA, mm_sA, this]
end
/-- a row is written anew -/
def cq_rI (h : cx_Q) (b : Nat) (f : Int → Int) : cx_Q := (h.1, cq_s h, cq_z h, (fun q => if q = b then f else cq_I h q), cq_J h, cq_A h)
def cq_rJ (h : cx_Q) (b : Nat) (f : Int → Int64) : cx_Q := (h.1, cq_s h, cq_z h, cq_I h, (fun q => if q = b then f else cq_J h q), cq_A h)
theorem rr_I {h : cx_Q} {b q : Nat} {f : Int → Int} : cq_I (cq_rI h b f) q = if q = b then f else cq_I h q := Eq.trans rfl rfl
theorem rr_J {h : cx_Q} {b q : Nat} {f : Int → Int64} : cq_J (cq_rJ h b f) q = if q = b then f else cq_J h q := Eq.trans rfl rfl
theorem rr_IJ {h : cx_Q} {b : Nat} {f : Int → Int64} : cq_I (cq_rJ h b f) = cq_I h := Eq.trans rfl rfl
theorem rr_JI {h : cx_Q} {b : Nat} {f : Int → Int} : cq_J (cq_rI h b f) = cq_J h := Eq.trans rfl rfl
theorem rr_AI {h : cx_Q} {b : Nat} {f : Int → Int} : cq_A (cq_rI h b f) = cq_A h := Eq.trans rfl rfl
theorem rr_AJ {h : cx_Q} {b : Nat} {f : Int → Int64} : cq_A (cq_rJ h b f) = cq_A h := Eq.trans rfl rfl
theorem rr_sI {h : cx_Q} {b : Nat} {f : Int → Int} : cq_s (cq_rI h b f) = cq_s h := Eq.trans rfl rfl
theorem rr_sJ {h : cx_Q} {b : Nat} {f : Int → Int64} : cq_s (cq_rJ h b f) = cq_s h := Eq.trans rfl rfl
theorem rr_zI {h : cx_Q} {b : Nat} {f : Int → Int} : cq_z (cq_rI h b f) = cq_z h := Eq.trans rfl rfl
theorem rr_zJ {h : cx_Q} {b : Nat} {f : Int → Int64} : cq_z (cq_rJ h b f) = cq_z h := Eq.trans rfl rfl
/-- the object, the envelope and the opening are as they were, where they weren't written -/
theorem ev.kp {c : Nat} {h h' : cx_Q} (p : ev h h') (hc : cq_s h c = 9) : kp c h h' := ⟨⟨fun a w => (p.2.1 a w).1, p.I hc rfl, p.A hc rfl, fun a w => p.I w rfl, fun a w => p.A w rfl⟩, fun a w => p.I w rfl⟩
def cq_rA (h : cx_Q) (b : Nat) (f : Int → Option Nat) : cx_Q := (h.1, cq_s h, cq_z h, cq_I h, cq_J h, (fun q => if q = b then f else cq_A h q))
theorem rr_A {h : cx_Q} {b q : Nat} {f : Int → Option Nat} : cq_A (cq_rA h b f) q = if q = b then f else cq_A h q := Eq.trans rfl rfl
theorem rr_IA {h : cx_Q} {b : Nat} {f : Int → Option Nat} : cq_I (cq_rA h b f) = cq_I h := Eq.trans rfl rfl
theorem rr_JA {h : cx_Q} {b : Nat} {f : Int → Option Nat} : cq_J (cq_rA h b f) = cq_J h := Eq.trans rfl rfl
theorem rr_sA {h : cx_Q} {b : Nat} {f : Int → Option Nat} : cq_s (cq_rA h b f) = cq_s h := Eq.trans rfl rfl
theorem rr_zA {h : cx_Q} {b : Nat} {f : Int → Option Nat} : cq_z (cq_rA h b f) = cq_z h := Eq.trans rfl rfl
/-- two memories that tell the same are one -/
theorem qext {h h' : cx_Q} (e0 : h.1 = h'.1) (e1 : cq_s h = cq_s h') (e2 : cq_z h = cq_z h') (e3 : ∀ q r, cq_I h q r = cq_I h' q r) (e4 : ∀ q r, cq_J h q r = cq_J h' q r) (e5 : ∀ q r, cq_A h q r = cq_A h' q r) : h = h' := by
  obtain ⟨a0, a1, a2, a3, a4, a5⟩ := h
  obtain ⟨b0, b1, b2, b3, b4, b5⟩ := h'
  have t3 : a3 = b3 := funext fun q => funext fun r => e3 q r
  have t4 : a4 = b4 := funext fun q => funext fun r => e4 q r
  have t5 : a5 = b5 := funext fun q => funext fun r => e5 q r
  have t0 : a0 = b0 := e0
  have t1 : a1 = b1 := e1
  have t2 : a2 = b2 := e2
  rw [t0, t1, t2, t3, t4, t5]
theorem ev.rI {h h' : cx_Q} (p : ev h h') {b : Nat} {f : Int → Int} : ev (cq_rI h b f) (cq_rI h' b f) := by
  refine ⟨p.1, p.2.1, fun q w => ?_, p.2.2.2⟩
  have := p.2.2.1 q w
  rw [rr_I, rr_I, this]
theorem ev.rJ {h h' : cx_Q} (p : ev h h') {b : Nat} {f : Int → Int64} : ev (cq_rJ h b f) (cq_rJ h' b f) := by
  refine ⟨p.1, fun q w => ⟨(p.2.1 q w).1, (p.2.1 q w).2.1, ?_⟩, p.2.2.1, p.2.2.2⟩
  have := (p.2.1 q w).2.2
  rw [rr_J, rr_J, this]
theorem ev.rA {h h' : cx_Q} (p : ev h h') {b : Nat} {f : Int → Option Nat} : ev (cq_rA h b f) (cq_rA h' b f) := by
  refine ⟨p.1, p.2.1, p.2.2.1, fun q w => ?_, fun q r w w2 => ?_⟩
  · have := p.2.2.2.1 q w
    rw [rr_A, rr_A, this]
  · rw [rr_A, rr_A]
    by_cases e : q = b
    · rw [if_pos e, if_pos e]
    · rw [if_neg e, if_neg e]
      exact p.2.2.2.2 q r w w2
