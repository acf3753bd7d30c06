/-! the class: alike but for KEPT turns -/
def okB (s : Nat) : Bool := s != 8 && s != 174 && s != 99
def ew (h h' : cx_Q) : Prop := h.1 ≤ h'.1 ∧ (∀ a, cq_s h a ≠ 99 → cq_s h' a = cq_s h a ∧ cq_z h' a = cq_z h a ∧ cq_J h' a = cq_J h a) ∧ (∀ a, okI (cq_s h a) = true → cq_I h' a = cq_I h a) ∧ (∀ a, okB (cq_s h a) = true → cq_A h' a = cq_A h a) ∧ ∀ a j, cq_s h a = 8 → j ≠ 2 → cq_A h' a j = cq_A h a j
theorem okB_9 {s : Nat} (q : okB s = true) : s ≠ 99 := fun e => by rw [e] at q; exact absurd q (by decide)
section
variable {h h' h1 h2 : cx_Q} {a b k0 : Nat} {j v : Int} {w : Int64} {o : Option Nat}
theorem ew.refl : ew h h := ⟨Nat.le_refl _, fun _ _ => ⟨rfl, rfl, rfl⟩, fun _ _ => rfl, fun _ _ => rfl, fun _ _ _ _ => rfl⟩
theorem ew.trans (p : ew h h1) (q : ew h1 h2) : ew h h2 := by
  refine ⟨Nat.le_trans p.1 q.1, fun a w => ?_, fun a w => ?_, fun a w => ?_, fun a j w w2 => (q.2.2.2.2 a j ((p.2.1 a (by rw [w]; decide)).1.trans w) w2).trans (p.2.2.2.2 a j w w2)⟩
  · obtain ⟨p1, p2, p3⟩ := p.2.1 a w
    obtain ⟨q1, q2, q3⟩ := q.2.1 a (by rw [p1]; exact w)
    exact ⟨q1.trans p1, q2.trans p2, q3.trans p3⟩
  · have p1 := (p.2.1 a (okI_9 w)).1
    exact (q.2.2.1 a (by rw [p1]; exact w)).trans (p.2.2.1 a w)
  · have p1 := (p.2.1 a (okB_9 w)).1
    exact (q.2.2.2.1 a (by rw [p1]; exact w)).trans (p.2.2.2.1 a w)
theorem ew.s (p : ew h h') (hs : cq_s h a = k0) (hn : k0 ≠ 99) : cq_s h' a = k0 := (p.2.1 a (by rw [hs]; exact hn)).1.trans hs
theorem ew.z (p : ew h h') (hs : cq_s h a = k0) (hn : k0 ≠ 99) : cq_z h' a = cq_z h a := (p.2.1 a (by rw [hs]; exact hn)).2.1
theorem ew.J (p : ew h h') (hs : cq_s h a = k0) (hn : k0 ≠ 99) : cq_J h' a = cq_J h a := (p.2.1 a (by rw [hs]; exact hn)).2.2
theorem ew.I (p : ew h h') (hs : cq_s h a = k0) (hn : okI k0 = true) : cq_I h' a = cq_I h a := p.2.2.1 a (by rw [hs]; exact hn)
theorem ew.A (p : ew h h') (hs : cq_s h a = k0) (hn : okB k0 = true) : cq_A h' a = cq_A h a := p.2.2.2.1 a (by rw [hs]; exact hn)
/-- a turn's references, but for its newest after -/
theorem ew.T (p : ew h h') (hs : cq_s h a = 8) (hj : ¬ j = 2) : cq_A h' a j = cq_A h a j := p.2.2.2.2 a j hs hj
/-- what is written where nothing is read -/
theorem ew.tI (p : ew h h') (hs : cq_s h' a = k0) (hx : okI k0 = false) : ew h (cq_sI h' a j v) := by
  refine ⟨p.1, p.2.1, fun b w => ?_, p.2.2.2⟩
  rw [← p.2.2.1 b w]
  funext r
  rw [mm_sI, if_neg (fun e => ?_)]
  have := (p.2.1 b (okI_9 w)).1
  rw [e.1, hs] at this
  rw [e.1, ← this, hx] at w
  cases w
/-- a turn's newest after -/
theorem ew.tA (p : ew h h') (hs : cq_s h' a = 8) : ew h (cq_sA h' a 2 o) := by
  refine ⟨p.1, p.2.1, p.2.2.1, fun b w => ?_, fun b r w w2 => ?_⟩
  · rw [← p.2.2.2.1 b w]
    funext r
    rw [mm_sA, if_neg (fun e => ?_)]
    have := (p.2.1 b (okB_9 w)).1
    rw [e.1, hs] at this
    rw [e.1, ← this] at w
    exact absurd w (by decide)
  · rw [mm_sA, if_neg (fun e => w2 e.2)]
    exact p.2.2.2.2 b r w w2
/-- what is written into a cell that was not there -/
theorem ew.fI (p : ew h h') (hs : cq_s h a = 99) : ew h (cq_sI h' a j v) := by
  refine ⟨p.1, p.2.1, fun b w => ?_, p.2.2.2⟩
  rw [← p.2.2.1 b w]
  funext r
  rw [mm_sI, if_neg (fun e => okI_9 w (by rw [e.1]; exact hs))]
theorem ew.fJ (p : ew h h') (hs : cq_s h a = 99) : ew h (cq_sJ h' a j w) := by
  refine ⟨p.1, fun b q => ⟨(p.2.1 b q).1, (p.2.1 b q).2.1, ?_⟩, p.2.2.1, p.2.2.2⟩
  rw [← (p.2.1 b q).2.2]
  funext r
  rw [mm_sJ, if_neg (fun e => q (by rw [e.1]; exact hs))]
theorem ew.fA (p : ew h h') (hs : cq_s h a = 99) : ew h (cq_sA h' a j o) := by
  refine ⟨p.1, p.2.1, p.2.2.1, fun b w => ?_, fun b r w w2 => ?_⟩
  · rw [← p.2.2.2.1 b w]
    funext r
    rw [mm_sA, if_neg (fun e => okB_9 w (by rw [e.1]; exact hs))]
  · rw [mm_sA, if_neg (fun e => by rw [e.1, hs] at w; exact absurd w (by decide))]
    exact p.2.2.2.2 b r w w2
theorem ew.nw (p : ew h h') (al : cq_s h' h'.1 = 99) {t : Nat} {z : Int} : ew h (cq_nw h' t z) := by
  have ne : ∀ {b : Nat}, cq_s h b ≠ 99 → b ≠ h'.1 := fun {b} w e => w (by have := (p.2.1 b w).1; rw [e, al] at this; rw [e]; exact this.symm)
  refine ⟨Nat.le_succ_of_le p.1, fun b w => ?_, fun b w => ?_, fun b w => ?_, fun b r w w2 => (congrFun (nw_o (h := h') (s := t) (z := z) (ne (by rw [w]; decide))).2.2.2.2 r).trans (p.2.2.2.2 b r w w2)⟩
  · obtain ⟨n1, n2, n3, n4, n5⟩ := nw_o (h := h') (s := t) (z := z) (ne w)
    obtain ⟨p1, p2, p3⟩ := p.2.1 b w
    exact ⟨n1.trans p1, n2.trans p2, n4.trans p3⟩
  · exact ((nw_o (h := h') (s := t) (z := z) (ne (okI_9 w))).2.2.1).trans (p.2.2.1 b w)
  · exact ((nw_o (h := h') (s := t) (z := z) (ne (okB_9 w))).2.2.2.2).trans (p.2.2.2.1 b w)
/-- the same is written at both sides -/
theorem ew.cI (p : ew h h') : ew (cq_sI h a j v) (cq_sI h' a j v) := by
  refine ⟨p.1, p.2.1, fun b w => ?_, p.2.2.2⟩
  have := p.2.2.1 b w
  funext r
  rw [mm_sI, mm_sI, this]
theorem ew.cJ (p : ew h h') : ew (cq_sJ h a j w) (cq_sJ h' a j w) := by
  refine ⟨p.1, fun b q => ⟨(p.2.1 b q).1, (p.2.1 b q).2.1, ?_⟩, p.2.2.1, p.2.2.2⟩
  have := (p.2.1 b q).2.2
  funext r
  rw [mm_sJ, mm_sJ, this]
theorem ew.cA (p : ew h h') : ew (cq_sA h a j o) (cq_sA h' a j o) := by
  refine ⟨p.1, p.2.1, p.2.2.1, fun b w => ?_, fun b r w w2 => by rw [mm_sA, mm_sA, p.2.2.2.2 b r w w2]⟩
  have := p.2.2.2.1 b w
  funext r
  rw [mm_sA, mm_sA, this]
end
theorem ew.rI {h h' : cx_Q} (p : ew h h') {b : Nat} {f : Int → Int} : ew (cq_rI h b f) (cq_rI h' b f) := by
  refine ⟨p.1, p.2.1, fun q w => ?_, p.2.2.2⟩
  have := p.2.2.1 q w
  rw [rr_I, rr_I, this]
theorem ew.rJ {h h' : cx_Q} (p : ew h h') {b : Nat} {f : Int → Int64} : ew (cq_rJ h b f) (cq_rJ h' b f) := by
  refine ⟨p.1, fun q w => ⟨(p.2.1 q w).1, (p.2.1 q w).2.1, ?_⟩, p.2.2.1, p.2.2.2⟩
  have := (p.2.1 q w).2.2
  rw [rr_J, rr_J, this]
theorem ew.rA {h h' : cx_Q} (p : ew h h') {b : Nat} {f : Int → Option Nat} : ew (cq_rA h b f) (cq_rA h' b f) := by
  refine ⟨p.1, p.2.1, p.2.2.1, fun q w => ?_, fun q r w w2 => ?_⟩
  · have := p.2.2.2.1 q w
    rw [rr_A, rr_A, this]
  · rw [rr_A, rr_A]
    by_cases e : q = b
    · rw [if_pos e, if_pos e]
    · rw [if_neg e, if_neg e]
      exact p.2.2.2.2 q r w w2
theorem okB_A {s : Nat} (q : okB s = true) : okA s = true := by
  unfold okB at q
  unfold okA
  simp only [bne_iff_ne, ne_eq, Bool.and_eq_true] at q ⊢
  exact ⟨q.1.1, q.2⟩
theorem ev.w {h h' : cx_Q} (p : ev h h') : ew h h' := ⟨p.1, p.2.1, p.2.2.1, fun a q => p.2.2.2.1 a (okB_A q), p.2.2.2.2⟩
/-- a row of KEPT turns -/
theorem ew.t4 {h h' : cx_Q} (p : ew h h') {a : Nat} {j : Int} {o : Option Nat} (hs : cq_s h' a = 174) : ew h (cq_sA h' a j o) := by
  refine ⟨p.1, p.2.1, p.2.2.1, fun b w => ?_, fun b r w w2 => ?_⟩
  · rw [← p.2.2.2.1 b w]
    funext r
    rw [mm_sA, if_neg (fun e => ?_)]
    have := (p.2.1 b (okB_9 w)).1
    rw [e.1, hs] at this
    rw [e.1, ← this] at w
    exact absurd w (by decide)
  · rw [mm_sA, if_neg (fun e => ?_)]
    · exact p.2.2.2.2 b r w w2
    · have := (p.2.1 b (by rw [w]; decide)).1
      rw [e.1, hs] at this
      rw [e.1, ← this] at w
      exact absurd w (by decide)
/-- rows of KEPT turns: b is f, the others as they were -/
def e4 (h g : cx_Q) (b : Nat) (f : Int → Option Nat) : Prop := ∀ d, cq_s h d = 174 → cq_A g d = if d = b then f else cq_A h d
theorem e4.v {h g g' : cx_Q} {b : Nat} {f : Int → Option Nat} (p : e4 h g b f) (q : ew h g) (w : ev g g') : e4 h g' b f := fun d s => (w.A (q.s s (by decide)) rfl).trans (p d s)
theorem e4.e {h h' g : cx_Q} {b : Nat} {f : Int → Option Nat} (w : ev h h') (p : e4 h' g b f) : e4 h g b f := fun d s => by rw [p d (w.s s (by decide)), w.A s rfl]
theorem e4.tr {h g g' : cx_Q} {b : Nat} {f f' : Int → Option Nat} (p : e4 h g b f) (q : ew h g) (w : e4 g g' b f') : e4 h g' b f' := fun d s => by
  rw [w d (q.s s (by decide)), p d s]
  by_cases e : d = b
  · rw [if_pos e, if_pos e]
  · rw [if_neg e, if_neg e, if_neg e]
/-- a turn that follows b with a pair: made, or found -/
def tq (h g : cx_Q) (b : Nat) (x1 x2 : Option Nat) (q : Nat) : Prop := cq_s g q = 8 ∧ cq_A g q 0 = some b ∧ ∃ r, cq_A g q 1 = some r ∧ cq_s g r = 101 ∧ cq_z g r = 2 ∧ ((cq_s h q = 99 ∧ cq_A g r 0 = x1 ∧ cq_A g r 1 = x2) ∨ (cq_s h q = 8 ∧ x1 ≠ none ∧ x2 ≠ none ∧ ((cq_A g r 0 = x1 ∧ cq_A g r 1 = x2) ∨ (cq_A g r 0 = x2 ∧ cq_A g r 1 = x1))))
/-- turns and their pairs are as they were, but for what follows them -/
def et (g g' : cx_Q) : Prop := (∀ a, cq_s g a ≠ 99 → cq_s g' a = cq_s g a ∧ cq_z g' a = cq_z g a) ∧ (∀ a j, cq_s g a = 8 → j ≠ 2 → cq_A g' a j = cq_A g a j) ∧ ∀ a, cq_s g a = 101 → cq_A g' a = cq_A g a
theorem et.refl {g : cx_Q} : et g g := ⟨fun _ _ => ⟨rfl, rfl⟩, fun _ _ _ _ => rfl, fun _ _ => rfl⟩
theorem et.trans {g g1 g2 : cx_Q} (p : et g g1) (q : et g1 g2) : et g g2 := by
  refine ⟨fun a w => ?_, fun a j w w2 => ?_, fun a w => ?_⟩
  · obtain ⟨p1, p2⟩ := p.1 a w
    obtain ⟨q1, q2⟩ := q.1 a (by rw [p1]; exact w)
    exact ⟨q1.trans p1, q2.trans p2⟩
  · exact (q.2.1 a j ((p.1 a (by rw [w]; decide)).1.trans w) w2).trans (p.2.1 a j w w2)
  · exact (q.2.2 a ((p.1 a (by rw [w]; decide)).1.trans w)).trans (p.2.2 a w)
theorem ew.et {g g' : cx_Q} (p : ew g g') : et g g' := ⟨fun a w => ⟨(p.2.1 a w).1, (p.2.1 a w).2.1⟩, fun a j w w2 => p.2.2.2.2 a j w w2, fun a w => p.A w rfl⟩
theorem ev.et {g g' : cx_Q} (p : ev g g') : et g g' := p.w.et
theorem et.of {g g' : cx_Q} (es : cq_s g' = cq_s g) (ez : cq_z g' = cq_z g) (eA : cq_A g' = cq_A g) : et g g' := ⟨fun a _ => ⟨by rw [es], by rw [ez]⟩, fun a j _ _ => by rw [eA], fun a _ => by rw [eA]⟩
theorem et.sA {g g' : cx_Q} (p : et g g') {a k0 : Nat} {j : Int} {v : Option Nat} (hs : cq_s g a = k0) (h8 : k0 ≠ 8) (h1 : k0 ≠ 101) : et g (cq_sA g' a j v) := by
  refine ⟨p.1, fun b r w w2 => ?_, fun b w => ?_⟩
  · rw [mm_sA, if_neg (fun e => h8 (by rw [← hs, ← e.1]; exact w))]
    exact p.2.1 b r w w2
  · rw [← p.2.2 b w]
    funext r
    rw [mm_sA, if_neg (fun e => h1 (by rw [← hs, ← e.1]; exact w))]
theorem tq.w {h g g' : cx_Q} {b q : Nat} {x1 x2 : Option Nat} (p : tq h g b x1 x2 q) (w : et g g') : tq h g' b x1 x2 q := by
  obtain ⟨p1, p2, r, p3, p4, p5, p6⟩ := p
  have er : cq_A g' r = cq_A g r := w.2.2 r p4
  have w1 := w.1 q (by rw [p1]; decide)
  have w4 := w.1 r (by rw [p4]; decide)
  refine ⟨w1.1.trans p1, by rw [w.2.1 q 0 p1 (by decide)]; exact p2, r, by rw [w.2.1 q 1 p1 (by decide)]; exact p3, w4.1.trans p4, w4.2.trans p5, ?_⟩
  rw [er]
  exact p6
theorem tq.h {h h' g : cx_Q} {b q : Nat} {x1 x2 : Option Nat} (w : cq_s h' q = cq_s h q) (p : tq h' g b x1 x2 q) : tq h g b x1 x2 q := by
  obtain ⟨p1, p2, r, p3, p4, p5, p6⟩ := p
  rw [w] at p6
  exact ⟨p1, p2, r, p3, p4, p5, p6⟩
