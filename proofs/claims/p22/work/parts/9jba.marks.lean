/-! the class: what a LOOK leaves behind -/
/-- a mark: cell, place, whether it is a least one, and that -/
def gv1 (h : cx_Q) (m : Nat × Int × Bool × Int) : cx_Q := cq_sI h m.1 m.2.1 (if m.2.2.1 = true then (if m.2.2.2 < cq_I h m.1 m.2.1 then m.2.2.2 else cq_I h m.1 m.2.1) else 1)
def gvL : List (Nat × Int × Bool × Int) → cx_Q → cx_Q
  | [], h => h
  | m :: l, h => gvL l (gv1 h m)
theorem gvL_app : ∀ {l l' : List (Nat × Int × Bool × Int)} {h : cx_Q}, gvL (l ++ l') h = gvL l' (gvL l h)
  | [], _, _ => rfl
  | _ :: l, _, _ => gvL_app (l := l)
theorem gvL_1 : ∀ {l : List (Nat × Int × Bool × Int)} {h : cx_Q}, (gvL l h).1 = h.1
  | [], _ => rfl
  | _ :: l, _ => (gvL_1 (l := l)).trans rfl
theorem gvL_s : ∀ {l : List (Nat × Int × Bool × Int)} {h : cx_Q}, cq_s (gvL l h) = cq_s h
  | [], _ => rfl
  | _ :: l, _ => (gvL_s (l := l)).trans rfl
theorem gvL_z : ∀ {l : List (Nat × Int × Bool × Int)} {h : cx_Q}, cq_z (gvL l h) = cq_z h
  | [], _ => rfl
  | _ :: l, _ => (gvL_z (l := l)).trans rfl
theorem gvL_J : ∀ {l : List (Nat × Int × Bool × Int)} {h : cx_Q}, cq_J (gvL l h) = cq_J h
  | [], _ => rfl
  | _ :: l, _ => (gvL_J (l := l)).trans rfl
theorem gvL_A : ∀ {l : List (Nat × Int × Bool × Int)} {h : cx_Q}, cq_A (gvL l h) = cq_A h
  | [], _ => rfl
  | _ :: l, _ => (gvL_A (l := l)).trans rfl
/-- the marks S, and nothing else -/
def LM (S : Nat × Int × Bool × Int → Prop) (h h' : cx_Q) : Prop := ∃ l, h' = gvL l h ∧ ∀ m, m ∈ l ↔ S m
section
variable {S S' : Nat × Int × Bool × Int → Prop} {h h1 h2 : cx_Q}
theorem LM.no (q : ∀ m, ¬ S m) : LM S h h := ⟨[], rfl, fun m => ⟨fun w => absurd w List.not_mem_nil, fun w => absurd w (q m)⟩⟩
theorem LM.one {m0 : Nat × Int × Bool × Int} (q : ∀ m, S m ↔ m = m0) : LM S h (gv1 h m0) := ⟨[m0], rfl, fun m => ⟨fun w => (q m).mpr (List.mem_singleton.mp w), fun w => List.mem_singleton.mpr ((q m).mp w)⟩⟩
theorem LM.cg (p : LM S h h1) (q : ∀ m, S m ↔ S' m) : LM S' h h1 := by
  obtain ⟨l, e, w⟩ := p
  exact ⟨l, e, fun m => (w m).trans (q m)⟩
theorem LM.tr (p : LM S h h1) (q : LM S' h1 h2) : LM (fun m => S m ∨ S' m) h h2 := by
  obtain ⟨l, e, w⟩ := p
  obtain ⟨l', e', w'⟩ := q
  exact ⟨l ++ l', by rw [e', e, gvL_app], fun m => by rw [List.mem_append, w m, w' m]⟩
theorem LM.s (p : LM S h h1) : cq_s h1 = cq_s h := by
  obtain ⟨l, e, _⟩ := p
  rw [e, gvL_s]
theorem LM.z (p : LM S h h1) : cq_z h1 = cq_z h := by
  obtain ⟨l, e, _⟩ := p
  rw [e, gvL_z]
theorem LM.J (p : LM S h h1) : cq_J h1 = cq_J h := by
  obtain ⟨l, e, _⟩ := p
  rw [e, gvL_J]
theorem LM.A (p : LM S h h1) : cq_A h1 = cq_A h := by
  obtain ⟨l, e, _⟩ := p
  rw [e, gvL_A]
end
/-- marks that are got once and for all -/
theorem gvL_f {a : Nat} {j : Int} : ∀ {l : List (Nat × Int × Bool × Int)} {h : cx_Q}, (∀ m ∈ l, m.1 = a → m.2.1 = j → m.2.2.1 = false) → (cq_I (gvL l h) a j ≠ 0 ↔ cq_I h a j ≠ 0 ∨ ∃ m ∈ l, m.1 = a ∧ m.2.1 = j)
  | [], h, _ => ⟨Or.inl, fun w => w.elim id (fun ⟨m, q, _⟩ => absurd q List.not_mem_nil)⟩
  | m0 :: l, h, w => by
    have ih := gvL_f (a := a) (j := j) (l := l) (h := gv1 h m0) (fun m q => w m (List.mem_cons_of_mem _ q))
    refine Iff.trans ih ?_
    have e : cq_I (gv1 h m0) a j = if a = m0.1 ∧ j = m0.2.1 then (if m0.2.2.1 = true then (if m0.2.2.2 < cq_I h m0.1 m0.2.1 then m0.2.2.2 else cq_I h m0.1 m0.2.1) else 1) else cq_I h a j := by
      unfold gv1
      rw [mm_sI]
    by_cases q : a = m0.1 ∧ j = m0.2.1
    · rw [e, if_pos q, if_neg (by rw [w m0 List.mem_cons_self q.1.symm q.2.symm]; decide)]
      exact ⟨fun _ => Or.inr ⟨m0, List.mem_cons_self, q.1.symm, q.2.symm⟩, fun _ => Or.inl (by decide)⟩
    · rw [e, if_neg q]
      constructor
      · rintro (y | ⟨m, y1, y2⟩)
        · exact Or.inl y
        · exact Or.inr ⟨m, List.mem_cons_of_mem _ y1, y2⟩
      · rintro (y | ⟨m, y1, y2⟩)
        · exact Or.inl y
        · rcases List.mem_cons.mp y1 with y | y
          · rw [y] at y2
            exact absurd ⟨y2.1.symm, y2.2.symm⟩ q
          · exact Or.inr ⟨m, y, y2⟩
/-- least marks -/
theorem gvL_m {a : Nat} {j : Int} {k : Int} : ∀ {l : List (Nat × Int × Bool × Int)} {h : cx_Q}, (∀ m ∈ l, m.1 = a → m.2.1 = j → m.2.2.1 = true) → (cq_I (gvL l h) a j ≤ k ↔ cq_I h a j ≤ k ∨ ∃ m ∈ l, m.1 = a ∧ m.2.1 = j ∧ m.2.2.2 ≤ k)
  | [], h, _ => ⟨Or.inl, fun w => w.elim id (fun ⟨m, q, _⟩ => absurd q List.not_mem_nil)⟩
  | m0 :: l, h, w => by
    have ih := gvL_m (a := a) (j := j) (k := k) (l := l) (h := gv1 h m0) (fun m q => w m (List.mem_cons_of_mem _ q))
    refine Iff.trans ih ?_
    have e : cq_I (gv1 h m0) a j = if a = m0.1 ∧ j = m0.2.1 then (if m0.2.2.1 = true then (if m0.2.2.2 < cq_I h m0.1 m0.2.1 then m0.2.2.2 else cq_I h m0.1 m0.2.1) else 1) else cq_I h a j := by
      unfold gv1
      rw [mm_sI]
    by_cases q : a = m0.1 ∧ j = m0.2.1
    · rw [e, if_pos q, if_pos (w m0 List.mem_cons_self q.1.symm q.2.symm), ← q.1, ← q.2]
      constructor
      · rintro (y | ⟨m, y1, y2⟩)
        · by_cases z : m0.2.2.2 < cq_I h a j
          · rw [if_pos z] at y
            exact Or.inr ⟨m0, List.mem_cons_self, q.1.symm, q.2.symm, y⟩
          · rw [if_neg z] at y
            exact Or.inl y
        · exact Or.inr ⟨m, List.mem_cons_of_mem _ y1, y2⟩
      · rintro (y | ⟨m, y1, y2⟩)
        · refine Or.inl ?_
          by_cases z : m0.2.2.2 < cq_I h a j
          · rw [if_pos z]; omega
          · rw [if_neg z]; exact y
        · rcases List.mem_cons.mp y1 with y | y
          · rw [y] at y2
            refine Or.inl ?_
            by_cases z : m0.2.2.2 < cq_I h a j
            · rw [if_pos z]; exact y2.2.2
            · rw [if_neg z]; omega
          · exact Or.inr ⟨m, y, y2⟩
    · rw [e, if_neg q]
      constructor
      · rintro (y | ⟨m, y1, y2⟩)
        · exact Or.inl y
        · exact Or.inr ⟨m, List.mem_cons_of_mem _ y1, y2⟩
      · rintro (y | ⟨m, y1, y2⟩)
        · exact Or.inl y
        · rcases List.mem_cons.mp y1 with y | y
          · rw [y] at y2
            exact absurd ⟨y2.1.symm, y2.2.1.symm⟩ q
          · exact Or.inr ⟨m, y, y2⟩
