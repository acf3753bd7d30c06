/-! class and reference side by side: a new SESSION's slot -/
theorem m_used_z {f : Int → Int} {b t : Int} : ∀ {n : Nat} {i a : Int}, m_used f b t n i a = 0 → a = 0 ∧ ∀ j : Nat, j < n → f (b + (i + j)) ≠ t
  | 0, i, a, h => ⟨h, fun j q => absurd q (Nat.not_lt_zero _)⟩
  | n + 1, i, a, h => by
    rw [m_used] at h
    obtain ⟨h1, h2⟩ := m_used_z h
    have h3 : ¬ (a ≠ 0 ∨ f (b + i) = t) := fun w => by rw [if_pos w] at h1; exact absurd h1 (by decide)
    refine ⟨Classical.byContradiction (fun w => h3 (Or.inl w)), fun j q => ?_⟩
    cases j with
    | zero =>
      have e : b + (i + ((0 : Nat) : Int)) = b + i := by omega
      rw [e]
      exact fun w => h3 (Or.inr w)
    | succ j =>
      have e : b + (i + ((j + 1 : Nat) : Int)) = b + (i + 1 + (j : Int)) := by omega
      rw [e]
      exact h2 j (by omega)
theorem slot_q {x : Nat} {g : cx_Q} {w : Int} (h4 : 0 ≤ cq_I g (x + 30) w ∧ cq_I g (x + 30) w ≤ 4) (sl : ∀ i, 0 ≤ i → i < cq_I g (x + 30) w → 4 * w ≤ cq_I g (x + 29) (4 * w + i) ∧ cq_I g (x + 29) (4 * w + i) < 4 * w + 4) : (4 * w ≤ m_slotN g x w ∧ m_slotN g x w < 4 * w + 4) ∧ (cq_I g (x + 30) w < 4 → ∀ i, 0 ≤ i → i < cq_I g (x + 30) w → cq_I g (x + 29) (4 * w + i) ≠ m_slotN g x w) ∧ (cq_I g (x + 30) w = 4 → m_slotN g x w = cq_I g (x + 29) (4 * w + 3)) := by
  unfold m_slotN
  by_cases w4 : cq_I g (x + 30) w = 4
  · rw [if_pos w4]
    have e3 : 4 * w + 4 - 1 = 4 * w + 3 := by omega
    rw [e3]
    exact ⟨sl 3 (by omega) (by omega), fun q => by omega, fun _ => rfl⟩
  · rw [if_neg w4]
    generalize hm : (cq_I g (x + 30) w).toNat = m
    have hm3 : m ≤ 3 := by omega
    have hmm : cq_I g (x + 30) w = m := by omega
    rw [hmm] at sl h4 w4 ⊢
    generalize cq_I g (x + 29) = f at sl ⊢
    clear hm hmm
    simp only [m_sl]
    have a0 := fun w' => m_used_3 (f := f) (b := 4 * w) (t := 4 * w + 0) hm3 w'
    have a1 := fun w' => m_used_3 (f := f) (b := 4 * w) (t := 4 * w + (0 + 1)) hm3 w'
    have a2 := fun w' => m_used_3 (f := f) (b := 4 * w) (t := 4 * w + (0 + 1 + 1)) hm3 w'
    have a3 := fun w' => m_used_3 (f := f) (b := 4 * w) (t := 4 * w + (0 + 1 + 1 + 1)) hm3 w'
    have z : ∀ {t : Int}, m_used f (4 * w) t m 0 0 = 0 → ∀ i, 0 ≤ i → i < (m : Int) → f (4 * w + i) ≠ t := by
      intro t q i i0 i1
      have := (m_used_z q).2 i.toNat (by omega)
      have e : 4 * w + (0 + ((i.toNat : Nat) : Int)) = 4 * w + i := by omega
      rw [e] at this
      exact this
    have goal : ∀ s : Int, 4 * w ≤ s → s < 4 * w + 4 → m_used f (4 * w) s m 0 0 = 0 → (4 * w ≤ s ∧ s < 4 * w + 4) ∧ ((m : Int) < 4 → ∀ i, 0 ≤ i → i < (m : Int) → f (4 * w + i) ≠ s) ∧ ((m : Int) = 4 → s = f (4 * w + 3)) := fun s s0 s1 q => ⟨⟨s0, s1⟩, fun _ => z q, fun q => absurd q w4⟩
    by_cases u3 : m_used f (4 * w) (4 * w + (0 + 1 + 1 + 1)) m 0 0 = 0
    · rw [if_pos u3]
      exact goal _ (by omega) (by omega) u3
    · rw [if_neg u3]
      by_cases u2 : m_used f (4 * w) (4 * w + (0 + 1 + 1)) m 0 0 = 0
      · rw [if_pos u2]
        exact goal _ (by omega) (by omega) u2
      · rw [if_neg u2]
        by_cases u1 : m_used f (4 * w) (4 * w + (0 + 1)) m 0 0 = 0
        · rw [if_pos u1]
          exact goal _ (by omega) (by omega) u1
        · rw [if_neg u1]
          by_cases u0 : m_used f (4 * w) (4 * w + 0) m 0 0 = 0
          · rw [if_pos u0]
            exact goal _ (by omega) (by omega) u0
          · have b0 := a0 u0
            have b1 := a1 u1
            have b2 := a2 u2
            have b3 := a3 u3
            omega
theorem m_sh_v {x : Nat} {r : Int} : ∀ {k : Nat} {g : cx_Q}, (∀ j, cq_I (m_sh x r k g) (x + 29) j = if 4 * r + 1 ≤ j ∧ j ≤ 4 * r + k then cq_I g (x + 29) (j - 1) else cq_I g (x + 29) j) ∧ (∀ i j, i ≠ x + 29 → cq_I (m_sh x r k g) i j = cq_I g i j) ∧ cq_J (m_sh x r k g) = cq_J g
  | 0, g => by
    rw [m_sh_0]
    exact ⟨fun j => by rw [if_neg (by omega)], fun _ _ _ => rfl, rfl⟩
  | k + 1, g => by
    rw [m_sh_s]
    obtain ⟨h1, h2, h3⟩ := m_sh_v (x := x) (r := r) (k := k) (g := cq_sI g (x + 29) (4 * r + ((k : Int) + 1)) (cq_I g (x + 29) (4 * r + ((k : Int) + 1) - 1)))
    have e : ∀ j, cq_I (cq_sI g (x + 29) (4 * r + ((k : Int) + 1)) (cq_I g (x + 29) (4 * r + ((k : Int) + 1) - 1))) (x + 29) j = if j = 4 * r + ((k : Int) + 1) then cq_I g (x + 29) (j - 1) else cq_I g (x + 29) j := fun j => by
      rw [mm_sI]
      by_cases w : j = 4 * r + ((k : Int) + 1)
      · rw [if_pos ⟨rfl, w⟩, if_pos w, w]
      · rw [if_neg (fun z => w z.2), if_neg w]
    refine ⟨fun j => ?_, fun i j w => ?_, ?_⟩
    · rw [h1]
      by_cases w : 4 * r + 1 ≤ j ∧ j ≤ 4 * r + (k : Int)
      · rw [if_pos w, e, if_neg (by omega), if_pos (by omega)]
      · rw [if_neg w, e]
        by_cases w2 : j = 4 * r + ((k : Int) + 1)
        · rw [if_pos w2, if_pos (by omega)]
        · rw [if_neg w2, if_neg (by omega)]
    · rw [h2 i j w, mm_sI, if_neg (fun z => w z.1)]
    · rw [h3]; rfl
/-- what the reference's row tells behind a new SESSION: s its slot -/
def NQ (x : Nat) (w s : Int) (g g' : cx_Q) : Prop := (cq_I g' (x + 30) w = rw1 (cq_I g (x + 30) w)) ∧ (∀ i, 0 ≤ i → i < rw1 (cq_I g (x + 30) w) → cq_I g' (x + 29) (4 * w + i) = if i = 0 then s else cq_I g (x + 29) (4 * w + (i - 1)))
theorem NQ.r30 {x : Nat} {w s : Int} {g g' : cx_Q} (F_ : NQ x w s g g') : cq_I g' (x + 30) w = rw1 (cq_I g (x + 30) w) := F_.1
theorem NQ.r29 {x : Nat} {w s : Int} {g g' : cx_Q} (F_ : NQ x w s g g') : ∀ i, 0 ≤ i → i < rw1 (cq_I g (x + 30) w) → cq_I g' (x + 29) (4 * w + i) = if i = 0 then s else cq_I g (x + 29) (4 * w + (i - 1)) := F_.2
/-- the row behind a new SESSION: a its cell -/
theorem fo_new {x r a : Nat} {w s : Int} {T : Int → Nat} {h g h' g' : cx_Q} (F : FO x r w T h g) (Q : NQ x w s g g') (hs : s = m_slotN g x w) (es : ∀ d, cq_s h d ≠ 99 → cq_s h' d = cq_s h d) (eI : cq_I h' r 1 = rw1 (cq_I h r 1)) (eA : ∀ i, cq_A h' (r + 1) i = shU (cq_A h (r + 1)) (rw1 (cq_I h r 1) - 1) (some a) i) (sr : SR x a s h' g') (old : ∀ i, 0 ≤ i → i < cq_I g (x + 30) w → cq_I g (x + 29) (4 * w + i) ≠ s → SR x (T (cq_I g (x + 29) (4 * w + i))) (cq_I g (x + 29) (4 * w + i)) h' g') : FO x r w (fun q => if q = s then a else T q) h' g' ∧ (∀ i, 0 ≤ i → i < cq_I g' (x + 30) w → (i = 0 ∧ cq_I g' (x + 29) (4 * w + i) = s) ∨ (0 < i ∧ cq_I g' (x + 29) (4 * w + i) = cq_I g (x + 29) (4 * w + (i - 1)) ∧ cq_I g (x + 29) (4 * w + (i - 1)) ≠ s ∧ i - 1 < cq_I g (x + 30) w)) := by
  have r4 := F.r4
  obtain ⟨q1, q2, q3⟩ := slot_q F.r4 F.sl
  rw [← hs] at q1 q2 q3
  have rm := F.rm
  have g30 := Q.r30
  have rr : 1 ≤ rw1 (cq_I g (x + 30) w) ∧ rw1 (cq_I g (x + 30) w) ≤ 4 ∧ rw1 (cq_I g (x + 30) w) ≤ cq_I g (x + 30) w + 1 := by unfold rw1; split <;> omega
  have ne : ∀ i, 0 < i → i < rw1 (cq_I g (x + 30) w) → cq_I g (x + 29) (4 * w + (i - 1)) ≠ s := by
    intro i i0 i1
    by_cases w4 : cq_I g (x + 30) w = 4
    · rw [q3 w4]
      exact F.di (i - 1) 3 (by omega) (by omega) (by omega)
    · exact q2 (by omega) (i - 1) (by omega) (by omega)
  have cs : ∀ i, 0 ≤ i → i < cq_I g' (x + 30) w → (i = 0 ∧ cq_I g' (x + 29) (4 * w + i) = s) ∨ (0 < i ∧ cq_I g' (x + 29) (4 * w + i) = cq_I g (x + 29) (4 * w + (i - 1)) ∧ cq_I g (x + 29) (4 * w + (i - 1)) ≠ s ∧ i - 1 < cq_I g (x + 30) w) := by
    intro i i0 i1
    rw [g30] at i1
    have := Q.r29 i i0 i1
    by_cases w0 : i = 0
    · rw [if_pos w0] at this
      exact Or.inl ⟨w0, this⟩
    · rw [if_neg w0] at this
      exact Or.inr ⟨by omega, this, ne i (by omega) i1, by omega⟩
  refine ⟨⟨(es r (by rw [F.s0]; decide)).trans F.s0, (es (r + 1) (by rw [F.s1]; decide)).trans F.s1, by rw [eI, g30, rm], by rw [g30]; omega, fun i i0 i1 => ?_, fun i i0 i1 => ?_, fun i j i0 i1 i2 => ?_, fun i i0 i1 => ?_⟩, cs⟩
  · show cq_A h' (r + 1) i = some (if cq_I g' (x + 29) (4 * w + i) = s then a else T (cq_I g' (x + 29) (4 * w + i)))
    rw [eA, rm]
    unfold shU
    rcases cs i i0 i1 with ⟨e1, e2⟩ | ⟨e1, e2, e3, e4⟩
    · rw [if_pos e1, e2, if_pos rfl]
    · rw [g30] at i1
      rw [if_neg (by omega), if_pos (by omega), e2, if_neg e3]
      exact F.at_ (i - 1) (by omega) e4
  · rcases cs i i0 i1 with ⟨e1, e2⟩ | ⟨e1, e2, e3, e4⟩
    · rw [e2]; exact q1
    · rw [e2]; exact F.sl (i - 1) (by omega) e4
  · rcases cs i i0 (by omega) with ⟨e1, e2⟩ | ⟨e1, e2, e3, e4⟩
    · rcases cs j (by omega) i2 with ⟨d1, d2⟩ | ⟨d1, d2, d3, d4⟩
      · omega
      · rw [e2, d2]; exact d3.symm
    · rcases cs j (by omega) i2 with ⟨d1, d2⟩ | ⟨d1, d2, d3, d4⟩
      · omega
      · rw [e2, d2]; exact F.di (i - 1) (j - 1) (by omega) (by omega) d4
  · show SR x (if cq_I g' (x + 29) (4 * w + i) = s then a else T (cq_I g' (x + 29) (4 * w + i))) (cq_I g' (x + 29) (4 * w + i)) h' g'
    rcases cs i i0 i1 with ⟨e1, e2⟩ | ⟨e1, e2, e3, e4⟩
    · rw [e2, if_pos rfl]; exact sr
    · rw [e2, if_neg e3]; exact old (i - 1) (by omega) e4 e3
theorem newS_q {x : Nat} {g : cx_Q} {w : Int} (h4 : 0 ≤ cq_I g (x + 30) w ∧ cq_I g (x + 30) w ≤ 4) : NQ x w (m_slotN g x w) g (m_newS g x w) ∧ (∀ i j, ¬ (i = x + 30 ∧ j = w) → ¬ (i = x + 29 ∧ 4 * w ≤ j ∧ j < 4 * w + 4) → cq_I (m_newS g x w) i j = cq_I g i j) ∧ cq_J (m_newS g x w) = cq_J g := by
  have n1 : cq_I (m_new1 g x w) (x + 30) w = rw1 (cq_I g (x + 30) w) ∧ (∀ i j, ¬ (i = x + 30 ∧ j = w) → cq_I (m_new1 g x w) i j = cq_I g i j) ∧ cq_J (m_new1 g x w) = cq_J g := by
    unfold m_new1 rw1
    by_cases w4 : cq_I g (x + 30) w = 4
    · rw [if_pos w4, if_neg (by omega)]
      exact ⟨rfl, fun _ _ _ => rfl, rfl⟩
    · rw [if_neg w4, if_pos (by omega)]
      exact ⟨by rw [mm_sI, if_pos ⟨rfl, rfl⟩], fun i j q => by rw [mm_sI, if_neg q], rfl⟩
  have rr : 1 ≤ rw1 (cq_I g (x + 30) w) ∧ rw1 (cq_I g (x + 30) w) ≤ 4 := by unfold rw1; split <;> omega
  obtain ⟨a1, a2, a3⟩ := n1
  obtain ⟨b1, b2, b3⟩ := m_sh_v (x := x) (r := w) (k := (cq_I (m_new1 g x w) (x + 30) w - 1).toNat) (g := m_new1 g x w)
  unfold m_newS
  generalize m_sh x w (cq_I (m_new1 g x w) (x + 30) w - 1).toNat (m_new1 g x w) = m at b1 b2 b3 ⊢
  rw [a1] at b1
  generalize m_new1 g x w = m' at a1 a2 a3 b1 b2 b3
  generalize m_slotN g x w = s
  refine ⟨⟨?_, fun i i0 i1 => ?_⟩, fun i j w1 w2 => ?_, ?_⟩
  · rw [mm_sI, if_neg (fun z => by omega), b2 _ _ (by omega)]
    exact a1
  · rw [mm_sI]
    by_cases w0 : i = 0
    · rw [if_pos ⟨rfl, by omega⟩, if_pos w0]
    · rw [if_neg (fun z => by omega), if_neg w0, b1, if_pos (by omega), a2 _ _ (fun z => by omega)]
      have : 4 * w + i - 1 = 4 * w + (i - 1) := by omega
      rw [this]
  · rw [mm_sI, if_neg (fun z => w2 ⟨z.1, by omega, by omega⟩)]
    by_cases e : i = x + 29
    · rw [e, b1, if_neg (fun z => w2 ⟨e, by omega, by omega⟩), a2 _ _ (fun z => by omega)]
    · rw [b2 i j e, a2 i j w1]
  · rw [mm_JI, b3, a3]
