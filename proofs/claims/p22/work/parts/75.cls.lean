/-! the class: what holds of its memory between steps, whatever was called -/
/-- sorts of the class's own cells -/
def own (s : Nat) : Prop := s ≤ 9 ∨ (100 ≤ s ∧ s ≤ 105) ∨ (171 ≤ s ∧ s ≤ 183)
/-- sorts of the reference's cells, and the script -/
def isR (s : Nat) : Prop := s = 10 ∨ s = 98 ∨ (106 ≤ s ∧ s ≤ 170)
/-- the sort of what a place refers to -/
def tyA (s : Nat) (j : Int) : Nat :=
  if s = 0 then 100 else if s = 1 then (if j = 0 then 171 else if j = 1 then 172 else if j = 2 then 173 else 174)
  else if s = 2 then (if j = 0 then 100 else 8) else if s = 3 then 175
  else if s = 4 then (if j = 8 then 176 else if j = 9 then 177 else if j = 10 then 178 else if j = 13 then 181 else if j = 14 then 179 else if j = 15 then 180 else 6)
  else if s = 5 then 182 else if s = 6 then 6
  else if s = 7 then (if j = 19 then 1 else if j = 12 then 6 else if j = 14 then 6 else 8)
  else if s = 8 then (if j = 1 then 101 else if j = 6 then 183 else 8)
  else if s = 9 then (if j = 0 then 105 else if j = 1 then 102 else if j = 8 then 103 else if j = 10 then 104 else if j = 12 then 0 else if j = 13 then 3 else 8)
  else if s = 101 then 6 else if s = 102 then 2 else if s = 105 then 4 else if s = 174 then 8 else if s = 176 then 6 else if s = 177 then 6 else if s = 181 then 5 else if s = 182 then 7 else 97
/-- how long an array is -/
def zT (n : Int) (s : Nat) (z : Int) : Prop :=
  if s = 100 then 0 ≤ z ∧ z ≤ 100 else if s = 101 then 0 ≤ z ∧ z ≤ 8 else if s = 102 then z = 80 else if s = 103 then z = 40 else if s = 104 then z = 40 else if s = 105 then z = n
  else if s = 171 then z = 20 else if s = 172 then z = 20 else if s = 173 then z = 20 else if s = 174 then z = 20 else if s = 175 then z = 10 else if s = 176 then z = 21 else if s = 177 then z = 61 else if s = 178 then z = 61
  else if s = 179 then z = 100 else if s = 180 then z = 100 else if s = 181 then z = n else if s = 182 then z = 4 else if s = 183 then z = 80 else True
/-- the bounds of an int -/
def rI (Z : Int) (s : Nat) (j v : Int) : Prop :=
  if s = 0 then (if j = 1 then 0 ≤ v ∧ v ≤ 400 else if j = 7 then 0 ≤ v ∧ v ≤ 65535 else if j = 8 then 0 ≤ v ∧ v ≤ 65535 else if j = 10 then 0 ≤ v ∧ v ≤ 65535 else if j = 11 then 0 ≤ v ∧ v ≤ 65535 else if j = 12 then 0 ≤ v ∧ v ≤ 255 else if j = 13 then 0 ≤ v ∧ v ≤ 400 else True)
  else if s = 1 then (if j = 4 then 0 ≤ v ∧ v ≤ 20 else True)
  else if s = 2 then (if j = 1 then 0 ≤ v ∧ v ≤ 100 else True)
  else if s = 3 then (if j = 1 then -1 ≤ v ∧ v ≤ 19 else if j = 3 then 0 ≤ v ∧ v ≤ 70000 else if j = 4 then -70000 ≤ v ∧ v ≤ 70000 else True)
  else if s = 4 then (if j = 1 then 0 ≤ v ∧ v ≤ Z else if j = 4 then 0 ≤ v ∧ v ≤ 20 else if j = 11 then 0 ≤ v ∧ v ≤ 60 else if j = 12 then 0 ≤ v ∧ v ≤ 60 else if j = 16 then 0 ≤ v ∧ v ≤ 100 else True)
  else if s = 5 then (if j = 1 then 0 ≤ v ∧ v ≤ 4 else True)
  else if s = 7 then (if j = 16 then 0 ≤ v ∧ v ≤ Z else if j = 17 then 0 ≤ v ∧ v ≤ 65536 else if j = 18 then 0 ≤ v ∧ v ≤ Z else True)
  else if s = 9 then (if j = 2 then 0 ≤ v ∧ v ≤ 80 else if j = 3 then 0 ≤ v ∧ v ≤ Z else if j = 4 then 0 ≤ v ∧ v ≤ 100 else if j = 5 then 0 ≤ v ∧ v ≤ 100 else if j = 6 then 0 ≤ v ∧ v ≤ Z else if j = 7 then 0 ≤ v ∧ v ≤ Z else if j = 9 then 0 ≤ v ∧ v ≤ 40 else if j = 11 then 0 ≤ v ∧ v ≤ 40 else True)
  else if s = 100 then 0 ≤ v ∧ v ≤ 255 else True
/-- of a user: none, it has not registered; else how many LENT keys it made -/
def peT (e : Option Int) (r : Option Nat) (v : Int) : Prop := match e with
  | none => r = none ∧ v = 0
  | some k => r ≠ none ∧ v = k
/-- what is there of a cell that is made -/
def muA (s : Nat) (j z : Int) : Prop := (s = 0 ∧ j = 0) ∨ (s = 1 ∧ 0 ≤ j ∧ j ≤ 3) ∨ (s = 2 ∧ (j = 0 ∨ j = 2)) ∨ (s = 3 ∧ j = 0) ∨ (s = 4 ∧ (j = 8 ∨ j = 9 ∨ j = 10 ∨ j = 13 ∨ j = 14 ∨ j = 15)) ∨ (s = 7 ∧ (j = 7 ∨ j = 12 ∨ j = 19)) ∨ (s = 8 ∧ (j = 1 ∨ j = 6)) ∨ (s = 9 ∧ (j = 0 ∨ j = 1 ∨ j = 8 ∨ j = 10 ∨ j = 12 ∨ j = 13 ∨ j = 14)) ∨ ((s = 105 ∨ s = 181) ∧ 0 ≤ j ∧ j < z)
/-- a row: its sessions stand behind it, and those that it has can be written in -/
def rwT (h : cx_Q) (a : Nat) : Prop := cq_A h a 0 = some (a + 1) ∧ ∀ i, 0 ≤ i → i < cq_I h a 1 → ∃ s, cq_A h (a + 1) i = some s ∧ cq_A h s 9 ≠ none
/-- the reference's cells and the script are as they were -/
def FR (h0 h : cx_Q) : Prop := h0.1 ≤ h.1 ∧ ∀ a, isR (cq_s h0 a) → a < h0.1 ∧ cq_s h a = cq_s h0 a ∧ cq_z h a = cq_z h0 a ∧ cq_I h a = cq_I h0 a ∧ cq_J h a = cq_J h0 a ∧ cq_A h a = cq_A h0 a
/-- the letters that were written are there -/
def leT (h : cx_Q) (c : Nat) : Prop := ∀ b, cq_A h c 1 = some b → ∀ i, 0 ≤ i → i < cq_I h c 2 → cq_A h b i ≠ none
/-- c the class's object, n its users, L its looks, Z a bound of counts, E what is told of users, h0 the memory ahead of the call, X cells that are being made -/
def CB (c : Nat) (n L Z : Int) (E : Nat → Option Int) (h0 : cx_Q) (X : List Nat) (h : cx_Q) : Prop :=
  FR h0 h ∧ (∀ a, h.1 ≤ a → cq_s h a = 99) ∧ (∀ a j b, own (cq_s h a) → cq_A h a j = some b → cq_s h b = tyA (cq_s h a) j) ∧ (∀ a, zT n (cq_s h a) (cq_z h a)) ∧ (∀ a j, rI Z (cq_s h a) j (cq_I h a j))
  ∧ (∀ a b, cq_s h a = 6 → cq_A h a 2 = some b → b < a) ∧ (∀ a b, cq_s h a = 8 → cq_A h a 3 = some b → b < a) ∧ (∀ a, a ∉ X → ∀ j, muA (cq_s h a) j (cq_z h a) → cq_A h a j ≠ none) ∧ (∀ a, a ∉ X → cq_s h a = 5 → rwT h a) ∧ (∀ a, cq_s h a = 4 → peT (E a) (cq_A h a 3) (cq_I h a 4))
  ∧ (cq_s h c = 9 ∧ cq_I h c 7 = L ∧ leT h c ∧ 0 ≤ Z)
section
variable {c : Nat} {n L Z : Int} {E : Nat → Option Int} {h0 : cx_Q} {X : List Nat} {h : cx_Q}
theorem CB.fr (H : CB c n L Z E h0 X h) : FR h0 h := H.1
theorem CB.al (H : CB c n L Z E h0 X h) : ∀ a, h.1 ≤ a → cq_s h a = 99 := H.2.1
theorem CB.ty (H : CB c n L Z E h0 X h) : ∀ a j b, own (cq_s h a) → cq_A h a j = some b → cq_s h b = tyA (cq_s h a) j := H.2.2.1
theorem CB.zz (H : CB c n L Z E h0 X h) : ∀ a, zT n (cq_s h a) (cq_z h a) := H.2.2.2.1
theorem CB.ri (H : CB c n L Z E h0 X h) : ∀ a j, rI Z (cq_s h a) j (cq_I h a j) := H.2.2.2.2.1
theorem CB.l6 (H : CB c n L Z E h0 X h) : ∀ a b, cq_s h a = 6 → cq_A h a 2 = some b → b < a := H.2.2.2.2.2.1
theorem CB.l8 (H : CB c n L Z E h0 X h) : ∀ a b, cq_s h a = 8 → cq_A h a 3 = some b → b < a := H.2.2.2.2.2.2.1
theorem CB.nn (H : CB c n L Z E h0 X h) : ∀ a, a ∉ X → ∀ j, muA (cq_s h a) j (cq_z h a) → cq_A h a j ≠ none := H.2.2.2.2.2.2.2.1
theorem CB.rw (H : CB c n L Z E h0 X h) : ∀ a, a ∉ X → cq_s h a = 5 → rwT h a := H.2.2.2.2.2.2.2.2.1
theorem CB.pe (H : CB c n L Z E h0 X h) : ∀ a, cq_s h a = 4 → peT (E a) (cq_A h a 3) (cq_I h a 4) := H.2.2.2.2.2.2.2.2.2.1
theorem CB.cs (H : CB c n L Z E h0 X h) : cq_s h c = 9 := H.2.2.2.2.2.2.2.2.2.2.1
theorem CB.lk (H : CB c n L Z E h0 X h) : cq_I h c 7 = L := H.2.2.2.2.2.2.2.2.2.2.2.1
theorem CB.le (H : CB c n L Z E h0 X h) : leT h c := H.2.2.2.2.2.2.2.2.2.2.2.2.1
theorem CB.z0 (H : CB c n L Z E h0 X h) : 0 ≤ Z := H.2.2.2.2.2.2.2.2.2.2.2.2.2
/-- a reference of a cell, or null, is of its sort -/
theorem CB.ta (H : CB c n L Z E h0 X h) {a b s : Nat} {j : Int} (hs : cq_s h a = s) (ho : own s) (q : cq_A h a j = some b) : cq_s h b = tyA s j := by
  have := H.ty a j b (by rw [hs]; exact ho) q
  rw [hs] at this
  exact this
theorem CB.tz (H : CB c n L Z E h0 X h) {a s : Nat} (hs : cq_s h a = s) : zT n s (cq_z h a) := by
  have := H.zz a
  rw [hs] at this
  exact this
theorem CB.ti (H : CB c n L Z E h0 X h) {a s : Nat} (j : Int) (hs : cq_s h a = s) : rI Z s j (cq_I h a j) := by
  have := H.ri a j
  rw [hs] at this
  exact this
theorem FR.nR {h0 h : cx_Q} (F : FR h0 h) {a b : Nat} (ho : own (cq_s h a)) (hb : isR (cq_s h0 b)) : b ≠ a := by
  intro e
  have := (F.2 b hb).2.1
  rw [e] at this
  rw [e, ← this] at hb
  unfold own at ho
  unfold isR at hb
  omega
theorem FR.sI {h0 h : cx_Q} (F : FR h0 h) {a : Nat} {j v : Int} (ho : own (cq_s h a)) : FR h0 (cq_sI h a j v) := by
  refine ⟨F.1, fun b hb => ?_⟩
  have ne := F.nR ho hb
  obtain ⟨q0, q1, q2, q3, q4, q5⟩ := F.2 b hb
  refine ⟨q0, q1, q2, ?_, q4, q5⟩
  funext r
  rw [mm_sI, if_neg (fun e => ne e.1), q3]
theorem FR.sJ {h0 h : cx_Q} (F : FR h0 h) {a : Nat} {j : Int} {v : Int64} (ho : own (cq_s h a)) : FR h0 (cq_sJ h a j v) := by
  refine ⟨F.1, fun b hb => ?_⟩
  have ne := F.nR ho hb
  obtain ⟨q0, q1, q2, q3, q4, q5⟩ := F.2 b hb
  refine ⟨q0, q1, q2, q3, ?_, q5⟩
  funext r
  rw [mm_sJ, if_neg (fun e => ne e.1), q4]
theorem FR.sA {h0 h : cx_Q} (F : FR h0 h) {a : Nat} {j : Int} {v : Option Nat} (ho : own (cq_s h a)) : FR h0 (cq_sA h a j v) := by
  refine ⟨F.1, fun b hb => ?_⟩
  have ne := F.nR ho hb
  obtain ⟨q0, q1, q2, q3, q4, q5⟩ := F.2 b hb
  refine ⟨q0, q1, q2, q3, q4, ?_⟩
  funext r
  rw [mm_sA, if_neg (fun e => ne e.1), q5]
theorem CB.sJ (H : CB c n L Z E h0 X h) {a s : Nat} {j : Int} {v : Int64} (hs : cq_s h a = s) (ho : own s) : CB c n L Z E h0 X (cq_sJ h a j v) := ⟨H.1.sJ (by rw [hs]; exact ho), H.2⟩
/-- ints that more rests on than their bounds -/
def spI0 (s : Nat) (j : Int) : Bool := (s == 4 && j == 4) || (s == 5 && j == 1) || (s == 9 && (j == 2 || j == 7))
/-- references that more rests on than their sort -/
def spA0 (s : Nat) (j : Int) : Bool := s == 182 || s == 102 || (s == 5 && j == 0) || (s == 6 && j == 2) || (s == 8 && j == 3) || (s == 4 && j == 3) || (s == 9 && j == 1) || (s == 7 && j == 9)
theorem spI0_n {s s' : Nat} {j j' : Int} (q : spI0 s j = false) (q' : spI0 s' j' = true) : ¬ (s = s' ∧ j = j') := fun e => by rw [e.1, e.2, q'] at q; exact absurd q (by decide)
theorem spA0_n {s s' : Nat} {j j' : Int} (q : spA0 s j = false) (q' : spA0 s' j' = true) : ¬ (s = s' ∧ j = j') := fun e => by rw [e.1, e.2, q'] at q; exact absurd q (by decide)
theorem CB.sIx (H : CB c n L Z E h0 X h) {a s : Nat} {j v : Int} (hs : cq_s h a = s) (ho : own s) (hv : rI Z s j v) (h44 : ¬ (s = 4 ∧ j = 4)) (h51 : s = 5 → j = 1 → a ∈ X) (h97 : ¬ (s = 9 ∧ j = 7)) (h92 : s = 9 → j = 2 → leT (cq_sI h a j v) c) : CB c n L Z E h0 X (cq_sI h a j v) := by
  have ne : ∀ {b : Nat} {r : Int}, ¬ (s = cq_s h b ∧ j = r) → cq_I (cq_sI h a j v) b r = cq_I h b r := by
    intro b r q
    rw [mm_sI, if_neg (fun e => q ⟨by rw [e.1]; exact hs.symm, e.2.symm⟩)]
  refine ⟨H.1.sI (by rw [hs]; exact ho), H.al, H.ty, H.zz, fun b r => ?_, H.l6, H.l8, H.nn, fun b hb h5 => ?_, fun b hb => ?_, H.cs, ?_, ?_, H.z0⟩
  · rw [mm_sI]
    split
    · rename_i e
      rw [e.1, e.2]
      show rI Z (cq_s h a) j v
      rw [hs]
      exact hv
    · exact H.ri b r
  · have h5' : cq_s h b = 5 := h5
    have e : cq_I (cq_sI h a j v) b 1 = cq_I h b 1 := by
      rw [mm_sI, if_neg (fun e => hb (by rw [e.1]; exact h51 (by rw [← hs, ← e.1]; exact h5') e.2.symm))]
    have := H.rw b hb h5
    unfold rwT at this ⊢
    rw [e]
    exact this
  · have hb' : cq_s h b = 4 := hb
    have e : cq_I (cq_sI h a j v) b 4 = cq_I h b 4 := ne (by rw [hb']; exact h44)
    rw [e]
    exact H.pe b hb
  · have e : cq_I (cq_sI h a j v) c 7 = cq_I h c 7 := ne (by rw [H.cs]; exact h97)
    rw [e]
    exact H.lk
  · by_cases q : s = 9 ∧ j = 2
    · exact h92 q.1 q.2
    · intro b hb i i0 i1
      have e : cq_I (cq_sI h a j v) c 2 = cq_I h c 2 := ne (by rw [H.cs]; exact q)
      rw [e] at i1
      exact H.le b hb i i0 i1
theorem CB.sI (H : CB c n L Z E h0 X h) {a s : Nat} {j v : Int} (hs : cq_s h a = s) (ho : own s) (hv : rI Z s j v) (hx : spI0 s j = false) : CB c n L Z E h0 X (cq_sI h a j v) := H.sIx hs ho hv (spI0_n hx rfl) (fun q1 q2 => absurd ⟨q1, q2⟩ (spI0_n hx rfl)) (spI0_n hx rfl) (fun q1 q2 => absurd ⟨q1, q2⟩ (spI0_n hx rfl))
theorem CB.sAx (H : CB c n L Z E h0 X h) {a s : Nat} {j : Int} {v : Option Nat} (hs : cq_s h a = s) (ho : own s) (hv : ∀ b, v = some b → cq_s h b = tyA s j) (hm : v = none → ¬ muA s j (cq_z h a)) (h182 : s = 182 → ∃ r, r ∈ X ∧ a = r + 1) (h102 : s = 102 → v ≠ none) (h50 : s = 5 → j = 0 → a ∈ X) (hlo : (s = 6 ∧ j = 2) ∨ (s = 8 ∧ j = 3) → ∀ b, v = some b → b < a) (h43 : ¬ (s = 4 ∧ j = 3)) (h91 : s = 9 → j = 1 → cq_I h a 2 = 0) (h79 : s = 7 → j = 9 → v ≠ none) : CB c n L Z E h0 X (cq_sA h a j v) := by
  have ne : ∀ {b : Nat} {r : Int}, ¬ (s = cq_s h b ∧ j = r) → cq_A (cq_sA h a j v) b r = cq_A h b r := by
    intro b r q
    rw [mm_sA, if_neg (fun e => q ⟨by rw [e.1]; exact hs.symm, e.2.symm⟩)]
  refine ⟨H.1.sA (by rw [hs]; exact ho), H.al, fun b r t hb q => ?_, H.zz, H.ri, fun b t hb q => ?_, fun b t hb q => ?_, fun b hb r q => ?_, fun b hb h5 => ?_, fun b hb => ?_, H.cs, H.lk, ?_, H.z0⟩
  · rw [mm_sA] at q
    show cq_s h t = tyA (cq_s h b) r
    split at q
    · rename_i e
      rw [e.1, e.2, hs]
      exact hv t q
    · exact H.ty b r t hb q
  · have hb' : cq_s h b = 6 := hb
    rw [mm_sA] at q
    split at q
    · rename_i e
      rw [e.1]
      exact hlo (Or.inl ⟨by rw [← hs, ← e.1]; exact hb', e.2.symm⟩) t q
    · exact H.l6 b t hb q
  · have hb' : cq_s h b = 8 := hb
    rw [mm_sA] at q
    split at q
    · rename_i e
      rw [e.1]
      exact hlo (Or.inr ⟨by rw [← hs, ← e.1]; exact hb', e.2.symm⟩) t q
    · exact H.l8 b t hb q
  · rw [mm_sA]
    split
    · rename_i e
      intro w
      refine hm w ?_
      have q' : muA (cq_s h b) r (cq_z h b) := q
      rw [e.1, e.2, hs] at q'
      exact q'
    · exact H.nn b hb r q
  · have h5' : cq_s h b = 5 := h5
    obtain ⟨r1, r2⟩ := H.rw b hb h5
    have e0 : cq_A (cq_sA h a j v) b 0 = cq_A h b 0 := by
      rw [mm_sA, if_neg (fun e => hb (by rw [e.1]; exact h50 (by rw [← hs, ← e.1]; exact h5') e.2.symm))]
    have s1 : cq_s h (b + 1) = 182 := H.ta h5' (Or.inl (by decide)) r1
    refine ⟨by rw [e0]; exact r1, fun i i0 i1 => ?_⟩
    obtain ⟨s', q1, q2⟩ := r2 i i0 i1
    have s7 : cq_s h s' = 7 := H.ta s1 (Or.inr (Or.inr (by decide))) q1
    refine ⟨s', ?_, ?_⟩
    · rw [mm_sA, if_neg (fun e => ?_)]
      · exact q1
      · obtain ⟨r, w1, w2⟩ := h182 (by rw [← hs, ← e.1]; exact s1)
        have : b = r := by have := e.1; omega
        rw [this] at hb
        exact hb w1
    · rw [mm_sA]
      split
      · rename_i e
        exact h79 (by rw [← hs, ← e.1]; exact s7) e.2.symm
      · exact q2
  · have hb' : cq_s h b = 4 := hb
    rw [ne (by rw [hb']; exact h43)]
    exact H.pe b hb
  · intro b hb i i0 i1
    by_cases q : s = 9 ∧ j = 1
    · by_cases w : c = a
      · have := h91 q.1 q.2
        rw [← w] at this
        have i1' : i < cq_I h c 2 := i1
        omega
      · rw [mm_sA, if_neg (fun e => w e.1)] at hb
        have sb : cq_s h b = 102 := H.ta H.cs (Or.inl (by decide)) hb
        rw [ne (by rw [sb]; exact fun e => absurd (q.1.symm.trans e.1) (by decide))]
        exact H.le b hb i i0 i1
    · rw [ne (by rw [H.cs]; exact q)] at hb
      have sb : cq_s h b = 102 := H.ta H.cs (Or.inl (by decide)) hb
      rw [mm_sA]
      split
      · rename_i e
        exact h102 (by rw [← hs, ← e.1]; exact sb)
      · exact H.le b hb i i0 i1
theorem CB.sA (H : CB c n L Z E h0 X h) {a s : Nat} {j : Int} {v : Option Nat} (hs : cq_s h a = s) (ho : own s) (hv : ∀ b, v = some b → cq_s h b = tyA s j) (hm : v = none → ¬ muA s j (cq_z h a)) (hx : spA0 s j = false) : CB c n L Z E h0 X (cq_sA h a j v) := by
  have k : ∀ {s' : Nat} {j' : Int}, spA0 s' j' = true → ¬ (s = s' ∧ j = j') := fun q => spA0_n hx q
  have kk : ∀ {s' : Nat}, (∀ j', spA0 s' j' = true) → s ≠ s' := fun q e => spA0_n hx (q j) ⟨e, rfl⟩
  exact H.sAx hs ho hv hm (fun q => absurd q (kk (fun _ => rfl))) (fun q => absurd q (kk (fun _ => rfl))) (fun q1 q2 => absurd ⟨q1, q2⟩ (k rfl)) (fun q => q.elim (fun e => absurd e (k rfl)) (fun e => absurd e (k rfl))) (k rfl) (fun q1 q2 => absurd ⟨q1, q2⟩ (k rfl)) (fun q1 q2 => absurd ⟨q1, q2⟩ (k rfl))
theorem itn {p : Prop} [Decidable p] {A B k : Nat} (a : A ≠ k) (b : B ≠ k) : (if p then A else B) ≠ k := by
  by_cases q : p
  · rw [if_pos q]; exact a
  · rw [if_neg q]; exact b
theorem itp {p A B : Prop} [Decidable p] (a : A) (b : B) : if p then A else B := by
  by_cases q : p
  · rw [if_pos q]; exact a
  · rw [if_neg q]; exact b
theorem iti {p A B A' B' : Prop} [Decidable p] (f : A → A') (g : B → B') : (if p then A else B) → (if p then A' else B') := by
  intro w
  by_cases q : p
  · rw [if_pos q] at w ⊢; exact f w
  · rw [if_neg q] at w ⊢; exact g w
theorem tyA_ne {s : Nat} {j : Int} : tyA s j ≠ 99 := by
  unfold tyA
  repeat' (with_reducible refine itn ?_ ?_)
  all_goals decide
theorem rI_0 {Z : Int} {s : Nat} {j : Int} (hZ : 0 ≤ Z) : rI Z s j 0 := by
  unfold rI
  repeat' (with_reducible refine itp ?_ ?_)
  all_goals (first | trivial | (constructor <;> omega))
/-- a cell more -/
theorem CB.nw (H : CB c n L Z E h0 X h) {s : Nat} {z : Int} (hz : zT n s z) (h4 : s = 4 → E h.1 = none) : CB c n L Z E h0 (h.1 :: X) (cq_nw h s z) := by
  have hal : cq_s h h.1 = 99 := H.al _ (Nat.le_refl _)
  have ne : ∀ {a k : Nat}, cq_s h a = k → k ≠ 99 → a ≠ h.1 := by
    intro a k q w e
    rw [e, hal] at q
    exact w q.symm
  obtain ⟨n1, n2, n3, n4, n5⟩ := nw_n (h := h) (s := s) (z := z)
  refine ⟨⟨Nat.le_succ_of_le H.1.1, fun b hb => ?_⟩, fun b hb => ?_, fun b r t hb q => ?_, fun b => ?_, fun b r => ?_, fun b t hb q => ?_, fun b t hb q => ?_, fun b hb r q => ?_, fun b hb h5 => ?_, fun b hb => ?_, ?_, ?_, ?_, H.z0⟩
  · obtain ⟨q0, q1, q2, q3, q4, q5⟩ := H.1.2 b hb
    have nb : b ≠ h.1 := by have := H.1.1; omega
    obtain ⟨w1, w2, w3, w4, w5⟩ := nw_o (s := s) (z := z) nb
    exact ⟨q0, w1.trans q1, w2.trans q2, w3.trans q3, w4.trans q4, w5.trans q5⟩
  · have hb' : h.1 + 1 ≤ b := hb
    rw [(nw_o (s := s) (z := z) (show b ≠ h.1 by omega)).1]
    exact H.al b (by omega)
  · by_cases e : b = h.1
    · rw [e, n5] at q
      have q' : (none : Option Nat) = some t := q
      cases q'
    · obtain ⟨w1, w2, w3, w4, w5⟩ := nw_o (s := s) (z := z) e
      rw [w5] at q
      rw [w1] at hb ⊢
      have := H.ty b r t hb q
      rw [(nw_o (s := s) (z := z) (ne this tyA_ne)).1]
      exact this
  · by_cases e : b = h.1
    · rw [e, n1, n2]; exact hz
    · obtain ⟨w1, w2, w3, w4, w5⟩ := nw_o (s := s) (z := z) e
      rw [w1, w2]; exact H.zz b
  · by_cases e : b = h.1
    · rw [e, n3]; exact rI_0 H.z0
    · obtain ⟨w1, w2, w3, w4, w5⟩ := nw_o (s := s) (z := z) e
      rw [w1, w3]; exact H.ri b r
  · by_cases e : b = h.1
    · rw [e, n5] at q
      have q' : (none : Option Nat) = some t := q
      cases q'
    · obtain ⟨w1, w2, w3, w4, w5⟩ := nw_o (s := s) (z := z) e
      rw [w5] at q
      rw [w1] at hb
      exact H.l6 b t hb q
  · by_cases e : b = h.1
    · rw [e, n5] at q
      have q' : (none : Option Nat) = some t := q
      cases q'
    · obtain ⟨w1, w2, w3, w4, w5⟩ := nw_o (s := s) (z := z) e
      rw [w5] at q
      rw [w1] at hb
      exact H.l8 b t hb q
  · have e : b ≠ h.1 := fun e => hb (by rw [e]; exact List.mem_cons_self)
    obtain ⟨w1, w2, w3, w4, w5⟩ := nw_o (s := s) (z := z) e
    rw [w1, w2] at q
    rw [w5]
    exact H.nn b (fun w => hb (List.mem_cons_of_mem _ w)) r q
  · have e : b ≠ h.1 := fun e => hb (by rw [e]; exact List.mem_cons_self)
    obtain ⟨w1, w2, w3, w4, w5⟩ := nw_o (s := s) (z := z) e
    rw [w1] at h5
    obtain ⟨r1, r2⟩ := H.rw b (fun w => hb (List.mem_cons_of_mem _ w)) h5
    have s1 : cq_s h (b + 1) = 182 := H.ta h5 (Or.inl (by decide)) r1
    refine ⟨by rw [w5]; exact r1, fun i i0 i1 => ?_⟩
    rw [w3] at i1
    obtain ⟨s', q1, q2⟩ := r2 i i0 i1
    have s7 : cq_s h s' = 7 := H.ta s1 (Or.inr (Or.inr (by decide))) q1
    refine ⟨s', ?_, ?_⟩
    · rw [(nw_o (s := s) (z := z) (ne s1 (by decide))).2.2.2.2]
      exact q1
    · rw [(nw_o (s := s) (z := z) (ne s7 (by decide))).2.2.2.2]
      exact q2
  · by_cases e : b = h.1
    · rw [e] at hb ⊢
      rw [n1] at hb
      rw [n5, n3, h4 hb]
      exact ⟨rfl, rfl⟩
    · obtain ⟨w1, w2, w3, w4, w5⟩ := nw_o (s := s) (z := z) e
      rw [w1] at hb
      rw [w5, w3]
      exact H.pe b hb
  · rw [(nw_o (s := s) (z := z) (ne H.cs (by decide))).1]
    exact H.cs
  · rw [(nw_o (s := s) (z := z) (ne H.cs (by decide))).2.2.1]
    exact H.lk
  · obtain ⟨w1, w2, w3, w4, w5⟩ := nw_o (s := s) (z := z) (ne H.cs (by decide))
    intro b hb i i0 i1
    rw [w5] at hb
    rw [w3] at i1
    have sb : cq_s h b = 102 := H.ta H.cs (Or.inl (by decide)) hb
    rw [(nw_o (s := s) (z := z) (ne sb (by decide))).2.2.2.2]
    exact H.le b hb i i0 i1
/-- a cell is made -/
theorem CB.mk {a : Nat} (H : CB c n L Z E h0 (a :: X) h) {s : Nat} (hs : cq_s h a = s) (hm : ∀ j, muA s j (cq_z h a) → cq_A h a j ≠ none) (h5 : s = 5 → rwT h a) : CB c n L Z E h0 X h := by
  refine ⟨H.1, H.2.1, H.2.2.1, H.2.2.2.1, H.2.2.2.2.1, H.l6, H.l8, fun b hb r q => ?_, fun b hb w => ?_, H.pe, H.2.2.2.2.2.2.2.2.2.2⟩
  · by_cases e : b = a
    · rw [e] at q ⊢
      rw [hs] at q
      exact hm r q
    · exact H.nn b (fun w => (List.mem_cons.mp w).elim e hb) r q
  · by_cases e : b = a
    · rw [e] at w ⊢
      exact h5 (hs.symm.trans w)
    · exact H.rw b (fun w => (List.mem_cons.mp w).elim e hb) w
/-- a cell is taken out for a while -/
theorem CB.op (H : CB c n L Z E h0 X h) {a : Nat} : CB c n L Z E h0 (a :: X) h := ⟨H.1, H.2.1, H.2.2.1, H.2.2.2.1, H.2.2.2.2.1, H.l6, H.l8, fun b hb => H.nn b (fun w => hb (List.mem_cons_of_mem _ w)), fun b hb => H.rw b (fun w => hb (List.mem_cons_of_mem _ w)), H.2.2.2.2.2.2.2.2.2⟩
theorem rI_le {Z Z' : Int} {s : Nat} {j v : Int} (hz : Z ≤ Z') : rI Z s j v → rI Z' s j v := by
  unfold rI
  repeat' (with_reducible refine iti ?_ ?_)
  all_goals (first | exact id | exact fun q => ⟨q.1, Int.le_trans q.2 hz⟩)
theorem CB.up (H : CB c n L Z E h0 X h) {Z' : Int} (hz : Z ≤ Z') : CB c n L Z' E h0 X h := ⟨H.1, H.2.1, H.2.2.1, H.2.2.2.1, fun b r => rI_le hz (H.ri b r), H.l6, H.l8, H.nn, H.rw, H.pe, H.cs, H.lk, H.le, Int.le_trans H.z0 hz⟩
/-- a user has its IDENTITY -/
theorem CB.sA43 (H : CB c n L Z E h0 X h) {a b : Nat} (hs : cq_s h a = 4) (hb : cq_s h b = 6) : CB c n L Z (fun q => if q = a then some (cq_I h a 4) else E q) h0 X (cq_sA h a 3 (some b)) := by
  have ne : ∀ {b' : Nat} {r : Int}, ¬ (b' = a ∧ r = 3) → cq_A (cq_sA h a 3 (some b)) b' r = cq_A h b' r := by
    intro b' r q
    rw [mm_sA, if_neg q]
  have nes : ∀ {b' k : Nat} {r : Int}, cq_s h b' = k → k ≠ 4 → cq_A (cq_sA h a 3 (some b)) b' r = cq_A h b' r := fun q w => ne (fun e => w (by rw [← q, e.1]; exact hs))
  refine ⟨H.1.sA (by rw [hs]; exact Or.inl (by decide)), H.al, fun b' r t hb' q => ?_, H.zz, H.ri, fun b' t hb' q => ?_, fun b' t hb' q => ?_, fun b' hb' r q => ?_, fun b' hb' h5 => ?_, fun b' hb' => ?_, H.cs, H.lk, ?_, H.z0⟩
  · rw [mm_sA] at q
    show cq_s h t = tyA (cq_s h b') r
    split at q
    · rename_i e
      rw [e.1, e.2, hs]
      have := Option.some.inj q
      rw [← this]
      exact hb
    · exact H.ty b' r t hb' q
  · rw [nes hb' (by decide)] at q
    exact H.l6 b' t hb' q
  · rw [nes hb' (by decide)] at q
    exact H.l8 b' t hb' q
  · rw [mm_sA]
    split
    · exact Option.some_ne_none b
    · exact H.nn b' hb' r q
  · obtain ⟨r1, r2⟩ := H.rw b' hb' h5
    have s1 : cq_s h (b' + 1) = 182 := H.ta h5 (Or.inl (by decide)) r1
    refine ⟨by rw [nes h5 (by decide)]; exact r1, fun i i0 i1 => ?_⟩
    obtain ⟨s', q1, q2⟩ := r2 i i0 i1
    have s7 : cq_s h s' = 7 := H.ta s1 (Or.inr (Or.inr (by decide))) q1
    exact ⟨s', by rw [nes s1 (by decide)]; exact q1, by rw [nes s7 (by decide)]; exact q2⟩
  · show peT (if b' = a then some (cq_I h a 4) else E b') _ _
    by_cases e : b' = a
    · rw [e, if_pos rfl, mm_sA, if_pos ⟨rfl, rfl⟩]
      exact ⟨Option.some_ne_none b, rfl⟩
    · rw [if_neg e, ne (fun w => e w.1)]
      exact H.pe b' hb'
  · intro b' hb' i i0 i1
    rw [nes H.cs (by decide)] at hb'
    have sb : cq_s h b' = 102 := H.ta H.cs (Or.inl (by decide)) hb'
    rw [nes sb (by decide)]
    exact H.le b' hb' i i0 i1
/-- a user has another LENT key -/
theorem CB.sI44 (H : CB c n L Z E h0 X h) {a : Nat} {k : Int} (hs : cq_s h a = 4) (hE : E a = some k) (hk : 0 ≤ k + 1 ∧ k + 1 ≤ 20) : CB c n L Z (fun q => if q = a then some (k + 1) else E q) h0 X (cq_sI h a 4 (k + 1)) := by
  have nes : ∀ {b' k' : Nat} {r : Int}, cq_s h b' = k' → k' ≠ 4 → cq_I (cq_sI h a 4 (k + 1)) b' r = cq_I h b' r := by
    intro b' k' r q w
    rw [mm_sI, if_neg (fun e => w (by rw [← q, e.1]; exact hs))]
  refine ⟨H.1.sI (by rw [hs]; exact Or.inl (by decide)), H.al, H.ty, H.zz, fun b r => ?_, H.l6, H.l8, H.nn, fun b hb h5 => ?_, fun b hb => ?_, H.cs, ?_, ?_, H.z0⟩
  · rw [mm_sI]
    split
    · rename_i e
      rw [e.1, e.2]
      show rI Z (cq_s h a) 4 (k + 1)
      rw [hs]
      exact hk
    · exact H.ri b r
  · have := H.rw b hb h5
    unfold rwT at this ⊢
    rw [nes h5 (by decide)]
    exact this
  · show peT (if b = a then some (k + 1) else E b) _ _
    by_cases e : b = a
    · have := H.pe a hs
      rw [hE] at this
      rw [e, if_pos rfl, mm_sI, if_pos ⟨rfl, rfl⟩]
      exact ⟨this.1, rfl⟩
    · rw [if_neg e, mm_sI, if_neg (fun w => e w.1)]
      exact H.pe b hb
  · rw [nes H.cs (by decide)]
    exact H.lk
  · intro b hb i i0 i1
    rw [nes H.cs (by decide)] at i1
    exact H.le b hb i i0 i1
/-- a LOOK more -/
theorem CB.sI97 (H : CB c n L Z E h0 X h) (hv : 0 ≤ L + 1 ∧ L + 1 ≤ Z) : CB c n (L + 1) Z E h0 X (cq_sI h c 7 (L + 1)) := by
  have nes : ∀ {b' k' : Nat} {r : Int}, cq_s h b' = k' → k' ≠ 9 → cq_I (cq_sI h c 7 (L + 1)) b' r = cq_I h b' r := by
    intro b' k' r q w
    rw [mm_sI, if_neg (fun e => w (by rw [← q, e.1]; exact H.cs))]
  refine ⟨H.1.sI (by rw [H.cs]; exact Or.inl (by decide)), H.al, H.ty, H.zz, fun b r => ?_, H.l6, H.l8, H.nn, fun b hb h5 => ?_, fun b hb => ?_, H.cs, ?_, ?_, H.z0⟩
  · rw [mm_sI]
    split
    · rename_i e
      rw [e.1, e.2]
      show rI Z (cq_s h c) 7 (L + 1)
      rw [H.cs]
      exact hv
    · exact H.ri b r
  · have := H.rw b hb h5
    unfold rwT at this ⊢
    rw [nes h5 (by decide)]
    exact this
  · rw [nes hb (by decide)]
    exact H.pe b hb
  · rw [mm_sI, if_pos ⟨rfl, rfl⟩]
  · intro b hb i i0 i1
    rw [mm_sI, if_neg (fun e => absurd e.2 (by decide))] at i1
    exact H.le b hb i i0 i1
end
/-- the same with the SECRETS and the turns -/
def CI (c : Nat) (n L Z : Int) (E : Nat → Option Int) (h0 : cx_Q) (X : List Nat) (h : cx_Q) : Prop := CB c n L Z E h0 X h ∧ CT c E h0 X h
def spI (s : Nat) (j : Int) : Bool := rlI s j || spI0 s j
def spA (s : Nat) (j : Int) : Bool := rlA s j || spA0 s j
theorem or_l {p q : Bool} (e : (p || q) = false) : p = false := by
  cases p
  · rfl
  · exact Bool.noConfusion (show true = false from e)
theorem or_r {p q : Bool} (e : (p || q) = false) : q = false := by
  cases p
  · exact e
  · exact Bool.noConfusion (show true = false from e)
section
variable {c : Nat} {n L Z : Int} {E : Nat → Option Int} {h0 : cx_Q} {X : List Nat} {h : cx_Q}
theorem CI.ct (H : CI c n L Z E h0 X h) : CT c E h0 X h := H.2
theorem CI.fr (H : CI c n L Z E h0 X h) : FR h0 h := H.1.fr
theorem CI.al (H : CI c n L Z E h0 X h) : ∀ a, h.1 ≤ a → cq_s h a = 99 := H.1.al
theorem CI.ty (H : CI c n L Z E h0 X h) : ∀ a j b, own (cq_s h a) → cq_A h a j = some b → cq_s h b = tyA (cq_s h a) j := H.1.ty
theorem CI.zz (H : CI c n L Z E h0 X h) : ∀ a, zT n (cq_s h a) (cq_z h a) := H.1.zz
theorem CI.ri (H : CI c n L Z E h0 X h) : ∀ a j, rI Z (cq_s h a) j (cq_I h a j) := H.1.ri
theorem CI.l6 (H : CI c n L Z E h0 X h) : ∀ a b, cq_s h a = 6 → cq_A h a 2 = some b → b < a := H.1.l6
theorem CI.l8 (H : CI c n L Z E h0 X h) : ∀ a b, cq_s h a = 8 → cq_A h a 3 = some b → b < a := H.1.l8
theorem CI.nn (H : CI c n L Z E h0 X h) : ∀ a, a ∉ X → ∀ j, muA (cq_s h a) j (cq_z h a) → cq_A h a j ≠ none := H.1.nn
theorem CI.rw (H : CI c n L Z E h0 X h) : ∀ a, a ∉ X → cq_s h a = 5 → rwT h a := H.1.rw
theorem CI.pe (H : CI c n L Z E h0 X h) : ∀ a, cq_s h a = 4 → peT (E a) (cq_A h a 3) (cq_I h a 4) := H.1.pe
theorem CI.cs (H : CI c n L Z E h0 X h) : cq_s h c = 9 := H.1.cs
theorem CI.lk (H : CI c n L Z E h0 X h) : cq_I h c 7 = L := H.1.lk
theorem CI.le (H : CI c n L Z E h0 X h) : leT h c := H.1.le
theorem CI.z0 (H : CI c n L Z E h0 X h) : 0 ≤ Z := H.1.z0
theorem CI.ta (H : CI c n L Z E h0 X h) {a b s : Nat} {j : Int} (hs : cq_s h a = s) (ho : own s) (q : cq_A h a j = some b) : cq_s h b = tyA s j := H.1.ta hs ho q
theorem CI.tz (H : CI c n L Z E h0 X h) {a s : Nat} (hs : cq_s h a = s) : zT n s (cq_z h a) := H.1.tz hs
theorem CI.ti (H : CI c n L Z E h0 X h) {a s : Nat} (j : Int) (hs : cq_s h a = s) : rI Z s j (cq_I h a j) := H.1.ti j hs
theorem CI.sJ (H : CI c n L Z E h0 X h) {a s : Nat} {j : Int} {v : Int64} (hs : cq_s h a = s) (ho : own s) (hr : rlJ s j = false := by rfl) : CI c n L Z E h0 X (cq_sJ h a j v) := ⟨H.1.sJ hs ho, H.2.sJ hs hr⟩
theorem CI.sIx (H : CI c n L Z E h0 X h) {a s : Nat} {j v : Int} (hs : cq_s h a = s) (ho : own s) (hv : rI Z s j v) (h44 : ¬ (s = 4 ∧ j = 4)) (h51 : s = 5 → j = 1 → a ∈ X) (h97 : ¬ (s = 9 ∧ j = 7)) (h92 : s = 9 → j = 2 → leT (cq_sI h a j v) c) (hr : rlI s j = false := by rfl) : CI c n L Z E h0 X (cq_sI h a j v) := ⟨H.1.sIx hs ho hv h44 h51 h97 h92, H.2.sI hs hr⟩
theorem CI.sI (H : CI c n L Z E h0 X h) {a s : Nat} {j v : Int} (hs : cq_s h a = s) (ho : own s) (hv : rI Z s j v) (hx : spI s j = false) : CI c n L Z E h0 X (cq_sI h a j v) := ⟨H.1.sI hs ho hv (or_r hx), H.2.sI hs (or_l hx)⟩
theorem CI.sAx (H : CI c n L Z E h0 X h) {a s : Nat} {j : Int} {v : Option Nat} (hs : cq_s h a = s) (ho : own s) (hv : ∀ b, v = some b → cq_s h b = tyA s j) (hm : v = none → ¬ muA s j (cq_z h a)) (h182 : s = 182 → ∃ r, r ∈ X ∧ a = r + 1) (h102 : s = 102 → v ≠ none) (h50 : s = 5 → j = 0 → a ∈ X) (hlo : (s = 6 ∧ j = 2) ∨ (s = 8 ∧ j = 3) → ∀ b, v = some b → b < a) (h43 : ¬ (s = 4 ∧ j = 3)) (h91 : s = 9 → j = 1 → cq_I h a 2 = 0) (h79 : s = 7 → j = 9 → v ≠ none) (hr : rlA s j = false := by rfl) : CI c n L Z E h0 X (cq_sA h a j v) := ⟨H.1.sAx hs ho hv hm h182 h102 h50 hlo h43 h91 h79, H.2.sA hs hr⟩
theorem CI.sA (H : CI c n L Z E h0 X h) {a s : Nat} {j : Int} {v : Option Nat} (hs : cq_s h a = s) (ho : own s) (hv : ∀ b, v = some b → cq_s h b = tyA s j) (hm : v = none → ¬ muA s j (cq_z h a)) (hx : spA s j = false) : CI c n L Z E h0 X (cq_sA h a j v) := ⟨H.1.sA hs ho hv hm (or_r hx), H.2.sA hs (or_l hx)⟩
theorem CI.nw (H : CI c n L Z E h0 X h) {s : Nat} {z : Int} (hz : zT n s z) (h4 : s = 4 → E h.1 = none) (hc : s = 4 → E c ≠ none := by intro q; exact absurd q (by decide)) : CI c n L Z E h0 (h.1 :: X) (cq_nw h s z) := ⟨H.1.nw hz h4, H.2.nw (H.al _ (Nat.le_refl _)) (fun t b q e w => by
  have sb : cq_s h b = 6 := H.ta (j := 2) q (Or.inl (by decide)) e
  rw [w, H.al _ (Nat.le_refl _)] at sb
  exact absurd sb (by decide)) hc⟩
theorem CI.mk {a : Nat} (H : CI c n L Z E h0 (a :: X) h) {s : Nat} (hs : cq_s h a = s) (hm : ∀ j, muA s j (cq_z h a) → cq_A h a j ≠ none) (h5 : s = 5 → rwT h a) (n6 : s ≠ 6 := by decide) (n8 : s ≠ 8 := by decide) : CI c n L Z E h0 X h := ⟨H.1.mk hs hm h5, H.2.mk (by rw [hs]; exact n6) (by rw [hs]; exact n8)⟩
theorem CI.op (H : CI c n L Z E h0 X h) {a s : Nat} (hs : cq_s h a = s) (n6 : s ≠ 6 := by decide) (n8 : s ≠ 8 := by decide) : CI c n L Z E h0 (a :: X) h := ⟨H.1.op, H.2.op (by rw [hs]; exact n6) (by rw [hs]; exact n8)⟩
theorem CI.up (H : CI c n L Z E h0 X h) {Z' : Int} (hz : Z ≤ Z') : CI c n L Z' E h0 X h := ⟨H.1.up hz, H.2⟩
theorem E_n {E : Nat → Option Int} {a d : Nat} {v : Int} (q : (if d = a then some v else E d) = none) : E d = none := by
  by_cases e : d = a
  · rw [if_pos e] at q
    cases q
  · rw [if_neg e] at q
    exact q
theorem CI.n4 (H : CI c n L Z E h0 X h) {a : Nat} (hs : cq_s h a = 4) : c ≠ a := fun e => by
  have := H.cs
  rw [e, hs] at this
  exact absurd this (by decide)
theorem CI.sA43 (H : CI c n L Z E h0 X h) {a b : Nat} (hs : cq_s h a = 4) (hb : cq_s h b = 6) : CI c n L Z (fun q => if q = a then some (cq_I h a 4) else E q) h0 X (cq_sA h a 3 (some b)) := ⟨H.1.sA43 hs hb, (H.2.sA hs (by rfl)).E_ (if_neg (H.n4 hs)) (fun d q => E_n q)⟩
theorem CI.sI44 (H : CI c n L Z E h0 X h) {a : Nat} {k : Int} (hs : cq_s h a = 4) (hE : E a = some k) (hk : 0 ≤ k + 1 ∧ k + 1 ≤ 20) : CI c n L Z (fun q => if q = a then some (k + 1) else E q) h0 X (cq_sI h a 4 (k + 1)) := ⟨H.1.sI44 hs hE hk, (H.2.sI hs (by rfl)).E_ (if_neg (H.n4 hs)) (fun d q => E_n q)⟩
theorem CI.sI97 (H : CI c n L Z E h0 X h) (hv : 0 ≤ L + 1 ∧ L + 1 ≤ Z) : CI c n (L + 1) Z E h0 X (cq_sI h c 7 (L + 1)) := ⟨H.1.sI97 hv, H.2.sI H.cs (by rfl)⟩
/-- a SECRET in the making -/
theorem CI.w6J (H : CI c n L Z E h0 X h) {a : Nat} {j : Int} {v : Int64} (hs : cq_s h a = 6) (ha : a ∈ X) (hn : cq_s h0 a = 99) : CI c n L Z E h0 X (cq_sJ h a j v) := ⟨H.1.sJ hs (Or.inl (by decide)), H.2.wX (Or.inl hs) ha hn rfl rfl (fun _ _ _ => rfl) (fun b r w => by rw [mm_sJ, if_neg (fun e => w e.1)]) (fun _ _ _ => rfl) (fun _ => rfl)⟩
theorem CI.w6A (H : CI c n L Z E h0 X h) {a : Nat} {v : Option Nat} (hs : cq_s h a = 6) (ha : a ∈ X) (hn : cq_s h0 a = 99) (hv : ∀ b, v = some b → cq_s h b = 6 ∧ b < a) : CI c n L Z E h0 X (cq_sA h a 2 v) := ⟨H.1.sAx hs (Or.inl (by decide)) (fun b q => (hv b q).1) (fun _ q => by unfold muA at q; omega) (fun q => absurd q (by decide)) (fun q => absurd q (by decide)) (fun q => absurd q (by decide)) (fun _ b q => (hv b q).2) (by decide) (fun q => absurd q (by decide)) (fun q => absurd q (by decide)), H.2.wX (Or.inl hs) ha hn rfl rfl (fun _ _ _ => rfl) (fun _ _ _ => rfl) (fun b r w => by rw [mm_sA, if_neg (fun e => w e.1)]) (fun q => by rw [hs] at q; exact absurd q (by decide))⟩
/-- a turn in the making -/
theorem CI.w8I (H : CI c n L Z E h0 X h) {a : Nat} {j v : Int} (hs : cq_s h a = 8) (ha : a ∈ X) (hn : cq_s h0 a = 99) : CI c n L Z E h0 X (cq_sI h a j v) := ⟨H.1.sI hs (Or.inl (by decide)) True.intro rfl, H.2.wX (Or.inr hs) ha hn rfl rfl (fun b r w => by rw [mm_sI, if_neg (fun e => w e.1)]) (fun _ _ _ => rfl) (fun _ _ _ => rfl) (fun _ => rfl)⟩
theorem CI.w8A (H : CI c n L Z E h0 X h) {a : Nat} {j : Int} {v : Option Nat} (hs : cq_s h a = 8) (ha : a ∈ X) (hn : cq_s h0 a = 99) (hv : ∀ b, v = some b → cq_s h b = tyA 8 j) (hm : v = none → ¬ muA 8 j (cq_z h a)) (hx : spA0 8 j = false) (j2 : ¬ (2 : Int) = j) : CI c n L Z E h0 X (cq_sA h a j v) := ⟨H.1.sA hs (Or.inl (by decide)) hv hm hx, H.2.wX (Or.inr hs) ha hn rfl rfl (fun _ _ _ => rfl) (fun _ _ _ => rfl) (fun b r w => by rw [mm_sA, if_neg (fun e => w e.1)]) (fun _ => by rw [mm_sA, if_neg (fun e => j2 e.2)])⟩
/-- a LOOK leaves a mark -/
theorem CI.sL (H : CI c n L Z E h0 X h) (hl : E c ≠ none) {a s : Nat} {j v : Int} (hs : cq_s h a = s) (h4 : s = 6 ∨ s = 8 ∨ s = 183) : CI c n L Z E h0 X (cq_sI h a j v) := by
  refine ⟨?_, H.2.sL hl hs (by omega) (by omega)⟩
  rcases h4 with e | e | e
  · rw [e] at hs
    exact H.1.sI hs (Or.inl (by decide)) True.intro rfl
  · rw [e] at hs
    exact H.1.sI hs (Or.inl (by decide)) True.intro rfl
  · rw [e] at hs
    exact H.1.sI hs (Or.inr (Or.inr (by decide))) True.intro rfl
/-- a row of pairs that no turn has yet -/
def frP (h : cx_Q) (p : Nat) : Prop := ∀ a, cq_s h a = 8 → cq_A h a 1 ≠ some p
theorem CI.nwP (H : CI c n L Z E h0 X h) {s : Nat} {z : Int} : frP (cq_nw h s z) h.1 := by
  intro a q e
  have al := H.al h.1 (Nat.le_refl _)
  by_cases w : a = h.1
  · rw [w, nw_n.2.2.2.2] at e
    cases e
  · rw [(nw_o w).1] at q
    rw [(nw_o w).2.2.2.2] at e
    have sb : cq_s h h.1 = 101 := H.ta (j := 1) q (Or.inl (by decide)) e
    rw [al] at sb
    exact absurd sb (by decide)
theorem CI.s101 (H : CI c n L Z E h0 X h) {p : Nat} {j : Int} {v : Option Nat} (hs : cq_s h p = 101) (hn : cq_s h0 p = 99) (fp : frP h p) (hv : ∀ b, v = some b → cq_s h b = 6) : CI c n L Z E h0 X (cq_sA h p j v) ∧ frP (cq_sA h p j v) p := by
  refine ⟨⟨H.1.sA hs (Or.inr (Or.inl (by decide))) hv (fun _ q => by unfold muA at q; omega) rfl, H.2.s101 hs hn (fun a q _ => fp a q)⟩, fun a q => ?_⟩
  have q' : cq_s h a = 8 := q
  rw [mm_sA, if_neg (fun e => by rw [e.1, hs] at q'; exact absurd q' (by decide))]
  exact fp a q'
/-- a row of KEPT turns -/
theorem CI.s174 (H : CI c n L Z E h0 X h) {p : Nat} {j : Int} {v : Option Nat} (hs : cq_s h p = 174) (hE : E p ≠ none) (hv : ∀ b, v = some b → cq_s h b = 8) : CI c n L Z E h0 X (cq_sA h p j v) := ⟨H.1.sA hs (Or.inr (Or.inr (by decide))) hv (fun _ q => by unfold muA at q; omega) rfl, H.2.s174 hs hE⟩
/-- a SESSION's reference -/
theorem CI.s7 (H : CI c n L Z E h0 X h) {p : Nat} {j : Int} {v : Option Nat} (hs : cq_s h p = 7) (hE : cq_s h0 p = 7 → E p ≠ none) (hv : ∀ b, v = some b → cq_s h b = tyA 7 j) (hm : v = none → ¬ muA 7 j (cq_z h p)) (hx : spA0 7 j = false) : CI c n L Z E h0 X (cq_sA h p j v) := ⟨H.1.sA hs (Or.inl (by decide)) hv hm hx, H.2.s7 hs hE⟩
/-- a reference of the object itself: its making alone -/
theorem CI.s9 (H : CI c n L Z E h0 X h) {p : Nat} {j : Int} {v : Option Nat} (hs : cq_s h p = 9) (hE : cq_s h0 p = 9 → E p ≠ none) (hv : ∀ b, v = some b → cq_s h b = tyA 9 j) (hm : v = none → ¬ muA 9 j (cq_z h p)) (hx : spA0 9 j = false) : CI c n L Z E h0 X (cq_sA h p j v) := ⟨H.1.sA hs (Or.inl (by decide)) hv hm hx, H.2.s9 hs hE⟩
/-- KEPT keys: their making alone -/
theorem CI.s1 (H : CI c n L Z E h0 X h) {p : Nat} {j : Int} {v : Option Nat} (hs : cq_s h p = 1) (hE : cq_s h0 p = 1 → E p ≠ none) (hv : ∀ b, v = some b → cq_s h b = tyA 1 j) (hm : v = none → ¬ muA 1 j (cq_z h p)) (hx : spA0 1 j = false) : CI c n L Z E h0 X (cq_sA h p j v) := ⟨H.1.sA hs (Or.inl (by decide)) hv hm hx, H.2.s1 hs hE⟩
/-- a new letter's turn and place -/
theorem CI.s2A (H : CI c n L Z E h0 X h) {p : Nat} {j : Int} {v : Option Nat} (hs : cq_s h p = 2) (hE : cq_s h0 p ≠ 2) (hv : ∀ b, v = some b → cq_s h b = tyA 2 j) (hm : v = none → ¬ muA 2 j (cq_z h p)) (hx : spA0 2 j = false) : CI c n L Z E h0 X (cq_sA h p j v) := ⟨H.1.sA hs (Or.inl (by decide)) hv hm hx, H.2.s2 hs hE⟩
theorem CI.s2I (H : CI c n L Z E h0 X h) {p : Nat} {v : Int} (hs : cq_s h p = 2) (hE : cq_s h0 p ≠ 2) : CI c n L Z E h0 X (cq_sI h p 3 v) := ⟨H.1.sI hs (Or.inl (by decide)) True.intro rfl, H.2.s23 hs hE⟩
/-- a turn is there, ahead of its sisters -/
theorem CI.lk8 {t b p : Nat} (H : CI c n L Z E h0 (t :: X) h) (tX : t ∉ X) (hn : cq_s h0 t = 99) (hs : cq_s h t = 8) (hb : cq_s h b = 8) (lt : b < t) (l2 : ∀ d, cq_A h b 2 = some d → d < t) (f0 : cq_A h t 0 = some b) (f1 : cq_A h t 1 = some p) (sp : cq_s h p = 101) (f6 : cq_A h t 6 = some (t + 1)) (s6 : cq_s h (t + 1) = 183) (fl : cq_I h t 4 = 0 ∧ cq_I h t 5 = 1000000 ∧ ∀ j, cq_I h (t + 1) j = 0) (no : ∀ a r, cq_s h a = 8 → a ∉ t :: X → cq_A h a 0 = some b → cq_A h a 1 = some r → ¬ mtR h r p) : CI c n L Z E h0 X (cq_sA (cq_sA h t 3 (cq_A h b 2)) b 2 (some t)) := by
  refine ⟨?_, H.2.lk8 tX hn hs hb lt f0 f1 sp f6 s6 fl no⟩
  have H3 : CB c n L Z E h0 (t :: X) (cq_sA h t 3 (cq_A h b 2)) := H.1.sAx hs (Or.inl (by decide)) (fun d q => (H.ta (j := 2) hb (Or.inl (by decide)) q : cq_s h d = 8)) (fun _ q => by unfold muA at q; omega) (fun q => absurd q (by decide)) (fun q => absurd q (by decide)) (fun q => absurd q (by decide)) (fun _ d q => l2 d q) (by decide) (fun q => absurd q (by decide)) (fun q => absurd q (by decide))
  have H4 : CB c n L Z E h0 (t :: X) (cq_sA (cq_sA h t 3 (cq_A h b 2)) b 2 (some t)) := H3.sA hb (Or.inl (by decide)) (fun d q => by cases q; exact hs) (fun q => (nomatch q)) rfl
  have nt : ¬ t = b := by omega
  refine H4.mk hs (fun j q => ?_) (fun q => absurd q (by decide))
  have q' : j = 1 ∨ j = 6 := by unfold muA at q; omega
  rcases q' with rfl | rfl
  · rw [mm_sA, if_neg (fun e => nt e.1), mm_sA, if_neg (fun e => absurd e.2 (by decide)), f1]
    exact Option.some_ne_none _
  · rw [mm_sA, if_neg (fun e => nt e.1), mm_sA, if_neg (fun e => absurd e.2 (by decide)), f6]
    exact Option.some_ne_none _
/-- a SECRET is there, ahead of the others of its user -/
theorem CI.lk6 {a p : Nat} {k : Nat} (H : CI c n L Z E h0 (a :: X) h) (aX : a ∉ X) (hs : cq_s h a = 6) (hp : cq_s h p = 4) (hJ : cq_J h a 1 = dO (cq_J h p 0) k) (hk : k + 1 ≤ (cq_I h p 1).toNat) (hc : chD h (cq_J h p 0) k (cq_A h p 2)) (hA : cq_A h a 2 = cq_A h p 2) (h3 : cq_I h a 3 = 0) : CI c n L Z E h0 X (cq_sA h p 2 (some a)) := by
  refine ⟨?_, H.2.lk6 aX hs hp hJ hk hc hA h3⟩
  have H4 : CB c n L Z E h0 (a :: X) (cq_sA h p 2 (some a)) := H.1.sA hp (Or.inl (by decide)) (fun d q => by cases q; exact hs) (fun q => (nomatch q)) rfl
  exact H4.mk hs (fun j q => by unfold muA at q; omega) (fun q => absurd q (by decide))
/-- more is drawn -/
theorem CI.s41 (H : CI c n L Z E h0 X h) {p : Nat} {v : Int} (hs : cq_s h p = 4) (hv : cq_I h p 1 ≤ v) (hZ : v ≤ Z) : CI c n L Z E h0 X (cq_sI h p 1 v) := ⟨H.1.sI hs (Or.inl (by decide)) ⟨Int.le_trans (H.1.ti 1 hs : 0 ≤ cq_I h p 1 ∧ cq_I h p 1 ≤ Z).1 hv, hZ⟩ rfl, H.2.s41 hs hv⟩
end
