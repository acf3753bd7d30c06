/-! what is there of a cell: its references, by place -/
theorem muA_e {s : Nat} {j z : Int} (q : (s = 0 ∧ j = 0) ∨ (s = 1 ∧ 0 ≤ j ∧ j ≤ 3) ∨ (s = 2 ∧ (j = 0 ∨ j = 2)) ∨ (s = 3 ∧ j = 0) ∨ (s = 4 ∧ (j = 8 ∨ j = 9 ∨ j = 10 ∨ j = 13 ∨ j = 14 ∨ j = 15)) ∨ (s = 7 ∧ (j = 7 ∨ j = 12 ∨ j = 19)) ∨ (s = 8 ∧ (j = 1 ∨ j = 6)) ∨ (s = 9 ∧ (j = 0 ∨ j = 1 ∨ j = 8 ∨ j = 10 ∨ j = 12 ∨ j = 13 ∨ j = 14)) ∨ ((s = 105 ∨ s = 181) ∧ 0 ≤ j ∧ j < z)) : muA s j z := q
section
variable {c : Nat} {n L Z : Int} {E : Nat → Option Int} {h0 : cx_Q} {X : List Nat} {h : cx_Q}
theorem CI.g (H : CI c n L Z E h0 X h) {a s : Nat} {j : Int} (hs : cq_s h a = s) (ho : own s) (hX : a ∉ X) (hm : muA s j (cq_z h a)) : ∃ b, cq_A h a j = some b ∧ cq_s h b = tyA s j ∧ zT n (tyA s j) (cq_z h b) := by
  have q := H.nn a hX j (by rw [hs]; exact hm)
  cases e : cq_A h a j with
  | none => exact absurd e q
  | some b =>
    have sb := H.ta hs ho e
    exact ⟨b, rfl, sb, H.tz sb⟩
theorem CI.g0_0 (H : CI c n L Z E h0 X h) {a : Nat} (hs : cq_s h a = 0) (hX : a ∉ X) : ∃ b, cq_A h a 0 = some b ∧ cq_s h b = 100 ∧ 0 ≤ cq_z h b ∧ cq_z h b ≤ 100 := H.g (j := 0) hs (Or.inl (by decide)) hX (by unfold muA; omega)
theorem CI.g1_0 (H : CI c n L Z E h0 X h) {a : Nat} (hs : cq_s h a = 1) (hX : a ∉ X) : ∃ b, cq_A h a 0 = some b ∧ cq_s h b = 171 ∧ cq_z h b = 20 := H.g (j := 0) hs (Or.inl (by decide)) hX (by unfold muA; omega)
theorem CI.g1_1 (H : CI c n L Z E h0 X h) {a : Nat} (hs : cq_s h a = 1) (hX : a ∉ X) : ∃ b, cq_A h a 1 = some b ∧ cq_s h b = 172 ∧ cq_z h b = 20 := H.g (j := 1) hs (Or.inl (by decide)) hX (by unfold muA; omega)
theorem CI.g1_2 (H : CI c n L Z E h0 X h) {a : Nat} (hs : cq_s h a = 1) (hX : a ∉ X) : ∃ b, cq_A h a 2 = some b ∧ cq_s h b = 173 ∧ cq_z h b = 20 := H.g (j := 2) hs (Or.inl (by decide)) hX (by unfold muA; omega)
theorem CI.g1_3 (H : CI c n L Z E h0 X h) {a : Nat} (hs : cq_s h a = 1) (hX : a ∉ X) : ∃ b, cq_A h a 3 = some b ∧ cq_s h b = 174 ∧ cq_z h b = 20 := H.g (j := 3) hs (Or.inl (by decide)) hX (by unfold muA; omega)
theorem CI.g2_0 (H : CI c n L Z E h0 X h) {a : Nat} (hs : cq_s h a = 2) (hX : a ∉ X) : ∃ b, cq_A h a 0 = some b ∧ cq_s h b = 100 ∧ 0 ≤ cq_z h b ∧ cq_z h b ≤ 100 := H.g (j := 0) hs (Or.inl (by decide)) hX (by unfold muA; omega)
theorem CI.g2_2 (H : CI c n L Z E h0 X h) {a : Nat} (hs : cq_s h a = 2) (hX : a ∉ X) : ∃ b, cq_A h a 2 = some b ∧ cq_s h b = 8 := by
  obtain ⟨b, e1, e2, e3⟩ := H.g (j := 2) hs (Or.inl (by decide)) hX (by unfold muA; omega)
  exact ⟨b, e1, e2⟩
theorem CI.g3_0 (H : CI c n L Z E h0 X h) {a : Nat} (hs : cq_s h a = 3) (hX : a ∉ X) : ∃ b, cq_A h a 0 = some b ∧ cq_s h b = 175 ∧ cq_z h b = 10 := H.g (j := 0) hs (Or.inl (by decide)) hX (by unfold muA; omega)
theorem CI.g4_8 (H : CI c n L Z E h0 X h) {a : Nat} (hs : cq_s h a = 4) (hX : a ∉ X) : ∃ b, cq_A h a 8 = some b ∧ cq_s h b = 176 ∧ cq_z h b = 21 := H.g (j := 8) hs (Or.inl (by decide)) hX (by unfold muA; omega)
theorem CI.g4_9 (H : CI c n L Z E h0 X h) {a : Nat} (hs : cq_s h a = 4) (hX : a ∉ X) : ∃ b, cq_A h a 9 = some b ∧ cq_s h b = 177 ∧ cq_z h b = 61 := H.g (j := 9) hs (Or.inl (by decide)) hX (by unfold muA; omega)
theorem CI.g4_10 (H : CI c n L Z E h0 X h) {a : Nat} (hs : cq_s h a = 4) (hX : a ∉ X) : ∃ b, cq_A h a 10 = some b ∧ cq_s h b = 178 ∧ cq_z h b = 61 := H.g (j := 10) hs (Or.inl (by decide)) hX (by unfold muA; omega)
theorem CI.g4_13 (H : CI c n L Z E h0 X h) {a : Nat} (hs : cq_s h a = 4) (hX : a ∉ X) : ∃ b, cq_A h a 13 = some b ∧ cq_s h b = 181 ∧ cq_z h b = n := H.g (j := 13) hs (Or.inl (by decide)) hX (by unfold muA; omega)
theorem CI.g4_14 (H : CI c n L Z E h0 X h) {a : Nat} (hs : cq_s h a = 4) (hX : a ∉ X) : ∃ b, cq_A h a 14 = some b ∧ cq_s h b = 179 ∧ cq_z h b = 100 := H.g (j := 14) hs (Or.inl (by decide)) hX (by unfold muA; omega)
theorem CI.g4_15 (H : CI c n L Z E h0 X h) {a : Nat} (hs : cq_s h a = 4) (hX : a ∉ X) : ∃ b, cq_A h a 15 = some b ∧ cq_s h b = 180 ∧ cq_z h b = 100 := H.g (j := 15) hs (Or.inl (by decide)) hX (by unfold muA; omega)
theorem CI.g7_7 (H : CI c n L Z E h0 X h) {a : Nat} (hs : cq_s h a = 7) (hX : a ∉ X) : ∃ b, cq_A h a 7 = some b ∧ cq_s h b = 8 := by
  obtain ⟨b, e1, e2, e3⟩ := H.g (j := 7) hs (Or.inl (by decide)) hX (by unfold muA; omega)
  exact ⟨b, e1, e2⟩
theorem CI.g7_12 (H : CI c n L Z E h0 X h) {a : Nat} (hs : cq_s h a = 7) (hX : a ∉ X) : ∃ b, cq_A h a 12 = some b ∧ cq_s h b = 6 := by
  obtain ⟨b, e1, e2, e3⟩ := H.g (j := 12) hs (Or.inl (by decide)) hX (by unfold muA; omega)
  exact ⟨b, e1, e2⟩
theorem CI.g7_19 (H : CI c n L Z E h0 X h) {a : Nat} (hs : cq_s h a = 7) (hX : a ∉ X) : ∃ b, cq_A h a 19 = some b ∧ cq_s h b = 1 := by
  obtain ⟨b, e1, e2, e3⟩ := H.g (j := 19) hs (Or.inl (by decide)) hX (by unfold muA; omega)
  exact ⟨b, e1, e2⟩
theorem CI.g8_1 (H : CI c n L Z E h0 X h) {a : Nat} (hs : cq_s h a = 8) (hX : a ∉ X) : ∃ b, cq_A h a 1 = some b ∧ cq_s h b = 101 ∧ 0 ≤ cq_z h b ∧ cq_z h b ≤ 8 := H.g (j := 1) hs (Or.inl (by decide)) hX (by unfold muA; omega)
theorem CI.g8_6 (H : CI c n L Z E h0 X h) {a : Nat} (hs : cq_s h a = 8) (hX : a ∉ X) : ∃ b, cq_A h a 6 = some b ∧ cq_s h b = 183 ∧ cq_z h b = 80 := H.g (j := 6) hs (Or.inl (by decide)) hX (by unfold muA; omega)
theorem CI.g9_0 (H : CI c n L Z E h0 X h) {a : Nat} (hs : cq_s h a = 9) (hX : a ∉ X) : ∃ b, cq_A h a 0 = some b ∧ cq_s h b = 105 ∧ cq_z h b = n := H.g (j := 0) hs (Or.inl (by decide)) hX (by unfold muA; omega)
theorem CI.g9_1 (H : CI c n L Z E h0 X h) {a : Nat} (hs : cq_s h a = 9) (hX : a ∉ X) : ∃ b, cq_A h a 1 = some b ∧ cq_s h b = 102 ∧ cq_z h b = 80 := H.g (j := 1) hs (Or.inl (by decide)) hX (by unfold muA; omega)
theorem CI.g9_8 (H : CI c n L Z E h0 X h) {a : Nat} (hs : cq_s h a = 9) (hX : a ∉ X) : ∃ b, cq_A h a 8 = some b ∧ cq_s h b = 103 ∧ cq_z h b = 40 := H.g (j := 8) hs (Or.inl (by decide)) hX (by unfold muA; omega)
theorem CI.g9_10 (H : CI c n L Z E h0 X h) {a : Nat} (hs : cq_s h a = 9) (hX : a ∉ X) : ∃ b, cq_A h a 10 = some b ∧ cq_s h b = 104 ∧ cq_z h b = 40 := H.g (j := 10) hs (Or.inl (by decide)) hX (by unfold muA; omega)
theorem CI.g9_12 (H : CI c n L Z E h0 X h) {a : Nat} (hs : cq_s h a = 9) (hX : a ∉ X) : ∃ b, cq_A h a 12 = some b ∧ cq_s h b = 0 := by
  obtain ⟨b, e1, e2, e3⟩ := H.g (j := 12) hs (Or.inl (by decide)) hX (by unfold muA; omega)
  exact ⟨b, e1, e2⟩
theorem CI.g9_13 (H : CI c n L Z E h0 X h) {a : Nat} (hs : cq_s h a = 9) (hX : a ∉ X) : ∃ b, cq_A h a 13 = some b ∧ cq_s h b = 3 := by
  obtain ⟨b, e1, e2, e3⟩ := H.g (j := 13) hs (Or.inl (by decide)) hX (by unfold muA; omega)
  exact ⟨b, e1, e2⟩
theorem CI.g9_14 (H : CI c n L Z E h0 X h) {a : Nat} (hs : cq_s h a = 9) (hX : a ∉ X) : ∃ b, cq_A h a 14 = some b ∧ cq_s h b = 8 := by
  obtain ⟨b, e1, e2, e3⟩ := H.g (j := 14) hs (Or.inl (by decide)) hX (by unfold muA; omega)
  exact ⟨b, e1, e2⟩
theorem CI.g105 (H : CI c n L Z E h0 X h) {a : Nat} {i : Int} (hs : cq_s h a = 105) (hX : a ∉ X) (h1 : 0 ≤ i) (h2 : i < cq_z h a) : ∃ b, cq_A h a i = some b ∧ cq_s h b = 4 := by
  obtain ⟨b, e1, e2, e3⟩ := H.g (j := i) hs (Or.inr (by first | exact Or.inl (by decide) | exact Or.inr (by decide))) hX (by unfold muA; omega)
  exact ⟨b, e1, e2⟩
theorem CI.g181 (H : CI c n L Z E h0 X h) {a : Nat} {i : Int} (hs : cq_s h a = 181) (hX : a ∉ X) (h1 : 0 ≤ i) (h2 : i < cq_z h a) : ∃ b, cq_A h a i = some b ∧ cq_s h b = 5 := by
  obtain ⟨b, e1, e2, e3⟩ := H.g (j := i) hs (Or.inr (by first | exact Or.inl (by decide) | exact Or.inr (by decide))) hX (by unfold muA; omega)
  exact ⟨b, e1, e2⟩
theorem CI.i0_1 (H : CI c n L Z E h0 X h) {a : Nat} (hs : cq_s h a = 0) : 0 ≤ cq_I h a 1 ∧ cq_I h a 1 ≤ 400 := H.ti 1 hs
theorem CI.i0_7 (H : CI c n L Z E h0 X h) {a : Nat} (hs : cq_s h a = 0) : 0 ≤ cq_I h a 7 ∧ cq_I h a 7 ≤ 65535 := H.ti 7 hs
theorem CI.i0_8 (H : CI c n L Z E h0 X h) {a : Nat} (hs : cq_s h a = 0) : 0 ≤ cq_I h a 8 ∧ cq_I h a 8 ≤ 65535 := H.ti 8 hs
theorem CI.i0_10 (H : CI c n L Z E h0 X h) {a : Nat} (hs : cq_s h a = 0) : 0 ≤ cq_I h a 10 ∧ cq_I h a 10 ≤ 65535 := H.ti 10 hs
theorem CI.i0_11 (H : CI c n L Z E h0 X h) {a : Nat} (hs : cq_s h a = 0) : 0 ≤ cq_I h a 11 ∧ cq_I h a 11 ≤ 65535 := H.ti 11 hs
theorem CI.i0_12 (H : CI c n L Z E h0 X h) {a : Nat} (hs : cq_s h a = 0) : 0 ≤ cq_I h a 12 ∧ cq_I h a 12 ≤ 255 := H.ti 12 hs
theorem CI.i0_13 (H : CI c n L Z E h0 X h) {a : Nat} (hs : cq_s h a = 0) : 0 ≤ cq_I h a 13 ∧ cq_I h a 13 ≤ 400 := H.ti 13 hs
theorem CI.i1_4 (H : CI c n L Z E h0 X h) {a : Nat} (hs : cq_s h a = 1) : 0 ≤ cq_I h a 4 ∧ cq_I h a 4 ≤ 20 := H.ti 4 hs
theorem CI.i2_1 (H : CI c n L Z E h0 X h) {a : Nat} (hs : cq_s h a = 2) : 0 ≤ cq_I h a 1 ∧ cq_I h a 1 ≤ 100 := H.ti 1 hs
theorem CI.i3_1 (H : CI c n L Z E h0 X h) {a : Nat} (hs : cq_s h a = 3) : -1 ≤ cq_I h a 1 ∧ cq_I h a 1 ≤ 19 := H.ti 1 hs
theorem CI.i3_3 (H : CI c n L Z E h0 X h) {a : Nat} (hs : cq_s h a = 3) : 0 ≤ cq_I h a 3 ∧ cq_I h a 3 ≤ 70000 := H.ti 3 hs
theorem CI.i3_4 (H : CI c n L Z E h0 X h) {a : Nat} (hs : cq_s h a = 3) : -70000 ≤ cq_I h a 4 ∧ cq_I h a 4 ≤ 70000 := H.ti 4 hs
theorem CI.i4_1 (H : CI c n L Z E h0 X h) {a : Nat} (hs : cq_s h a = 4) : 0 ≤ cq_I h a 1 ∧ cq_I h a 1 ≤ Z := H.ti 1 hs
theorem CI.i4_4 (H : CI c n L Z E h0 X h) {a : Nat} (hs : cq_s h a = 4) : 0 ≤ cq_I h a 4 ∧ cq_I h a 4 ≤ 20 := H.ti 4 hs
theorem CI.i4_11 (H : CI c n L Z E h0 X h) {a : Nat} (hs : cq_s h a = 4) : 0 ≤ cq_I h a 11 ∧ cq_I h a 11 ≤ 60 := H.ti 11 hs
theorem CI.i4_12 (H : CI c n L Z E h0 X h) {a : Nat} (hs : cq_s h a = 4) : 0 ≤ cq_I h a 12 ∧ cq_I h a 12 ≤ 60 := H.ti 12 hs
theorem CI.i4_16 (H : CI c n L Z E h0 X h) {a : Nat} (hs : cq_s h a = 4) : 0 ≤ cq_I h a 16 ∧ cq_I h a 16 ≤ 100 := H.ti 16 hs
theorem CI.i5_1 (H : CI c n L Z E h0 X h) {a : Nat} (hs : cq_s h a = 5) : 0 ≤ cq_I h a 1 ∧ cq_I h a 1 ≤ 4 := H.ti 1 hs
theorem CI.i7_16 (H : CI c n L Z E h0 X h) {a : Nat} (hs : cq_s h a = 7) : 0 ≤ cq_I h a 16 ∧ cq_I h a 16 ≤ Z := H.ti 16 hs
theorem CI.i7_17 (H : CI c n L Z E h0 X h) {a : Nat} (hs : cq_s h a = 7) : 0 ≤ cq_I h a 17 ∧ cq_I h a 17 ≤ 65536 := H.ti 17 hs
theorem CI.i7_18 (H : CI c n L Z E h0 X h) {a : Nat} (hs : cq_s h a = 7) : 0 ≤ cq_I h a 18 ∧ cq_I h a 18 ≤ Z := H.ti 18 hs
theorem CI.i9_2 (H : CI c n L Z E h0 X h) {a : Nat} (hs : cq_s h a = 9) : 0 ≤ cq_I h a 2 ∧ cq_I h a 2 ≤ 80 := H.ti 2 hs
theorem CI.i9_3 (H : CI c n L Z E h0 X h) {a : Nat} (hs : cq_s h a = 9) : 0 ≤ cq_I h a 3 ∧ cq_I h a 3 ≤ Z := H.ti 3 hs
theorem CI.i9_4 (H : CI c n L Z E h0 X h) {a : Nat} (hs : cq_s h a = 9) : 0 ≤ cq_I h a 4 ∧ cq_I h a 4 ≤ 100 := H.ti 4 hs
theorem CI.i9_5 (H : CI c n L Z E h0 X h) {a : Nat} (hs : cq_s h a = 9) : 0 ≤ cq_I h a 5 ∧ cq_I h a 5 ≤ 100 := H.ti 5 hs
theorem CI.i9_6 (H : CI c n L Z E h0 X h) {a : Nat} (hs : cq_s h a = 9) : 0 ≤ cq_I h a 6 ∧ cq_I h a 6 ≤ Z := H.ti 6 hs
theorem CI.i9_7 (H : CI c n L Z E h0 X h) {a : Nat} (hs : cq_s h a = 9) : 0 ≤ cq_I h a 7 ∧ cq_I h a 7 ≤ Z := H.ti 7 hs
theorem CI.i9_9 (H : CI c n L Z E h0 X h) {a : Nat} (hs : cq_s h a = 9) : 0 ≤ cq_I h a 9 ∧ cq_I h a 9 ≤ 40 := H.ti 9 hs
theorem CI.i9_11 (H : CI c n L Z E h0 X h) {a : Nat} (hs : cq_s h a = 9) : 0 ≤ cq_I h a 11 ∧ cq_I h a 11 ≤ 40 := H.ti 11 hs
theorem CI.i100 (H : CI c n L Z E h0 X h) {a : Nat} {j : Int} (hs : cq_s h a = 100) : 0 ≤ cq_I h a j ∧ cq_I h a j ≤ 255 := H.ti j hs
/-- sorts stay, and the object itself, the envelope and the opening are as they were -/
def kq (c : Nat) (h h' : cx_Q) : Prop := (∀ a, cq_s h a ≠ 99 → cq_s h' a = cq_s h a) ∧ cq_I h' c = cq_I h c ∧ cq_A h' c = cq_A h c ∧ (∀ a, cq_s h a = 0 → cq_I h' a = cq_I h a) ∧ ∀ a, cq_s h a = 105 → cq_A h' a = cq_A h a
def kp (c : Nat) (h h' : cx_Q) : Prop := kq c h h' ∧ ∀ a, cq_s h a = 3 → cq_I h' a = cq_I h a
theorem kq.refl : kq c h h := ⟨fun _ _ => rfl, rfl, rfl, fun _ _ => rfl, fun _ _ => rfl⟩
theorem kq.trans {h1 h2 : cx_Q} (p : kq c h h1) (q : kq c h1 h2) : kq c h h2 := ⟨fun a w => (q.1 a (by rw [p.1 a w]; exact w)).trans (p.1 a w), q.2.1.trans p.2.1, q.2.2.1.trans p.2.2.1, fun a w => (q.2.2.2.1 a ((p.1 a (by rw [w]; decide)).trans w)).trans (p.2.2.2.1 a w), fun a w => (q.2.2.2.2 a ((p.1 a (by rw [w]; decide)).trans w)).trans (p.2.2.2.2 a w)⟩
theorem kq.s {h' : cx_Q} (p : kq c h h') {a s : Nat} (hs : cq_s h a = s) (hn : s ≠ 99) : cq_s h' a = s := (p.1 a (by rw [hs]; exact hn)).trans hs
theorem kq.sI {h' : cx_Q} (p : kq c h h') {a s : Nat} {j v : Int} (hs : cq_s h' a = s) (hc : cq_s h' c = 9) (h9 : s ≠ 9) (h0 : s ≠ 0) : kq c h (cq_sI h' a j v) := by
  refine ⟨p.1, ?_, p.2.2.1, fun b hb => ?_, p.2.2.2.2⟩
  · rw [← p.2.1]
    funext r
    rw [mm_sI, if_neg (fun e => h9 (by rw [← hs, ← e.1]; exact hc))]
  · rw [← p.2.2.2.1 b hb]
    funext r
    rw [mm_sI, if_neg (fun e => h0 (by rw [← hs, ← e.1]; exact (p.1 b (by rw [hb]; decide)).trans hb))]
theorem kq.sJ {h' : cx_Q} (p : kq c h h') {a : Nat} {j : Int} {v : Int64} : kq c h (cq_sJ h' a j v) := p
theorem kq.sA {h' : cx_Q} (p : kq c h h') {a s : Nat} {j : Int} {v : Option Nat} (hs : cq_s h' a = s) (hc : cq_s h' c = 9) (h9 : s ≠ 9 ∧ s ≠ 105) : kq c h (cq_sA h' a j v) := by
  refine ⟨p.1, p.2.1, ?_, p.2.2.2.1, fun b hb => ?_⟩
  · rw [← p.2.2.1]
    funext r
    rw [mm_sA, if_neg (fun e => h9.1 (by rw [← hs, ← e.1]; exact hc))]
  · rw [← p.2.2.2.2 b hb]
    funext r
    rw [mm_sA, if_neg (fun e => h9.2 (by rw [← hs, ← e.1]; exact (p.1 b (by rw [hb]; decide)).trans hb))]
theorem kq.nb {h' : cx_Q} (p : kq c h h') (hal : cq_s h' h'.1 = 99) {b : Nat} (w : cq_s h b ≠ 99) : b ≠ h'.1 := fun e => by
  have := p.1 b w
  rw [e, hal] at this
  exact w (by rw [e]; exact this.symm)
theorem kq.nw {h' : cx_Q} (p : kq c h h') {s : Nat} {z : Int} (hal : cq_s h' h'.1 = 99) (hc : cq_s h' c = 9) : kq c h (cq_nw h' s z) := by
  have nc : c ≠ h'.1 := fun e => by rw [← e, hc] at hal; exact absurd hal (by decide)
  refine ⟨fun b w => ((nw_o (s := s) (z := z) (p.nb hal w)).1).trans (p.1 b w), ((nw_o (s := s) (z := z) nc).2.2.1).trans p.2.1, ((nw_o (s := s) (z := z) nc).2.2.2.2).trans p.2.2.1, fun b w => ((nw_o (s := s) (z := z) (p.nb hal (by rw [w]; decide))).2.2.1).trans (p.2.2.2.1 b w), fun b w => ((nw_o (s := s) (z := z) (p.nb hal (by rw [w]; decide))).2.2.2.2).trans (p.2.2.2.2 b w)⟩
theorem kp.refl : kp c h h := ⟨kq.refl, fun _ _ => rfl⟩
theorem kp.trans {h1 h2 : cx_Q} (p : kp c h h1) (q : kp c h1 h2) : kp c h h2 := ⟨p.1.trans q.1, fun a w => (q.2 a ((p.1.1 a (by rw [w]; decide)).trans w)).trans (p.2 a w)⟩
theorem kp.s {h' : cx_Q} (p : kp c h h') {a s : Nat} (hs : cq_s h a = s) (hn : s ≠ 99) : cq_s h' a = s := p.1.s hs hn
theorem kp.sI {h' : cx_Q} (p : kp c h h') {a s : Nat} {j v : Int} (hs : cq_s h' a = s) (hc : cq_s h' c = 9) (h9 : s ≠ 9) (h0 : s ≠ 0 ∧ s ≠ 3) : kp c h (cq_sI h' a j v) := by
  refine ⟨p.1.sI hs hc h9 h0.1, fun b hb => ?_⟩
  rw [← p.2 b hb]
  funext r
  rw [mm_sI, if_neg (fun e => h0.2 (by rw [← hs, ← e.1]; exact (p.1.1 b (by rw [hb]; decide)).trans hb))]
theorem kp.sJ {h' : cx_Q} (p : kp c h h') {a : Nat} {j : Int} {v : Int64} : kp c h (cq_sJ h' a j v) := p
theorem kp.sA {h' : cx_Q} (p : kp c h h') {a s : Nat} {j : Int} {v : Option Nat} (hs : cq_s h' a = s) (hc : cq_s h' c = 9) (h9 : s ≠ 9 ∧ s ≠ 105) : kp c h (cq_sA h' a j v) := ⟨p.1.sA hs hc h9, p.2⟩
theorem kp.nw {h' : cx_Q} (p : kp c h h') {s : Nat} {z : Int} (hal : cq_s h' h'.1 = 99) (hc : cq_s h' c = 9) : kp c h (cq_nw h' s z) := ⟨p.1.nw hal hc, fun b w => ((nw_o (s := s) (z := z) (p.1.nb hal (by rw [w]; decide))).2.2.1).trans (p.2 b w)⟩
theorem own_9 {s : Nat} (q : s ≤ 9) : own s := Or.inl q
theorem own_m {s : Nat} (q : 100 ≤ s ∧ s ≤ 105) : own s := Or.inr (Or.inl q)
theorem own_h {s : Nat} (q : 171 ≤ s ∧ s ≤ 183) : own s := Or.inr (Or.inr q)
end
