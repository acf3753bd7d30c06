/-! class and reference side by side: a SESSION that has opened a letter -/
/-- with a KEPT key, the i-th -/
def OK1 (x : Nat) (s i : Int) (g g' : cx_Q) : Prop := (∀ o j, inS s o j → o ≠ 43 → o ≠ 53 → o ≠ 55 → cq_I g' (x + o) j = cq_I g (x + o) j) ∧ (∀ o j, inS s o j → o ≠ 54 → o ≠ 56 → cq_J g' (x + o) j = cq_J g (x + o) j) ∧ (cq_I g' (x + 43) s = 0) ∧ (cq_I g' (x + 53) s = cq_I g (x + 53) s - 1) ∧ (∀ k, 0 ≤ k → k < cq_I g (x + 53) s - 1 → cq_J g' (x + 54) (20 * s + k) = cq_J g (x + 54) (20 * s + (if i ≤ k then k + 1 else k)) ∧ cq_I g' (x + 55) (20 * s + k) = cq_I g (x + 55) (20 * s + (if i ≤ k then k + 1 else k)) ∧ cq_J g' (x + 56) (20 * s + k) = cq_J g (x + 56) (20 * s + (if i ≤ k then k + 1 else k)))
theorem OK1.I_ {x : Nat} {s i : Int} {g g' : cx_Q} (F_ : OK1 x s i g g') : ∀ o j, inS s o j → o ≠ 43 → o ≠ 53 → o ≠ 55 → cq_I g' (x + o) j = cq_I g (x + o) j := F_.1
theorem OK1.J_ {x : Nat} {s i : Int} {g g' : cx_Q} (F_ : OK1 x s i g g') : ∀ o j, inS s o j → o ≠ 54 → o ≠ 56 → cq_J g' (x + o) j = cq_J g (x + o) j := F_.2.1
theorem OK1.i43 {x : Nat} {s i : Int} {g g' : cx_Q} (F_ : OK1 x s i g g') : cq_I g' (x + 43) s = 0 := F_.2.2.1
theorem OK1.i53 {x : Nat} {s i : Int} {g g' : cx_Q} (F_ : OK1 x s i g g') : cq_I g' (x + 53) s = cq_I g (x + 53) s - 1 := F_.2.2.2.1
theorem OK1.k_ {x : Nat} {s i : Int} {g g' : cx_Q} (F_ : OK1 x s i g g') : ∀ k, 0 ≤ k → k < cq_I g (x + 53) s - 1 → cq_J g' (x + 54) (20 * s + k) = cq_J g (x + 54) (20 * s + (if i ≤ k then k + 1 else k)) ∧ cq_I g' (x + 55) (20 * s + k) = cq_I g (x + 55) (20 * s + (if i ≤ k then k + 1 else k)) ∧ cq_J g' (x + 56) (20 * s + k) = cq_J g (x + 56) (20 * s + (if i ≤ k then k + 1 else k)) := F_.2.2.2.2
/-- with a key of the chain that goes on, n of it KEPT -/
def OK2 (x : Nat) (s n : Int) (g g' : cx_Q) : Prop := (∀ o j, inS s o j → o ≠ 41 → o ≠ 43 → o ≠ 53 → o ≠ 55 → cq_I g' (x + o) j = cq_I g (x + o) j) ∧ (∀ o j, inS s o j → o ≠ 34 → o ≠ 54 → o ≠ 56 → cq_J g' (x + o) j = cq_J g (x + o) j) ∧ (cq_I g' (x + 41) s = cq_I g (x + 41) s + n + 1) ∧ (cq_I g' (x + 43) s = 0) ∧ (cq_I g' (x + 53) s = cq_I g (x + 53) s + n) ∧ (cq_J g' (x + 34) s = nxI (n.toNat + 1) (cq_J g (x + 34) s)) ∧ (∀ k, 0 ≤ k → k < cq_I g (x + 53) s → cq_J g' (x + 54) (20 * s + k) = cq_J g (x + 54) (20 * s + k) ∧ cq_I g' (x + 55) (20 * s + k) = cq_I g (x + 55) (20 * s + k) ∧ cq_J g' (x + 56) (20 * s + k) = cq_J g (x + 56) (20 * s + k)) ∧ (∀ i, 0 ≤ i → i < n → cq_J g' (x + 54) (20 * s + (cq_I g (x + 53) s + i)) = cq_J g (x + 38) s ∧ cq_I g' (x + 55) (20 * s + (cq_I g (x + 53) s + i)) = cq_I g (x + 41) s + i ∧ cq_J g' (x + 56) (20 * s + (cq_I g (x + 53) s + i)) = lkC (nxI i.toNat (cq_J g (x + 34) s)))
theorem OK2.I_ {x : Nat} {s n : Int} {g g' : cx_Q} (F_ : OK2 x s n g g') : ∀ o j, inS s o j → o ≠ 41 → o ≠ 43 → o ≠ 53 → o ≠ 55 → cq_I g' (x + o) j = cq_I g (x + o) j := F_.1
theorem OK2.J_ {x : Nat} {s n : Int} {g g' : cx_Q} (F_ : OK2 x s n g g') : ∀ o j, inS s o j → o ≠ 34 → o ≠ 54 → o ≠ 56 → cq_J g' (x + o) j = cq_J g (x + o) j := F_.2.1
theorem OK2.i41 {x : Nat} {s n : Int} {g g' : cx_Q} (F_ : OK2 x s n g g') : cq_I g' (x + 41) s = cq_I g (x + 41) s + n + 1 := F_.2.2.1
theorem OK2.i43 {x : Nat} {s n : Int} {g g' : cx_Q} (F_ : OK2 x s n g g') : cq_I g' (x + 43) s = 0 := F_.2.2.2.1
theorem OK2.i53 {x : Nat} {s n : Int} {g g' : cx_Q} (F_ : OK2 x s n g g') : cq_I g' (x + 53) s = cq_I g (x + 53) s + n := F_.2.2.2.2.1
theorem OK2.j34 {x : Nat} {s n : Int} {g g' : cx_Q} (F_ : OK2 x s n g g') : cq_J g' (x + 34) s = nxI (n.toNat + 1) (cq_J g (x + 34) s) := F_.2.2.2.2.2.1
theorem OK2.k_ {x : Nat} {s n : Int} {g g' : cx_Q} (F_ : OK2 x s n g g') : ∀ k, 0 ≤ k → k < cq_I g (x + 53) s → cq_J g' (x + 54) (20 * s + k) = cq_J g (x + 54) (20 * s + k) ∧ cq_I g' (x + 55) (20 * s + k) = cq_I g (x + 55) (20 * s + k) ∧ cq_J g' (x + 56) (20 * s + k) = cq_J g (x + 56) (20 * s + k) := F_.2.2.2.2.2.2.1
theorem OK2.n_ {x : Nat} {s n : Int} {g g' : cx_Q} (F_ : OK2 x s n g g') : ∀ i, 0 ≤ i → i < n → cq_J g' (x + 54) (20 * s + (cq_I g (x + 53) s + i)) = cq_J g (x + 38) s ∧ cq_I g' (x + 55) (20 * s + (cq_I g (x + 53) s + i)) = cq_I g (x + 41) s + i ∧ cq_J g' (x + 56) (20 * s + (cq_I g (x + 53) s + i)) = lkC (nxI i.toNat (cq_J g (x + 34) s)) := F_.2.2.2.2.2.2.2
section
variable {x a : Nat} {s : Int} {h g g' h' : cx_Q}
theorem SR.kept {i : Int} (F : SR x a s h g) (Q : OK1 x s i g g') (hi : 0 ≤ i ∧ i < cq_I g (x + 53) s) : SR x a s (kdr (cq_sI h a 5 0) (a + 1) (a + 2) (a + 3) (a + 4) i (cq_I h (a + 1) 4 - 1) (cq_I h (a + 1) 4 - 1)) g' := by
  have k20 := F.k20
  have km := F.km
  have s0 := F.s0
  have n1 : ¬ a = a + 1 := by omega
  have n2 : ¬ a = a + 2 := by omega
  have n3 : ¬ a = a + 3 := by omega
  have n4 : ¬ a = a + 4 := by omega
  have gI : ∀ o, ((31 ≤ o ∧ o ≤ 47) ∨ o = 53) → o ≠ 43 → o ≠ 53 → cq_I g' (x + o) s = cq_I g (x + o) s := fun o w w2 w3 => Q.I_ o s (Or.inl ⟨w, rfl⟩) w2 w3 (by omega)
  have gJ : ∀ o, ((31 ≤ o ∧ o ≤ 47) ∨ o = 53) → cq_J g' (x + o) s = cq_J g (x + o) s := fun o w => Q.J_ o s (Or.inl ⟨w, rfl⟩) (by omega) (by omega)
  have hA : cq_A (kdr (cq_sI h a 5 0) (a + 1) (a + 2) (a + 3) (a + 4) i (cq_I h (a + 1) 4 - 1) (cq_I h (a + 1) 4 - 1)) = cq_A h := Eq.trans rfl rfl
  have hs : cq_s (kdr (cq_sI h a 5 0) (a + 1) (a + 2) (a + 3) (a + 4) i (cq_I h (a + 1) 4 - 1) (cq_I h (a + 1) 4 - 1)) = cq_s h := Eq.trans rfl rfl
  have hI : ∀ k, k ≠ 5 → cq_I (kdr (cq_sI h a 5 0) (a + 1) (a + 2) (a + 3) (a + 4) i (cq_I h (a + 1) 4 - 1) (cq_I h (a + 1) 4 - 1)) a k = cq_I h a k := fun k w => by
    unfold kdr
    simp only [mm_sI, mm_sJ, mm_sA, mm_IJ, mm_IA, mm_JI, mm_JA, mm_AI, mm_AJ, mm_ssI, mm_ssJ, mm_ssA, mm_zI, mm_zJ, mm_zA, mm_nI, mm_nJ, mm_nA, rr_I, rr_J, rr_A, rr_IJ, rr_IA, rr_JI, rr_JA, rr_AI, rr_AJ, rr_sI, rr_sJ, rr_sA, rr_zI, rr_zJ, rr_zA, n1, n3, Nat.left_eq_add, Nat.add_eq_left, Nat.add_left_cancel_iff, Nat.reduceEqDiff, Int.reduceEq, false_and, and_false, if_false, if_true, and_self, true_and, true_or, or_true, false_or, or_false, w]
  have h5 : cq_I (kdr (cq_sI h a 5 0) (a + 1) (a + 2) (a + 3) (a + 4) i (cq_I h (a + 1) 4 - 1) (cq_I h (a + 1) 4 - 1)) a 5 = 0 := by
    unfold kdr
    simp only [mm_sI, mm_sJ, mm_sA, mm_IJ, mm_IA, mm_JI, mm_JA, mm_AI, mm_AJ, mm_ssI, mm_ssJ, mm_ssA, mm_zI, mm_zJ, mm_zA, mm_nI, mm_nJ, mm_nA, rr_I, rr_J, rr_A, rr_IJ, rr_IA, rr_JI, rr_JA, rr_AI, rr_AJ, rr_sI, rr_sJ, rr_sA, rr_zI, rr_zJ, rr_zA, n1, n3, Nat.left_eq_add, Nat.add_eq_left, Nat.add_left_cancel_iff, Nat.reduceEqDiff, Int.reduceEq, false_and, and_false, if_false, if_true, and_self, true_and, true_or, or_true, false_or, or_false]
  have hJ : ∀ d, d ≠ a + 2 → d ≠ a + 4 → cq_J (kdr (cq_sI h a 5 0) (a + 1) (a + 2) (a + 3) (a + 4) i (cq_I h (a + 1) 4 - 1) (cq_I h (a + 1) 4 - 1)) d = cq_J h d := fun d w1 w2 => by
    unfold kdr
    funext k
    simp only [mm_sI, mm_sJ, mm_sA, mm_IJ, mm_IA, mm_JI, mm_JA, mm_AI, mm_AJ, mm_ssI, mm_ssJ, mm_ssA, mm_zI, mm_zJ, mm_zA, mm_nI, mm_nJ, mm_nA, rr_I, rr_J, rr_A, rr_IJ, rr_IA, rr_JI, rr_JA, rr_AI, rr_AJ, rr_sI, rr_sJ, rr_sA, rr_zI, rr_zJ, rr_zA, w1, w2, Nat.left_eq_add, Nat.add_eq_left, Nat.add_left_cancel_iff, Nat.reduceEqDiff, Int.reduceEq, false_and, and_false, if_false, if_true, and_self, true_and, true_or, or_true, false_or, or_false]
  have h4 : cq_I (kdr (cq_sI h a 5 0) (a + 1) (a + 2) (a + 3) (a + 4) i (cq_I h (a + 1) 4 - 1) (cq_I h (a + 1) 4 - 1)) (a + 1) 4 = cq_I h (a + 1) 4 - 1 := by
    unfold kdr
    simp only [mm_sI, mm_sJ, mm_sA, mm_IJ, mm_IA, mm_JI, mm_JA, mm_AI, mm_AJ, mm_ssI, mm_ssJ, mm_ssA, mm_zI, mm_zJ, mm_zA, mm_nI, mm_nJ, mm_nA, Nat.left_eq_add, Nat.add_eq_left, Nat.add_left_cancel_iff, Nat.reduceEqDiff, Int.reduceEq, false_and, and_false, if_false, if_true, and_self, true_and, true_or, or_true, false_or, or_false]
  have r2 : cq_J (kdr (cq_sI h a 5 0) (a + 1) (a + 2) (a + 3) (a + 4) i (cq_I h (a + 1) 4 - 1) (cq_I h (a + 1) 4 - 1)) (a + 2) = shT (cq_J h (a + 2)) i (cq_I h (a + 1) 4 - 1) := by
    unfold kdr
    funext k
    simp only [mm_sI, mm_sJ, mm_sA, mm_IJ, mm_IA, mm_JI, mm_JA, mm_AI, mm_AJ, mm_ssI, mm_ssJ, mm_ssA, mm_zI, mm_zJ, mm_zA, mm_nI, mm_nJ, mm_nA, rr_I, rr_J, rr_A, rr_IJ, rr_IA, rr_JI, rr_JA, rr_AI, rr_AJ, rr_sI, rr_sJ, rr_sA, rr_zI, rr_zJ, rr_zA, Nat.left_eq_add, Nat.add_eq_left, Nat.add_left_cancel_iff, Nat.reduceEqDiff, Int.reduceEq, false_and, and_false, if_false, if_true, and_self, true_and, true_or, or_true, false_or, or_false]
  have r3 : cq_I (kdr (cq_sI h a 5 0) (a + 1) (a + 2) (a + 3) (a + 4) i (cq_I h (a + 1) 4 - 1) (cq_I h (a + 1) 4 - 1)) (a + 3) = shT (cq_I h (a + 3)) i (cq_I h (a + 1) 4 - 1) := by
    unfold kdr
    funext k
    have e : cq_I (cq_sI h a 5 0) (a + 3) = cq_I h (a + 3) := by
      funext k
      rw [mm_sI, if_neg (fun q => by omega)]
    simp only [mm_sI, mm_IJ, rr_IJ, rr_I, Nat.left_eq_add, Nat.add_eq_left, Nat.add_left_cancel_iff, Nat.reduceEqDiff, Int.reduceEq, false_and, and_false, if_false, if_true, and_self, true_and, true_or, or_true, false_or, or_false]
    try rw [e]
    try rfl
  have r4 : cq_J (kdr (cq_sI h a 5 0) (a + 1) (a + 2) (a + 3) (a + 4) i (cq_I h (a + 1) 4 - 1) (cq_I h (a + 1) 4 - 1)) (a + 4) = shT (cq_J h (a + 4)) i (cq_I h (a + 1) 4 - 1) := by
    unfold kdr
    funext k
    simp only [mm_sI, mm_sJ, mm_sA, mm_IJ, mm_IA, mm_JI, mm_JA, mm_AI, mm_AJ, mm_ssI, mm_ssJ, mm_ssA, mm_zI, mm_zJ, mm_zA, mm_nI, mm_nJ, mm_nA, rr_I, rr_J, rr_A, rr_IJ, rr_IA, rr_JI, rr_JA, rr_AI, rr_AJ, rr_sI, rr_sJ, rr_sA, rr_zI, rr_zJ, rr_zA, Nat.left_eq_add, Nat.add_eq_left, Nat.add_left_cancel_iff, Nat.reduceEqDiff, Int.reduceEq, false_and, and_false, if_false, if_true, and_self, true_and, true_or, or_true, false_or, or_false]
  generalize kdr (cq_sI h a 5 0) (a + 1) (a + 2) (a + 3) (a + 4) i (cq_I h (a + 1) 4 - 1) (cq_I h (a + 1) 4 - 1) = h1 at hA hs hI h5 hJ h4 r2 r3 r4 ⊢
  have Ja : ∀ k, cq_J h1 a k = cq_J h a k := fun k => by rw [hJ a n2 n4]
  refine ⟨by rw [hs]; exact F.s0, by rw [hs]; exact F.s1, by rw [hs]; exact F.s2, by rw [hs]; exact F.s3, by rw [hs]; exact F.s4, by rw [hA]; exact F.a19, by rw [hA]; exact F.k0, by rw [hA]; exact F.k1, by rw [hA]; exact F.k2, by rw [hI 0 (by decide), gI 44 (by omega) (by decide) (by decide)]; exact F.bg, by rw [Ja, gJ 45 (by omega)]; exact F.be, by rw [h5, Q.i43], fun q => absurd Q.i43 q, by rw [Ja, gJ 31 (by omega)]; exact F.rt, by rw [Ja, gJ 32 (by omega)]; exact F.sn, by rw [hA]; exact F.s9, by rw [gI 33 (by omega) (by decide) (by decide)]; exact F.hs, by rw [hA, gI 35 (by omega) (by decide) (by decide)]; exact F.hr, by rw [Ja, gI 35 (by omega) (by decide) (by decide), gJ 34 (by omega)]; exact F.rc, by rw [Ja, gI 35 (by omega) (by decide) (by decide)]; exact F.rz, ?_, by rw [Ja, gJ 38 (by omega)]; exact F.ot, by rw [hI 15 (by decide), gI 39 (by omega) (by decide) (by decide)]; exact F.ho, by rw [hI 16 (by decide), gI 40 (by omega) (by decide) (by decide)]; exact F.ns, by rw [hI 17 (by decide), gI 41 (by omega) (by decide) (by decide)]; exact F.nr, by rw [hI 18 (by decide), gI 42 (by omega) (by decide) (by decide)]; exact F.pn, by rw [h4, Q.i53, km], by rw [Q.i53]; omega, fun k k1 k2 => ?_⟩
  · obtain ⟨w, q1, q2, q3, q4⟩ := F.ow
    have f2 := F.s2
    have f4 := F.s4
    have w2 : w ≠ a + 2 := fun z => by rw [z, f2] at q2; exact absurd q2 (by decide)
    have w4 : w ≠ a + 4 := fun z => by rw [z, f4] at q2; exact absurd q2 (by decide)
    exact ⟨w, by rw [hA]; exact q1, by rw [hs]; exact q2, by rw [hJ w w2 w4, gJ 36 (by omega)]; exact q3, by rw [hJ w w2 w4, gJ 37 (by omega)]; exact q4⟩
  · rw [Q.i53] at k2
    obtain ⟨y1, y2, y3⟩ := Q.k_ k k1 k2
    by_cases w : i ≤ k
    · rw [if_pos w] at y1 y2 y3
      rw [r2, r3, r4, y1, y2, y3]
      unfold shT
      rw [km, if_pos ⟨w, k2⟩, if_pos ⟨w, k2⟩, if_pos ⟨w, k2⟩]
      exact F.kk (k + 1) (by omega) (by omega)
    · rw [if_neg w] at y1 y2 y3
      rw [r2, r3, r4, y1, y2, y3]
      unfold shT
      rw [km, if_neg (fun q => w q.1), if_neg (fun q => w q.1), if_neg (fun q => w q.1)]
      exact F.kk k k1 (by omega)
/-- a chain that goes on: r the row of keys at hand -/
theorem SR.on {n pl : Int} {v : Int64} {r : Int → Int64} (F : SR x a s h g) (Q : OK2 x s n g g') (hn : 0 ≤ n ∧ cq_I g (x + 53) s + n ≤ 20) (h35 : cq_I g (x + 35) s ≠ 0) (ep : pl = cq_I g (x + 41) s + n) (ev : v = nxI (n.toNat + 1) (cq_J g (x + 34) s)) (er : ∀ i, 0 ≤ i → i < n → r i = lkC (nxI i.toNat (cq_J g (x + 34) s))) : SR x a s (coR (kpW (cq_sI h a 5 0) (a + 1) (a + 2) (a + 3) (a + 4) (cq_I h (a + 1) 4) n (cq_J h a 13) (cq_I h a 17) r) a v (pl + 1)) g' := by
  have k20 := F.k20
  have km := F.km
  have ot := F.ot
  have nr := F.nr
  have n1 : ¬ a = a + 1 := by omega
  have n2 : ¬ a = a + 2 := by omega
  have n3 : ¬ a = a + 3 := by omega
  have n4 : ¬ a = a + 4 := by omega
  have m1 : ¬ a + 1 = a := by omega
  have m2 : ¬ a + 2 = a := by omega
  have m3 : ¬ a + 3 = a := by omega
  have m4 : ¬ a + 4 = a := by omega
  have gI : ∀ o, ((31 ≤ o ∧ o ≤ 47) ∨ o = 53) → o ≠ 41 → o ≠ 43 → o ≠ 53 → cq_I g' (x + o) s = cq_I g (x + o) s := fun o w w1 w2 w3 => Q.I_ o s (Or.inl ⟨w, rfl⟩) w1 w2 w3 (by omega)
  have gJ : ∀ o, ((31 ≤ o ∧ o ≤ 47) ∨ o = 53) → o ≠ 34 → cq_J g' (x + o) s = cq_J g (x + o) s := fun o w w1 => Q.J_ o s (Or.inl ⟨w, rfl⟩) w1 (by omega) (by omega)
  have hA : cq_A (coR (kpW (cq_sI h a 5 0) (a + 1) (a + 2) (a + 3) (a + 4) (cq_I h (a + 1) 4) n (cq_J h a 13) (cq_I h a 17) r) a v (pl + 1)) = cq_A h := Eq.trans rfl rfl
  have hs : cq_s (coR (kpW (cq_sI h a 5 0) (a + 1) (a + 2) (a + 3) (a + 4) (cq_I h (a + 1) 4) n (cq_J h a 13) (cq_I h a 17) r) a v (pl + 1)) = cq_s h := Eq.trans rfl rfl
  have hI : ∀ k, k ≠ 5 → k ≠ 17 → cq_I (coR (kpW (cq_sI h a 5 0) (a + 1) (a + 2) (a + 3) (a + 4) (cq_I h (a + 1) 4) n (cq_J h a 13) (cq_I h a 17) r) a v (pl + 1)) a k = cq_I h a k := fun k w w2 => by
    unfold coR
    rw [mm_sI, if_neg (fun q => w2 q.2), mm_IJ, kpW_I n1 n3, mm_sI, if_neg (fun q => w q.2)]
  have h5 : cq_I (coR (kpW (cq_sI h a 5 0) (a + 1) (a + 2) (a + 3) (a + 4) (cq_I h (a + 1) 4) n (cq_J h a 13) (cq_I h a 17) r) a v (pl + 1)) a 5 = 0 := by
    unfold coR
    rw [mm_sI, if_neg (fun q => absurd q.2 (by decide)), mm_IJ, kpW_I n1 n3, mm_sI, if_pos ⟨rfl, rfl⟩]
  have h17 : cq_I (coR (kpW (cq_sI h a 5 0) (a + 1) (a + 2) (a + 3) (a + 4) (cq_I h (a + 1) 4) n (cq_J h a 13) (cq_I h a 17) r) a v (pl + 1)) a 17 = pl + 1 := by
    unfold coR
    rw [mm_sI, if_pos ⟨rfl, rfl⟩]
  have Ja : ∀ k, k ≠ 10 → cq_J (coR (kpW (cq_sI h a 5 0) (a + 1) (a + 2) (a + 3) (a + 4) (cq_I h (a + 1) 4) n (cq_J h a 13) (cq_I h a 17) r) a v (pl + 1)) a k = cq_J h a k := fun k w => by
    unfold coR
    rw [mm_JI, mm_sJ, if_neg (fun q => w q.2), kpW_J n2 n4, mm_JI]
  have J10 : cq_J (coR (kpW (cq_sI h a 5 0) (a + 1) (a + 2) (a + 3) (a + 4) (cq_I h (a + 1) 4) n (cq_J h a 13) (cq_I h a 17) r) a v (pl + 1)) a 10 = v := by
    unfold coR
    rw [mm_JI, mm_sJ, if_pos ⟨rfl, rfl⟩]
  have hJ : ∀ d, d ≠ a → d ≠ a + 2 → d ≠ a + 4 → ∀ k, cq_J (coR (kpW (cq_sI h a 5 0) (a + 1) (a + 2) (a + 3) (a + 4) (cq_I h (a + 1) 4) n (cq_J h a 13) (cq_I h a 17) r) a v (pl + 1)) d k = cq_J h d k := fun d w w1 w2 k => by
    unfold coR
    rw [mm_JI, mm_sJ, if_neg (fun q => w q.1), kpW_J w1 w2, mm_JI]
  have h4 : cq_I (coR (kpW (cq_sI h a 5 0) (a + 1) (a + 2) (a + 3) (a + 4) (cq_I h (a + 1) 4) n (cq_J h a 13) (cq_I h a 17) r) a v (pl + 1)) (a + 1) 4 = cq_I h (a + 1) 4 + n := by
    unfold coR
    rw [mm_sI, if_neg (fun q => m1 q.1), mm_IJ, kpW_4]
  have r2 : ∀ k, cq_J (coR (kpW (cq_sI h a 5 0) (a + 1) (a + 2) (a + 3) (a + 4) (cq_I h (a + 1) 4) n (cq_J h a 13) (cq_I h a 17) r) a v (pl + 1)) (a + 2) k = kpG (cq_J h (a + 2)) (cq_I h (a + 1) 4) n (fun _ => cq_J h a 13) k := fun k => by
    unfold coR kpW
    simp only [mm_sI, mm_sJ, mm_sA, mm_IJ, mm_IA, mm_JI, mm_JA, mm_AI, mm_AJ, mm_ssI, mm_ssJ, mm_ssA, mm_zI, mm_zJ, mm_zA, mm_nI, mm_nJ, mm_nA, rr_I, rr_J, rr_A, rr_IJ, rr_IA, rr_JI, rr_JA, rr_AI, rr_AJ, rr_sI, rr_sJ, rr_sA, rr_zI, rr_zJ, rr_zA, m2, Nat.left_eq_add, Nat.add_eq_left, Nat.add_left_cancel_iff, Nat.reduceEqDiff, Int.reduceEq, false_and, and_false, if_false, if_true, and_self, true_and, true_or, or_true, false_or, or_false]
  have r3 : ∀ k, cq_I (coR (kpW (cq_sI h a 5 0) (a + 1) (a + 2) (a + 3) (a + 4) (cq_I h (a + 1) 4) n (cq_J h a 13) (cq_I h a 17) r) a v (pl + 1)) (a + 3) k = kpG (cq_I h (a + 3)) (cq_I h (a + 1) 4) n (fun i => cq_I h a 17 + i) k := fun k => by
    unfold coR kpW
    have e : cq_I (cq_sI h a 5 0) (a + 3) = cq_I h (a + 3) := by
      funext k
      rw [mm_sI, if_neg (fun q => by omega)]
    simp only [mm_sI, mm_IJ, rr_IJ, rr_I, m3, Nat.left_eq_add, Nat.add_eq_left, Nat.add_left_cancel_iff, Nat.reduceEqDiff, Int.reduceEq, false_and, and_false, if_false, if_true, and_self, true_and, true_or, or_true, false_or, or_false]
    try rw [e]
    try rfl
  have r4 : ∀ k, cq_J (coR (kpW (cq_sI h a 5 0) (a + 1) (a + 2) (a + 3) (a + 4) (cq_I h (a + 1) 4) n (cq_J h a 13) (cq_I h a 17) r) a v (pl + 1)) (a + 4) k = kpG (cq_J h (a + 4)) (cq_I h (a + 1) 4) n r k := fun k => by
    unfold coR kpW
    simp only [mm_sI, mm_sJ, mm_sA, mm_IJ, mm_IA, mm_JI, mm_JA, mm_AI, mm_AJ, mm_ssI, mm_ssJ, mm_ssA, mm_zI, mm_zJ, mm_zA, mm_nI, mm_nJ, mm_nA, rr_I, rr_J, rr_A, rr_IJ, rr_IA, rr_JI, rr_JA, rr_AI, rr_AJ, rr_sI, rr_sJ, rr_sA, rr_zI, rr_zJ, rr_zA, m4, Nat.left_eq_add, Nat.add_eq_left, Nat.add_left_cancel_iff, Nat.reduceEqDiff, Int.reduceEq, false_and, and_false, if_false, if_true, and_self, true_and, true_or, or_true, false_or, or_false]
  generalize coR (kpW (cq_sI h a 5 0) (a + 1) (a + 2) (a + 3) (a + 4) (cq_I h (a + 1) 4) n (cq_J h a 13) (cq_I h a 17) r) a v (pl + 1) = h1 at hA hs hI h5 h17 Ja J10 hJ h4 r2 r3 r4 ⊢
  refine ⟨by rw [hs]; exact F.s0, by rw [hs]; exact F.s1, by rw [hs]; exact F.s2, by rw [hs]; exact F.s3, by rw [hs]; exact F.s4, by rw [hA]; exact F.a19, by rw [hA]; exact F.k0, by rw [hA]; exact F.k1, by rw [hA]; exact F.k2, by rw [hI 0 (by decide) (by decide), gI 44 (by omega) (by decide) (by decide) (by decide)]; exact F.bg, by rw [Ja 2 (by decide), gJ 45 (by omega) (by decide)]; exact F.be, by rw [h5, Q.i43], fun q => absurd Q.i43 q, by rw [Ja 6 (by decide), gJ 31 (by omega) (by decide)]; exact F.rt, by rw [Ja 8 (by decide), gJ 32 (by omega) (by decide)]; exact F.sn, by rw [hA]; exact F.s9, by rw [gI 33 (by omega) (by decide) (by decide) (by decide)]; exact F.hs, by rw [hA, gI 35 (by omega) (by decide) (by decide) (by decide)]; exact F.hr, fun _ => by rw [J10, Q.j34, ev], fun q => absurd q (by rw [gI 35 (by omega) (by decide) (by decide) (by decide)]; exact h35), ?_, by rw [Ja 13 (by decide), gJ 38 (by omega) (by decide)]; exact F.ot, by rw [hI 15 (by decide) (by decide), gI 39 (by omega) (by decide) (by decide) (by decide)]; exact F.ho, by rw [hI 16 (by decide) (by decide), gI 40 (by omega) (by decide) (by decide) (by decide)]; exact F.ns, by rw [h17, Q.i41, ep], by rw [hI 18 (by decide) (by decide), gI 42 (by omega) (by decide) (by decide) (by decide)]; exact F.pn, by rw [h4, Q.i53, km], by rw [Q.i53]; omega, fun k k1 k2 => ?_⟩
  · obtain ⟨w, q1, q2, q3, q4⟩ := F.ow
    have f0 := F.s0
    have f2 := F.s2
    have f4 := F.s4
    have w0 : w ≠ a := fun z => by rw [z, f0] at q2; exact absurd q2 (by decide)
    have w2 : w ≠ a + 2 := fun z => by rw [z, f2] at q2; exact absurd q2 (by decide)
    have w4 : w ≠ a + 4 := fun z => by rw [z, f4] at q2; exact absurd q2 (by decide)
    exact ⟨w, by rw [hA]; exact q1, by rw [hs]; exact q2, by rw [hJ w w0 w2 w4, gJ 36 (by omega) (by decide)]; exact q3, by rw [hJ w w0 w2 w4, gJ 37 (by omega) (by decide)]; exact q4⟩
  · rw [Q.i53] at k2
    rw [r2, r3, r4]
    unfold kpG
    rw [km]
    by_cases w : cq_I g (x + 53) s ≤ k
    · have y := Q.n_ (k - cq_I g (x + 53) s) (by omega) (by omega)
      have e : cq_I g (x + 53) s + (k - cq_I g (x + 53) s) = k := by omega
      rw [e] at y
      rw [if_pos ⟨w, k2⟩, if_pos ⟨w, k2⟩, if_pos ⟨w, k2⟩, y.1, y.2.1, y.2.2, ot, nr, er _ (by omega) (by omega)]
      exact ⟨rfl, rfl, rfl⟩
    · have y := Q.k_ k k1 (by omega)
      rw [if_neg (fun q => w q.1), if_neg (fun q => w q.1), if_neg (fun q => w q.1), y.1, y.2.1, y.2.2]
      exact F.kk k k1 (by omega)
end
