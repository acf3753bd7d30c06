/-! class and reference side by side: a letter is taken apart -/
theorem m_ba_s' {f : Int → Int} {b : Int} {n : Nat} {k : Int} {a : Int64} : m_ba f b (n + 1) k a = m_ba f b n (k + 1) (cx_lsl a (Int32.ofInt 8) ||| Int64.ofInt (f (b + k))) := by
  unfold m_ba
  rw [m_fold]
theorem m_ba_c {f f' : Int → Int} {b b' : Int} : ∀ {r : Nat} {k : Int} {a : Int64}, (∀ i, k ≤ i → i < k + r → f (b + i) = f' (b' + i)) → m_ba f b r k a = m_ba f' b' r k a := by
  intro r
  induction r with
  | zero =>
    intro k a _
    unfold m_ba
    rw [m_fold, m_fold]
  | succ r ih =>
    intro k a h
    rw [m_ba_s', m_ba_s', h k (Int.le_refl _) (by omega)]
    exact ih (fun i i0 i1 => h i (by omega) (by omega))
/-- what is told of an envelope: e its cell, b the letter's bytes; g the reference behind its reading of letter l -/
def ER (x e b : Nat) (l : Int) (h g : cx_Q) : Prop := (cq_s h e = 0) ∧ (cq_s h b = 100) ∧ (cq_A h e 0 = some b) ∧ (cq_z h b = cq_I g x 78) ∧ (∀ k, 0 ≤ k → k < cq_I g x 78 → cq_I h b k = cq_I g (x + 62) (100 * l + k)) ∧ (cq_I g x 77 = 100 * l) ∧ (cq_I h e 2 = if cq_I g (x + 62) (100 * l) = 1 then 1 else 0) ∧ (cq_I h e 3 = cq_I g (x + 62) (100 * l + 1)) ∧ (cq_I h e 4 = cq_I g (x + 62) (100 * l + 2)) ∧ (cq_I g (x + 62) (100 * l) = 1 → cq_J h e 5 = m_bytes g x 3 8 ∧ cq_J h e 6 = m_bytes g x 11 8 ∧ cq_I h e 7 = (m_bytes g x 19 2).toInt32.toInt ∧ cq_I h e 8 = (m_bytes g x 21 2).toInt32.toInt) ∧ (cq_J h e 9 = cq_J g x 79) ∧ (cq_I h e 10 = cq_I g x 80) ∧ (cq_I h e 11 = cq_I g x 81) ∧ (cq_I h e 12 = cq_I g x 83) ∧ (cq_I h e 13 = cq_I g x 82) ∧ (cq_I g x 82 + cq_I g x 83 + 8 = cq_I g x 78) ∧ (1 ≤ cq_I g x 83 ∧ cq_I g x 83 ≤ 40) ∧ (cq_J h e 14 = m_sb (cq_I g (x + 62)) (100 * l) (cq_I g x 78 - 8).toNat 0 (Int64.ofInt 0)) ∧ (cq_J h e 15 = m_bytes g x (cq_I g x 78 - 8) 8)
theorem ER.s0 {x e b : Nat} {l : Int} {h g : cx_Q} (F_ : ER x e b l h g) : cq_s h e = 0 := F_.1
theorem ER.sb {x e b : Nat} {l : Int} {h g : cx_Q} (F_ : ER x e b l h g) : cq_s h b = 100 := F_.2.1
theorem ER.eb {x e b : Nat} {l : Int} {h g : cx_Q} (F_ : ER x e b l h g) : cq_A h e 0 = some b := F_.2.2.1
theorem ER.zb {x e b : Nat} {l : Int} {h g : cx_Q} (F_ : ER x e b l h g) : cq_z h b = cq_I g x 78 := F_.2.2.2.1
theorem ER.bb {x e b : Nat} {l : Int} {h g : cx_Q} (F_ : ER x e b l h g) : ∀ k, 0 ≤ k → k < cq_I g x 78 → cq_I h b k = cq_I g (x + 62) (100 * l + k) := F_.2.2.2.2.1
theorem ER.i77 {x e b : Nat} {l : Int} {h g : cx_Q} (F_ : ER x e b l h g) : cq_I g x 77 = 100 * l := F_.2.2.2.2.2.1
theorem ER.bg {x e b : Nat} {l : Int} {h g : cx_Q} (F_ : ER x e b l h g) : cq_I h e 2 = if cq_I g (x + 62) (100 * l) = 1 then 1 else 0 := F_.2.2.2.2.2.2.1
theorem ER.fr {x e b : Nat} {l : Int} {h g : cx_Q} (F_ : ER x e b l h g) : cq_I h e 3 = cq_I g (x + 62) (100 * l + 1) := F_.2.2.2.2.2.2.2.1
theorem ER.tt {x e b : Nat} {l : Int} {h g : cx_Q} (F_ : ER x e b l h g) : cq_I h e 4 = cq_I g (x + 62) (100 * l + 2) := F_.2.2.2.2.2.2.2.2.1
theorem ER.nb {x e b : Nat} {l : Int} {h g : cx_Q} (F_ : ER x e b l h g) : cq_I g (x + 62) (100 * l) = 1 → cq_J h e 5 = m_bytes g x 3 8 ∧ cq_J h e 6 = m_bytes g x 11 8 ∧ cq_I h e 7 = (m_bytes g x 19 2).toInt32.toInt ∧ cq_I h e 8 = (m_bytes g x 21 2).toInt32.toInt := F_.2.2.2.2.2.2.2.2.2.1
theorem ER.op {x e b : Nat} {l : Int} {h g : cx_Q} (F_ : ER x e b l h g) : cq_J h e 9 = cq_J g x 79 := F_.2.2.2.2.2.2.2.2.2.2.1
theorem ER.pn {x e b : Nat} {l : Int} {h g : cx_Q} (F_ : ER x e b l h g) : cq_I h e 10 = cq_I g x 80 := F_.2.2.2.2.2.2.2.2.2.2.2.1
theorem ER.pl {x e b : Nat} {l : Int} {h g : cx_Q} (F_ : ER x e b l h g) : cq_I h e 11 = cq_I g x 81 := F_.2.2.2.2.2.2.2.2.2.2.2.2.1
theorem ER.tl {x e b : Nat} {l : Int} {h g : cx_Q} (F_ : ER x e b l h g) : cq_I h e 12 = cq_I g x 83 := F_.2.2.2.2.2.2.2.2.2.2.2.2.2.1
theorem ER.ta {x e b : Nat} {l : Int} {h g : cx_Q} (F_ : ER x e b l h g) : cq_I h e 13 = cq_I g x 82 := F_.2.2.2.2.2.2.2.2.2.2.2.2.2.2.1
theorem ER.tz {x e b : Nat} {l : Int} {h g : cx_Q} (F_ : ER x e b l h g) : cq_I g x 82 + cq_I g x 83 + 8 = cq_I g x 78 := F_.2.2.2.2.2.2.2.2.2.2.2.2.2.2.2.1
theorem ER.t1 {x e b : Nat} {l : Int} {h g : cx_Q} (F_ : ER x e b l h g) : 1 ≤ cq_I g x 83 ∧ cq_I g x 83 ≤ 40 := F_.2.2.2.2.2.2.2.2.2.2.2.2.2.2.2.2.1
theorem ER.sm {x e b : Nat} {l : Int} {h g : cx_Q} (F_ : ER x e b l h g) : cq_J h e 14 = m_sb (cq_I g (x + 62)) (100 * l) (cq_I g x 78 - 8).toNat 0 (Int64.ofInt 0) := F_.2.2.2.2.2.2.2.2.2.2.2.2.2.2.2.2.2.1
theorem ER.tg {x e b : Nat} {l : Int} {h g : cx_Q} (F_ : ER x e b l h g) : cq_J h e 15 = m_bytes g x (cq_I g x 78 - 8) 8 := F_.2.2.2.2.2.2.2.2.2.2.2.2.2.2.2.2.2.2
section
variable {x : Nat} {h h' g : cx_Q}
theorem rl_x {l : Int} : cq_I (m_rl g x l) x 77 = 100 * l ∧ cq_I (m_rl g x l) x 78 = cq_I g (x + 63) l ∧ cq_I (m_rl g x l) x 82 = m_hd g x l + 13 ∧ cq_I (m_rl g x l) x 83 = cq_I g (x + 62) (100 * l + m_hd g x l + 12) ∧ (∀ o j, 1 ≤ o → cq_I (m_rl g x l) (x + o) j = cq_I g (x + o) j) := by
  unfold m_rl m_rl4 m_rl3 m_rl1
  refine ⟨?_, ?_, ?_, ?_, fun o j ho => ?_⟩
  · simp only [mm_sI, mm_sJ, mm_sA, mm_IJ, mm_IA, mm_JI, mm_JA, mm_AI, mm_AJ, mm_ssI, mm_ssJ, mm_ssA, mm_zI, mm_zJ, mm_zA, mm_nI, mm_nJ, mm_nA, Nat.left_eq_add, Nat.add_eq_left, Nat.add_left_cancel_iff, Nat.reduceEqDiff, Int.reduceEq, false_and, and_false, if_false, if_true, and_self, true_and, true_or, or_true, false_or, or_false]
  · simp only [mm_sI, mm_sJ, mm_sA, mm_IJ, mm_IA, mm_JI, mm_JA, mm_AI, mm_AJ, mm_ssI, mm_ssJ, mm_ssA, mm_zI, mm_zJ, mm_zA, mm_nI, mm_nJ, mm_nA, Nat.left_eq_add, Nat.add_eq_left, Nat.add_left_cancel_iff, Nat.reduceEqDiff, Int.reduceEq, false_and, and_false, if_false, if_true, and_self, true_and, true_or, or_true, false_or, or_false]
  · simp only [mm_sI, mm_sJ, mm_sA, mm_IJ, mm_IA, mm_JI, mm_JA, mm_AI, mm_AJ, mm_ssI, mm_ssJ, mm_ssA, mm_zI, mm_zJ, mm_zA, mm_nI, mm_nJ, mm_nA, Nat.left_eq_add, Nat.add_eq_left, Nat.add_left_cancel_iff, Nat.reduceEqDiff, Int.reduceEq, false_and, and_false, if_false, if_true, and_self, true_and, true_or, or_true, false_or, or_false]
  · simp only [mm_sI, mm_sJ, mm_sA, mm_IJ, mm_IA, mm_JI, mm_JA, mm_AI, mm_AJ, mm_ssI, mm_ssJ, mm_ssA, mm_zI, mm_zJ, mm_zA, mm_nI, mm_nJ, mm_nA, Nat.left_eq_add, Nat.add_eq_left, Nat.add_left_cancel_iff, Nat.reduceEqDiff, Int.reduceEq, false_and, and_false, if_false, if_true, and_self, true_and, true_or, or_true, false_or, or_false]
  · have n : ¬ x + o = x := by omega
    simp only [mm_sI, mm_sJ, mm_sA, mm_IJ, mm_IA, mm_JI, mm_JA, mm_AI, mm_AJ, mm_ssI, mm_ssJ, mm_ssA, mm_zI, mm_zJ, mm_zA, mm_nI, mm_nJ, mm_nA, n, Nat.left_eq_add, Nat.add_eq_left, Nat.add_left_cancel_iff, Nat.reduceEqDiff, Int.reduceEq, false_and, and_false, if_false, if_true, and_self, true_and, true_or, or_true, false_or, or_false]
theorem rl_b {l p m : Int} : m_bytes (m_rl g x l) x p m = m_ba (cq_I g (x + 62)) (100 * l + p) m.toNat 0 (Int64.ofInt 0) := by
  unfold m_bytes
  have e : cq_I (m_rl g x l) (x + 62) = cq_I g (x + 62) := funext fun j => rl_x.2.2.2.2 62 j (by decide)
  rw [e, rl_x.1]
theorem rl_3 {l p m : Int} : m_bytes (m_rl3 g x l) x p m = m_ba (cq_I g (x + 62)) (100 * l + p) m.toNat 0 (Int64.ofInt 0) := by
  unfold m_bytes
  have e : cq_I (m_rl3 g x l) (x + 62) = cq_I g (x + 62) := by
    funext j
    unfold m_rl3 m_rl1
    simp only [mm_sI, mm_sJ, mm_sA, mm_IJ, mm_IA, mm_JI, mm_JA, mm_AI, mm_AJ, mm_ssI, mm_ssJ, mm_ssA, mm_zI, mm_zJ, mm_zA, mm_nI, mm_nJ, mm_nA, Nat.left_eq_add, Nat.add_eq_left, Nat.add_left_cancel_iff, Nat.reduceEqDiff, Int.reduceEq, false_and, and_false, if_false, if_true, and_self, true_and, true_or, or_true, false_or, or_false]
  have e2 : cq_I (m_rl3 g x l) x 77 = 100 * l := by
    unfold m_rl3 m_rl1
    simp only [mm_sI, mm_sJ, mm_sA, mm_IJ, mm_IA, mm_JI, mm_JA, mm_AI, mm_AJ, mm_ssI, mm_ssJ, mm_ssA, mm_zI, mm_zJ, mm_zA, mm_nI, mm_nJ, mm_nA, Nat.left_eq_add, Nat.add_eq_left, Nat.add_left_cancel_iff, Nat.reduceEqDiff, Int.reduceEq, false_and, and_false, if_false, if_true, and_self, true_and, true_or, or_true, false_or, or_false]
  rw [e, e2]
theorem rl_v {l : Int} : cq_J (m_rl g x l) x 79 = m_ba (cq_I g (x + 62)) (100 * l + m_hd g x l) 8 0 (Int64.ofInt 0) ∧ cq_I (m_rl g x l) x 80 = (m_ba (cq_I g (x + 62)) (100 * l + (m_hd g x l + 8)) 2 0 (Int64.ofInt 0)).toInt32.toInt ∧ cq_I (m_rl g x l) x 81 = (m_ba (cq_I g (x + 62)) (100 * l + (m_hd g x l + 10)) 2 0 (Int64.ofInt 0)).toInt32.toInt := by
  have a := rl_3 (g := g) (x := x) (l := l) (p := m_hd g x l) (m := 8)
  have b := rl_3 (g := g) (x := x) (l := l) (p := m_hd g x l + 8) (m := 2)
  have c := rl_3 (g := g) (x := x) (l := l) (p := m_hd g x l + 10) (m := 2)
  unfold m_rl m_rl4
  refine ⟨?_, ?_, ?_⟩
  · simp only [mm_sI, mm_sJ, mm_sA, mm_IJ, mm_IA, mm_JI, mm_JA, mm_AI, mm_AJ, mm_ssI, mm_ssJ, mm_ssA, mm_zI, mm_zJ, mm_zA, mm_nI, mm_nJ, mm_nA, Nat.left_eq_add, Nat.add_eq_left, Nat.add_left_cancel_iff, Nat.reduceEqDiff, Int.reduceEq, false_and, and_false, if_false, if_true, and_self, true_and, true_or, or_true, false_or, or_false]; exact a
  · simp only [mm_sI, mm_sJ, mm_sA, mm_IJ, mm_IA, mm_JI, mm_JA, mm_AI, mm_AJ, mm_ssI, mm_ssJ, mm_ssA, mm_zI, mm_zJ, mm_zA, mm_nI, mm_nJ, mm_nA, Nat.left_eq_add, Nat.add_eq_left, Nat.add_left_cancel_iff, Nat.reduceEqDiff, Int.reduceEq, false_and, and_false, if_false, if_true, and_self, true_and, true_or, or_true, false_or, or_false]; rw [b]; rfl
  · simp only [mm_sI, mm_sJ, mm_sA, mm_IJ, mm_IA, mm_JI, mm_JA, mm_AI, mm_AJ, mm_ssI, mm_ssJ, mm_ssA, mm_zI, mm_zJ, mm_zA, mm_nI, mm_nJ, mm_nA, Nat.left_eq_add, Nat.add_eq_left, Nat.add_left_cancel_iff, Nat.reduceEqDiff, Int.reduceEq, false_and, and_false, if_false, if_true, and_self, true_and, true_or, or_true, false_or, or_false]; rw [c]; rfl
theorem ba_2 {f : Int → Int} {p : Int} (h1 : 0 ≤ f p ∧ f p ≤ 255) (h2 : 0 ≤ f (p + 1) ∧ f (p + 1) ≤ 255) : (m_ba f p 2 0 (Int64.ofInt 0)).toInt32.toInt = 256 * f p + f (p + 1) := bF_2 h1 h2
/-- such a row of bytes, from one user to u -/
theorem door_ok {a : Nat} {l u : Int} {f : Int → Int} (F : FL x a l h g) (hf : bfP h (a + 1) f) (h8 : ∀ k, 0 ≤ k → 0 ≤ f k ∧ f k ≤ 255) : (apK f (cq_z h (a + 1)) ∧ ((0 ≤ f 1 ∧ f 1 < cq_I g x 0) ∧ (0 ≤ f 2 ∧ f 2 < cq_I g x 0) ∧ f 1 ≠ f 2) ∧ f 2 = u) ↔ m_rlOk g x l u := by
  have ez := F.sz
  have zr := F.zr
  have fb : ∀ k, 0 ≤ k → k < cq_I g (x + 63) l → f k = cq_I g (x + 62) (100 * l + k) := fun k k0 k1 => by
    rw [hf k k0, if_pos (by omega)]
    exact F.by_ k k0 k1
  have o0 := h8 0 (by omega)
  have o1 := h8 1 (by omega)
  have o2 := h8 2 (by omega)
  rw [ez]
  unfold apK apR m_rlOk
  constructor
  · intro ⟨⟨k1, k2, k3, k4⟩, ⟨k5, k6, k7⟩, k8⟩
    have hr : hdF f = 3 ∨ hdF f = 23 := by unfold hdF; split <;> omega
    have e0 := fb 0 (by omega) (by omega)
    have e1 := fb 1 (by omega) (by omega)
    have e2 := fb 2 (by omega) (by omega)
    have e12 := fb (hdF f + 12) (by omega) (by omega)
    rw [Int.add_zero] at e0
    have eh : m_hd g x l = hdF f := by unfold m_hd hdF; rw [e0]
    rw [eh, ← e0, ← e1, ← e2]
    have ea : 100 * l + hdF f + 12 = 100 * l + (hdF f + 12) := by omega
    rw [ea, ← e12]
    refine ⟨by omega, by omega, by omega, by omega, k5.2, k6.2, k7, k8⟩
  · intro ⟨k1, k2, k3, k4, k5, k6, k7, k8⟩
    have hr : m_hd g x l = 3 ∨ m_hd g x l = 23 := by unfold m_hd; split <;> omega
    have e0 := fb 0 (by omega) (by omega)
    have e1 := fb 1 (by omega) (by omega)
    have e2 := fb 2 (by omega) (by omega)
    have e12 := fb (m_hd g x l + 12) (by omega) (by omega)
    rw [Int.add_zero] at e0
    have eh : hdF f = m_hd g x l := by unfold m_hd hdF; rw [e0]
    have ea : 100 * l + m_hd g x l + 12 = 100 * l + (m_hd g x l + 12) := by omega
    rw [ea, ← e12] at k3 k4
    rw [← e0] at k1
    rw [← e1] at k5 k7
    rw [← e2] at k6 k7 k8
    rw [eh]
    exact ⟨⟨by omega, k3.1, k3.2, k4⟩, ⟨⟨o1.1, k5⟩, ⟨o2.1, k6⟩, k7⟩, k8⟩
/-- the envelope and what the reference read -/
theorem er_mk {a e : Nat} {l : Int} {f : Int → Int} (F : FL x a l h g) (hf : bfP h (a + 1) f) (h8 : ∀ k, 0 ≤ k → 0 ≤ f k ∧ f k ≤ 255) (ok : apK f (cq_z h (a + 1))) (se : cq_s h e = 0) (ne : ¬ a + 1 = e) (X : apX e h h') (W : apW e (a + 1) h h' f) : ER x e (a + 1) l h' (m_rl g x l) := by
  have ez := F.sz
  have zr := F.zr
  obtain ⟨k1, k2, k3, k4⟩ := ok
  rw [ez] at k4
  have hr : hdF f = 3 ∨ hdF f = 23 := by unfold hdF; split <;> omega
  have fb : ∀ k, 0 ≤ k → k < cq_I g (x + 63) l → f k = cq_I g (x + 62) (100 * l + k) := fun k k0 k1 => by
    rw [hf k k0, if_pos (by omega)]
    exact F.by_ k k0 k1
  have e0 := fb 0 (by omega) (by omega)
  rw [Int.add_zero] at e0
  have eh : m_hd g x l = hdF f := by unfold m_hd hdF; rw [e0]
  obtain ⟨x77, x78, x82, x83, xo⟩ := rl_x (g := g) (x := x) (l := l)
  obtain ⟨x79, x80, x81⟩ := rl_v (g := g) (x := x) (l := l)
  have x62 : cq_I (m_rl g x l) (x + 62) = cq_I g (x + 62) := funext fun j => xo 62 j (by decide)
  have bf : ∀ {p : Int} {m : Nat}, 0 ≤ p → p + m ≤ cq_I g (x + 63) l → m_ba f p m 0 (Int64.ofInt 0) = m_ba (cq_I g (x + 62)) (100 * l + p) m 0 (Int64.ofInt 0) := fun {p m} p0 p1 => m_ba_c (fun i i0 i1 => by rw [fb (p + i) (by omega) (by omega), Int.add_assoc])
  have b2 : ∀ {p : Int}, 0 ≤ p → p + 2 ≤ cq_I g (x + 63) l → 256 * f p + f (p + 1) = (m_ba (cq_I g (x + 62)) (100 * l + p) 2 0 (Int64.ofInt 0)).toInt32.toInt := fun {p} p0 p1 => by
    rw [← bf (p := p) (m := 2) p0 (by omega)]
    exact (ba_2 (h8 p p0) (h8 (p + 1) (by omega))).symm
  obtain ⟨w0, w2, w3, w4, w5, v9, v10, v11, v12, v13, v14, v15⟩ := W
  have ea : 100 * l + hdF f + 12 = 100 * l + (hdF f + 12) := by omega
  have e12 := fb (hdF f + 12) (by omega) (by omega)
  rw [eh] at x79 x80 x81 x82 x83
  rw [ea, ← e12] at x83
  have bI : cq_I h' (a + 1) = cq_I h (a + 1) := (X.2.2.2 (a + 1) ne).1
  refine ⟨by rw [X.2.1]; exact se, by rw [X.2.1]; exact F.s1, w0, by rw [X.2.2.1, x78]; exact ez, fun k q0 q1 => ?_, x77, by rw [w2, x62, ← e0], by rw [w3, x62]; exact fb 1 (by omega) (by omega), by rw [w4, x62]; exact fb 2 (by omega) (by omega), fun q => ?_, ?_, ?_, ?_, by rw [v12, x83], by rw [v13, x82], by rw [x82, x83, x78]; omega, by rw [x83]; omega, ?_, ?_⟩
  · rw [x78] at q1
    rw [bI, x62]
    exact F.by_ k q0 q1
  · rw [x62, ← e0] at q
    have hd : hdF f = 23 := by unfold hdF; rw [if_pos q]
    obtain ⟨y1, y2, y3, y4⟩ := w5 q
    rw [rl_b, rl_b, rl_b, rl_b]
    refine ⟨?_, ?_, ?_, ?_⟩
    · rw [y1]; exact bf (p := 3) (m := 8) (by decide) (by omega)
    · rw [y2]; exact bf (p := 11) (m := 8) (by decide) (by omega)
    · rw [y3]; exact b2 (p := 19) (by decide) (by omega)
    · rw [y4]; exact b2 (p := 21) (by decide) (by omega)
  · rw [v9, x79]
    exact bf (m := 8) (by omega) (by omega)
  · rw [v10, x80]
    have := b2 (p := hdF f + 8) (by omega) (by omega)
    rw [← this]
    have e9 : hdF f + 8 + 1 = hdF f + 9 := by omega
    rw [e9]
  · rw [v11, x81]
    have := b2 (p := hdF f + 10) (by omega) (by omega)
    rw [← this]
    have e9 : hdF f + 10 + 1 = hdF f + 11 := by omega
    rw [e9]
  · have e8 : cq_I g (x + 63) l - 8 = hdF f + 13 + f (hdF f + 12) := by omega
    rw [v14, x62, x78, e8]
    exact m_sb_c (fun i i0 i1 => by rw [Int.zero_add]; exact F.by_ i i0 (by omega))
  · have e8 : cq_I g (x + 63) l - 8 = hdF f + 13 + f (hdF f + 12) := by omega
    rw [v15, rl_b, x78, e8]
    exact bf (m := 8) (by omega) (by omega)
end
