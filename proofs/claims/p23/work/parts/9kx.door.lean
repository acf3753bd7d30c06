/-! class and reference side by side: a letter is taken apart -/
theorem m_ba_s' {f : Int → Int} {b : Int} {n : Nat} {k : Int} {a : Int64} : m_ba f b (n + 1) k a = m_ba f b n (k + 1) (cx_lsl a (Int32.ofInt 8) ||| Int64.ofInt (f (b + k))) := by
  unfold m_ba
  rw [m_fold]
theorem m_ba_c {f f' : Int → Int} {b b' : Int} : ∀ {r : Nat} {k : Int} {a : Int64}, (∀ i, k ≤ i → i < k + r → f (b + i) = f' (b' + i)) → m_ba f b r k a = m_ba f' b' r k a := by
  intro r
  induction r with
  | zero =>
    intro k a _
    unfold m_ba
    rw [m_fold, m_fold]
  | succ r ih =>
    intro k a h
    rw [m_ba_s', m_ba_s', h k (Int.le_refl _) (by omega)]
    exact ih (fun i i0 i1 => h i (by omega) (by omega))
/-- what is told of an envelope: e its cell, b the letter's bytes; g the reference behind its reading of letter l -/
def ER (x e b : Nat) (l : Int) (h g : cx_Q) : Prop := (cq_s h e = 0) ∧ (cq_s h b = 100) ∧ (cq_A h e 0 = some b) ∧ (cq_z h b = cq_I g x 78) ∧ (∀ k, 0 ≤ k → k < cq_I g x 78 → cq_I h b k = cq_I g (x + 62) (100 * l + k)) ∧ (cq_I g x 77 = 100 * l) ∧ (cq_I h e 2 = if cq_I g (x + 62) (100 * l) = 1 then 1 else 0) ∧ (cq_I h e 3 = cq_I g (x + 62) (100 * l + 1)) ∧ (cq_I h e 4 = cq_I g (x + 62) (100 * l + 2)) ∧ (cq_I g (x + 62) (100 * l) = 1 → cq_J h e 5 = m_bytes g x 3 8 ∧ cq_J h e 6 = m_bytes g x 11 8 ∧ cq_I h e 7 = (m_bytes g x 19 2).toInt32.toInt ∧ cq_I h e 8 = (m_bytes g x 21 2).toInt32.toInt) ∧ (cq_J h e 9 = cq_J g x 79) ∧ (cq_I h e 10 = cq_I g x 80) ∧ (cq_I h e 11 = cq_I g x 81) ∧ (cq_I h e 12 = cq_I g x 83) ∧ (cq_I h e 13 = cq_I g x 82) ∧ (cq_I g x 82 + cq_I g x 83 + 8 = cq_I g x 78) ∧ (1 ≤ cq_I g x 83 ∧ cq_I g x 83 ≤ 40) ∧ (cq_J h e 14 = m_sb (cq_I g (x + 62)) (100 * l) (cq_I g x 78 - 8).toNat 0 (Int64.ofInt 0)) ∧ (cq_J h e 15 = m_bytes g x (cq_I g x 78 - 8) 8)
theorem ER.s0 {x e b : Nat} {l : Int} {h g : cx_Q} (F_ : ER x e b l h g) : cq_s h e = 0 := F_.1
theorem ER.sb {x e b : Nat} {l : Int} {h g : cx_Q} (F_ : ER x e b l h g) : cq_s h b = 100 := F_.2.1
theorem ER.eb {x e b : Nat} {l : Int} {h g : cx_Q} (F_ : ER x e b l h g) : cq_A h e 0 = some b := F_.2.2.1
theorem ER.zb {x e b : Nat} {l : Int} {h g : cx_Q} (F_ : ER x e b l h g) : cq_z h b = cq_I g x 78 := F_.2.2.2.1
theorem ER.bb {x e b : Nat} {l : Int} {h g : cx_Q} (F_ : ER x e b l h g) : ∀ k, 0 ≤ k → k < cq_I g x 78 → cq_I h b k = cq_I g (x + 62) (100 * l + k) := F_.2.2.2.2.1
theorem ER.i77 {x e b : Nat} {l : Int} {h g : cx_Q} (F_ : ER x e b l h g) : cq_I g x 77 = 100 * l := F_.2.2.2.2.2.1
theorem ER.bg {x e b : Nat} {l : Int} {h g : cx_Q} (F_ : ER x e b l h g) : cq_I h e 2 = if cq_I g (x + 62) (100 * l) = 1 then 1 else 0 := F_.2.2.2.2.2.2.1
theorem ER.fr {x e b : Nat} {l : Int} {h g : cx_Q} (F_ : ER x e b l h g) : cq_I h e 3 = cq_I g (x + 62) (100 * l + 1) := F_.2.2.2.2.2.2.2.1
theorem ER.tt {x e b : Nat} {l : Int} {h g : cx_Q} (F_ : ER x e b l h g) : cq_I h e 4 = cq_I g (x + 62) (100 * l + 2) := F_.2.2.2.2.2.2.2.2.1
theorem ER.nb {x e b : Nat} {l : Int} {h g : cx_Q} (F_ : ER x e b l h g) : cq_I g (x + 62) (100 * l) = 1 → cq_J h e 5 = m_bytes g x 3 8 ∧ cq_J h e 6 = m_bytes g x 11 8 ∧ cq_I h e 7 = (m_bytes g x 19 2).toInt32.toInt ∧ cq_I h e 8 = (m_bytes g x 21 2).toInt32.toInt := F_.2.2.2.2.2.2.2.2.2.1
theorem ER.op {x e b : Nat} {l : Int} {h g : cx_Q} (F_ : ER x e b l h g) : cq_J h e 9 = cq_J g x 79 := F_.2.2.2.2.2.2.2.2.2.2.1
theorem ER.pn {x e b : Nat} {l : Int} {h g : cx_Q} (F_ : ER x e b l h g) : cq_I h e 10 = cq_I g x 80 := F_.2.2.2.2.2.2.2.2.2.2.2.1
theorem ER.pl {x e b : Nat} {l : Int} {h g : cx_Q} (F_ : ER x e b l h g) : cq_I h e 11 = cq_I g x 81 := F_.2.2.2.2.2.2.2.2.2.2.2.2.1
theorem ER.tl {x e b : Nat} {l : Int} {h g : cx_Q} (F_ : ER x e b l h g) : cq_I h e 12 = cq_I g x 83 := F_.2.2.2.2.2.2.2.2.2.2.2.2.2.1
theorem ER.ta {x e b : Nat} {l : Int} {h g : cx_Q} (F_ : ER x e b l h g) : cq_I h e 13 = cq_I g x 82 := F_.2.2.2.2.2.2.2.2.2.2.2.2.2.2.1
theorem ER.tz {x e b : Nat} {l : Int} {h g : cx_Q} (F_ : ER x e b l h g) : cq_I g x 82 + cq_I g x 83 + 8 = cq_I g x 78 := F_.2.2.2.2.2.2.2.2.2.2.2.2.2.2.2.1
theorem ER.t1 {x e b : Nat} {l : Int} {h g : cx_Q} (F_ : ER x e b l h g) : 1 ≤ cq_I g x 83 ∧ cq_I g x 83 ≤ 40 := F_.2.2.2.2.2.2.2.2.2.2.2.2.2.2.2.2.1
theorem ER.sm {x e b : Nat} {l : Int} {h g : cx_Q} (F_ : ER x e b l h g) : cq_J h e 14 = m_sb (cq_I g (x + 62)) (100 * l) (cq_I g x 78 - 8).toNat 0 (Int64.ofInt 0) := F_.2.2.2.2.2.2.2.2.2.2.2.2.2.2.2.2.2.1
theorem ER.tg {x e b : Nat} {l : Int} {h g : cx_Q} (F_ : ER x e b l h g) : cq_J h e 15 = m_bytes g x (cq_I g x 78 - 8) 8 := F_.2.2.2.2.2.2.2.2.2.2.2.2.2.2.2.2.2.2
section
variable {x : Nat} {h h' g : cx_Q}
theorem rl_x {l : Int} : cq_I (m_rl g x l) x 77 = 100 * l ∧ cq_I (m_rl g x l) x 78 = cq_I g (x + 63) l ∧ cq_I (m_rl g x l) x 82 = m_hd g x l + 13 ∧ cq_I (m_rl g x l) x 83 = cq_I g (x + 62) (100 * l + m_hd g x l + 12) ∧ (∀ o j, 1 ≤ o → cq_I (m_rl g x l) (x + o) j = cq_I g (x + o) j) := by
  unfold m_rl m_rl4 m_rl3 m_rl1
  refine ⟨?_, ?_, ?_, ?_, fun o j ho => ?_⟩
  · simp only [mm_sI, mm_sJ, mm_sA, mm_IJ, mm_IA, mm_JI, mm_JA, mm_AI, mm_AJ, mm_ssI, mm_ssJ, mm_ssA, mm_zI, mm_zJ, mm_zA, mm_nI, mm_nJ, mm_nA, Nat.left_eq_add, Nat.add_eq_left, Nat.add_left_cancel_iff, Nat.reduceEqDiff, Int.reduceEq, false_and, and_false, if_false, if_true, and_self, true_and, true_or, or_true, false_or, or_false]
  · simp only [mm_sI, mm_sJ, mm_sA, mm_IJ, mm_IA, mm_JI, mm_JA, mm_AI, mm_AJ, mm_ssI, mm_ssJ, mm_ssA, mm_zI, mm_zJ, mm_zA, mm_nI, mm_nJ, mm_nA, Nat.left_eq_add, Nat.add_eq_left, Nat.add_left_cancel_iff, Nat.reduceEqDiff, Int.reduceEq, false_and, and_false, if_false, if_true, and_self, true_and, true_or, or_true, false_or, or_false]
  · simp only [mm_sI, mm_sJ, mm_sA, mm_IJ, mm_IA, mm_JI, mm_JA, mm_AI, mm_AJ, mm_ssI, mm_ssJ, mm_ssA, mm_zI, mm_zJ, mm_zA, mm_nI, mm_nJ, mm_nA, Nat.left_eq_add, Nat.add_eq_left, Nat.add_left_cancel_iff, Nat.reduceEqDiff, Int.reduceEq, false_and, and_false, if_false, if_true, and_self, true_and, true_or, or_true, false_or, or_false]
  · simp only [mm_sI, mm_sJ, mm_sA, mm_IJ, mm_IA, mm_JI, mm_JA, mm_AI, mm_AJ, mm_ssI, mm_ssJ, mm_ssA, mm_zI, mm_zJ, mm_zA, mm_nI, mm_nJ, mm_nA, Nat.left_eq_add, Nat.add_eq_left, Nat.add_left_cancel_iff, Nat.reduceEqDiff, Int.reduceEq, false_and, and_false, if_false, if_true, and_self, true_and, true_or, or_true, false_or, or_false]
  · have n : ¬ x + o = x := by omega
    simp only [mm_sI, mm_sJ, mm_sA, mm_IJ, mm_IA, mm_JI, mm_JA, mm_AI, mm_AJ, mm_ssI, mm_ssJ, mm_ssA, mm_zI, mm_zJ, mm_zA, mm_nI, mm_nJ, mm_nA, n, Nat.left_eq_add, Nat.add_eq_left, Nat.add_left_cancel_iff, Nat.reduceEqDiff, Int.reduceEq, false_and, and_false, if_false, if_true, and_self, true_and, true_or, or_true, false_or, or_false]
theorem rl_b {l p m : Int} : m_bytes (m_rl g x l) x p m = m_ba (cq_I g (x + 62)) (100 * l + p) m.toNat 0 (Int64.ofInt 0) := by
  unfold m_bytes
  have e : cq_I (m_rl g x l) (x + 62) = cq_I g (x + 62) := funext fun j => rl_x.2.2.2.2 62 j (by decide)
  rw [e, rl_x.1]
theorem rl_3 {l p m : Int} : m_bytes (m_rl3 g x l) x p m = m_ba (cq_I g (x + 62)) (100 * l + p) m.toNat 0 (Int64.ofInt 0) := by
  unfold m_bytes
  have e : cq_I (m_rl3 g x l) (x + 62) = cq_I g (x + 62) := by
    funext j
    unfold m_rl3 m_rl1
    simp only [mm_sI, mm_sJ, mm_sA, mm_IJ, mm_IA, mm_JI, mm_JA, mm_AI, mm_AJ, mm_ssI, mm_ssJ, mm_ssA, mm_zI, mm_zJ, mm_zA, mm_nI, mm_nJ, mm_nA, Nat.left_eq_add, Nat.add_eq_left, Nat.add_left_cancel_iff, Nat.reduceEqDiff, Int.reduceEq, false_and, and_false, if_false, if_true, and_self, true_and, true_or, or_true, false_or, or_false]
  have e2 : cq_I (m_rl3 g x l) x 77 = 100 * l := by
    unfold m_rl3 m_rl1
    simp only [mm_sI, mm_sJ, mm_sA, mm_IJ, mm_IA, mm_JI, mm_JA, mm_AI, mm_AJ, mm_ssI, mm_ssJ, mm_ssA, mm_zI, mm_zJ, mm_zA, mm_nI, mm_nJ, mm_nA, Nat.left_eq_add, Nat.add_eq_left, Nat.add_left_cancel_iff, Nat.reduceEqDiff, Int.reduceEq, false_and, and_false, if_false, if_true, and_self, true_and, true_or, or_true, false_or, or_false]
  rw [e, e2]
theorem rl_v {l : Int} : cq_J (m_rl g x l) x 79 = m_ba (cq_I g (x + 62)) (100 * l + m_hd g x l) 8 0 (Int64.ofInt 0) ∧ cq_I (m_rl g x l) x 80 = (m_ba (cq_I g (x + 62)) (100 * l + (m_hd g x l + 8)) 2 0 (Int64.ofInt 0)).toInt32.toInt ∧ cq_I (m_rl g x l) x 81 = (m_ba (cq_I g (x + 62)) (100 * l + (m_hd g x l + 10)) 2 0 (Int64.ofInt 0)).toInt32.toInt := by
  have a := rl_3 (g := g) (x := x) (l := l) (p := m_hd g x l) (m := 8)
  have b := rl_3 (g := g) (x := x) (l := l) (p := m_hd g x l + 8) (m := 2)
  have c := rl_3 (g := g) (x := x) (l := l) (p := m_hd g x l + 10) (m := 2)
  unfold m_rl m_rl4
  refine ⟨?_, ?_, ?_⟩
  · simp only [mm_sI, mm_sJ, mm_sA, mm_IJ, mm_IA, mm_JI, mm_JA, mm_AI, mm_AJ, mm_ssI, mm_ssJ, mm_ssA, mm_zI, mm_zJ, mm_zA, mm_nI, mm_nJ, mm_nA, Nat.left_eq_add, Nat.add_eq_left, Nat.add_left_cancel_iff, Nat.reduceEqDiff, Int.reduceEq, false_and, and_false, if_false, if_true, and_self, true_and, true_or, or_true, false_or, or_false]; exact a
  · simp only [mm_sI, mm_sJ, mm_sA, mm_IJ, mm_IA, mm_JI, mm_JA, mm_AI, mm_AJ, mm_ssI, mm_ssJ, mm_ssA, mm_zI, mm_zJ, mm_zA, mm_nI, mm_nJ, mm_nA, Nat.left_eq_add, Nat.add_eq_left, Nat.add_left_cancel_iff, Nat.reduceEqDiff, Int.reduceEq, false_and, and_false, if_false, if_true, and_self, true_and, true_or, or_true, false_or, or_false]; rw [b]; rfl
  · simp only [mm_sI, mm_sJ, mm_sA, mm_IJ, mm_IA, mm_JI, mm_JA, mm_AI, mm_AJ, mm_ssI, mm_ssJ, mm_ssA, mm_zI, mm_zJ, mm_zA, mm_nI, mm_nJ, mm_nA, Nat.left_eq_add, Nat.add_eq_left, Nat.add_left_cancel_iff, Nat.reduceEqDiff, Int.reduceEq, false_and, and_false, if_false, if_true, and_self, true_and, true_or, or_true, false_or, or_false]; rw [c]; rfl
theorem ba_2 {f : Int → Int} {p : Int} (h1 : 0 ≤ f p ∧ f p ≤ 255) (h2 : 0 ≤ f (p + 1) ∧ f (p + 1) ≤ 255) : (m_ba f p 2 0 (Int64.ofInt 0)).toInt32.toInt = 256 * f p + f (p + 1) := bF_2 h1 h2
/-- such a row of bytes, from one user to u -/
theorem door_ok {a : Nat} {l u : Int} {f : Int → Int} (F : FL x a l h g) (hf : bfP h (a + 1) f) (h8 : ∀ k, 0 ≤ k → 0 ≤ f k ∧ f k ≤ 255) : (apK f (cq_z h (a + 1)) ∧ ((0 ≤ f 1 ∧ f 1 < cq_I g x 0) ∧ (0 ≤ f 2 ∧ f 2 < cq_I g x 0) ∧ f 1 ≠ f 2) ∧ f 2 = u) ↔ m_rlOk g x l u := by
  have ez := F.sz
  have zr := F.zr
  have fb : ∀ k, 0 ≤ k → k < cq_I g (x + 63) l → f k = cq_I g (x + 62) (100 * l + k) := fun k k0 k1 => by
    rw [hf k k0, if_pos (by omega)]
    exact F.by_ k k0 k1
  have o0 := h8 0 (by omega)
  have o1 := h8 1 (by omega)
  have o2 := h8 2 (by omega)
  rw [ez]
  unfold apK apR m_rlOk
  constructor
  · intro ⟨⟨k1, k2, k3, k4⟩, ⟨k5, k6, k7⟩, k8⟩
    have hr : hdF f = 3 ∨ hdF f = 23 := by unfold hdF; split <;> omega
    have e0 := fb 0 (by omega) (by omega)
    have e1 := fb 1 (by omega) (by omega)
    have e2 := fb 2 (by omega) (by omega)
    have e12 := fb (hdF f + 12) (by omega) (by omega)
    rw [Int.add_zero] at e0
    have eh : m_hd g x l = hdF f := by unfold m_hd hdF; rw [e0]
    rw [eh, ← e0, ← e1, ← e2]
    have ea : 100 * l + hdF f + 12 = 100 * l + (hdF f + 12) := by omega
    rw [ea, ← e12]
    refine ⟨by omega, by omega, by omega, by omega, k5.2, k6.2, k7, k8⟩
  · intro ⟨k1, k2, k3, k4, k5, k6, k7, k8⟩
    have hr : m_hd g x l = 3 ∨ m_hd g x l = 23 := by unfold m_hd; split <;> omega
    have e0 := fb 0 (by omega) (by omega)
    have e1 := fb 1 (by omega) (by omega)
    have e2 := fb 2 (by omega) (by omega)
    have e12 := fb (m_hd g x l + 12) (by omega) (by omega)
    rw [Int.add_zero] at e0
    have eh : hdF f = m_hd g x l := by unfold m_hd hdF; rw [e0]
    have ea : 100 * l + m_hd g x l + 12 = 100 * l + (m_hd g x l + 12) := by omega
    rw [ea, ← e12] at k3 k4
    rw [← e0] at k1
    rw [← e1] at k5 k7
    rw [← e2] at k6 k7 k8
    rw [eh]
    exact ⟨⟨by omega, k3.1, k3.2, k4⟩, ⟨⟨o1.1, k5⟩, ⟨o2.1, k6⟩, k7⟩, k8⟩
/-- the envelope and what the reference read -/
theorem er_mk {a e : Nat} {l : Int} {f : Int → Int} (F : FL x a l h g) (hf : bfP h (a + 1) f) (h8 : ∀ k, 0 ≤ k → 0 ≤ f k ∧ f k ≤ 255) (ok : apK f (cq_z h (a + 1))) (se : cq_s h e = 0) (ne : ¬ a + 1 = e) (X : apX e h h') (W : apW e (a + 1) h h' f) : ER x e (a + 1) l h' (m_rl g x l) := by
  have ez := F.sz
  have zr := F.zr
  obtain ⟨k1, k2, k3, k4⟩ := ok
  rw [ez] at k4
  have hr : hdF f = 3 ∨ hdF f = 23 := by unfold hdF; split <;> omega
  have fb : ∀ k, 0 ≤ k → k < cq_I g (x + 63) l → f k = cq_I g (x + 62) (100 * l + k) := fun k k0 k1 => by
    rw [hf k k0, if_pos (by omega)]
    exact F.by_ k k0 k1
  have e0 := fb 0 (by omega) (by omega)
  rw [Int.add_zero] at e0
  have eh : m_hd g x l = hdF f := by unfold m_hd hdF; rw [e0]
  obtain ⟨x77, x78, x82, x83, xo⟩ := rl_x (g := g) (x := x) (l := l)
  obtain ⟨x79, x80, x81⟩ := rl_v (g := g) (x := x) (l := l)
  have x62 : cq_I (m_rl g x l) (x + 62) = cq_I g (x + 62) := funext fun j => xo 62 j (by decide)
  have bf : ∀ {p : Int} {m : Nat}, 0 ≤ p → p + m ≤ cq_I g (x + 63) l → m_ba f p m 0 (Int64.ofInt 0) = m_ba (cq_I g (x + 62)) (100 * l + p) m 0 (Int64.ofInt 0) := fun {p m} p0 p1 => m_ba_c (fun i i0 i1 => by rw [fb (p + i) (by omega) (by omega), Int.add_assoc])
  have b2 : ∀ {p : Int}, 0 ≤ p → p + 2 ≤ cq_I g (x + 63) l → 256 * f p + f (p + 1) = (m_ba (cq_I g (x + 62)) (100 * l + p) 2 0 (Int64.ofInt 0)).toInt32.toInt := fun {p} p0 p1 => by
    rw [← bf (p := p) (m := 2) p0 (by omega)]
    exact (ba_2 (h8 p p0) (h8 (p + 1) (by omega))).symm
  obtain ⟨w0, w2, w3, w4, w5, v9, v10, v11, v12, v13, v14, v15⟩ := W
  have ea : 100 * l + hdF f + 12 = 100 * l + (hdF f + 12) := by omega
  have e12 := fb (hdF f + 12) (by omega) (by omega)
  rw [eh] at x79 x80 x81 x82 x83
  rw [ea, ← e12] at x83
  have bI : cq_I h' (a + 1) = cq_I h (a + 1) := (X.2.2.2 (a + 1) ne).1
  refine ⟨by rw [X.2.1]; exact se, by rw [X.2.1]; exact F.s1, w0, by rw [X.2.2.1, x78]; exact ez, fun k q0 q1 => ?_, x77, by rw [w2, x62, ← e0], by rw [w3, x62]; exact fb 1 (by omega) (by omega), by rw [w4, x62]; exact fb 2 (by omega) (by omega), fun q => ?_, ?_, ?_, ?_, by rw [v12, x83], by rw [v13, x82], by rw [x82, x83, x78]; omega, by rw [x83]; omega, ?_, ?_⟩
  · rw [x78] at q1
    rw [bI, x62]
    exact F.by_ k q0 q1
  · rw [x62, ← e0] at q
    have hd : hdF f = 23 := by unfold hdF; rw [if_pos q]
    obtain ⟨y1, y2, y3, y4⟩ := w5 q
    rw [rl_b, rl_b, rl_b, rl_b]
    refine ⟨?_, ?_, ?_, ?_⟩
    · rw [y1]; exact bf (p := 3) (m := 8) (by decide) (by omega)
    · rw [y2]; exact bf (p := 11) (m := 8) (by decide) (by omega)
    · rw [y3]; exact b2 (p := 19) (by decide) (by omega)
    · rw [y4]; exact b2 (p := 21) (by decide) (by omega)
  · rw [v9, x79]
    exact bf (m := 8) (by omega) (by omega)
  · rw [v10, x80]
    have := b2 (p := hdF f + 8) (by omega) (by omega)
    rw [← this]
    have e9 : hdF f + 8 + 1 = hdF f + 9 := by omega
    rw [e9]
  · rw [v11, x81]
    have := b2 (p := hdF f + 10) (by omega) (by omega)
    rw [← this]
    have e9 : hdF f + 10 + 1 = hdF f + 11 := by omega
    rw [e9]
  · have e8 : cq_I g (x + 63) l - 8 = hdF f + 13 + f (hdF f + 12) := by omega
    rw [v14, x62, x78, e8]
    exact m_sb_c (fun i i0 i1 => by rw [Int.zero_add]; exact F.by_ i i0 (by omega))
  · have e8 : cq_I g (x + 63) l - 8 = hdF f + 13 + f (hdF f + 12) := by omega
    rw [v15, rl_b, x78, e8]
    exact bf (m := 8) (by omega) (by omega)
end
/-! class and reference side by side: whether a letter can be opened in a SESSION -/
theorem chn_nx : ∀ {n : Nat} {k : Int} {a : Int64}, m_chn n k a = nxI n a := by
  intro n
  induction n with
  | zero =>
    intro k a
    rw [m_chn_0, nxI_0]
  | succ n ih =>
    intro k a
    rw [m_chn_s, ih]
    unfold nxI
    rw [itN_t]
    rfl
theorem ka_c {fo fo' : Int → Int64} {fp fp' : Int → Int} {o : Int64} {p b b' : Int} : ∀ {n : Nat} {k : Int}, (∀ i, k ≤ i → i < k + n → fo (b + i) = fo' (b' + i) ∧ fp (b + i) = fp' (b' + i)) → m_ka fo fp o p b n k = m_ka fo' fp' o p b' n k := by
  intro n
  induction n with
  | zero =>
    intro k _
    rw [m_ka, m_ka]
  | succ n ih =>
    intro k e
    have e0 := e k (Int.le_refl _) (by omega)
    rw [m_ka, m_ka, e0.1, e0.2, ih (fun i i0 i1 => e i (by omega) (by omega))]
section
variable {x a e b : Nat} {l s : Int} {h g : cx_Q}
theorem pl_t (S : SR0 x a s h g) (R : ER x e b l h g) : cT (cq_I h a 15) (cq_J h e 9) (cq_J h a 13) = m_tn g x s := by
  unfold cT m_tn
  rw [S.ho, R.op, S.ot]
theorem tn_01 : m_tn g x s = 0 ∨ m_tn g x s = 1 := by
  unfold m_tn
  split
  · exact Or.inr rfl
  · exact Or.inl rfl
theorem pl_kf (S : SR0 x a s h g) (R : ER x e b l h g) : kfi h (a + 2) (a + 3) (cq_J h e 9) (cq_I h e 11) (cq_I h (a + 1) 4).toNat 0 = if m_keptAt g x s = -2 then -1 else m_keptAt g x s := by
  have k20 := S.k20
  have e1 : m_ka (cq_J h (a + 2)) (cq_I h (a + 3)) (cq_J h e 9) (cq_I h e 11) 0 (cq_I h (a + 1) 4).toNat 0 = m_keptAt g x s := by
    unfold m_keptAt
    rw [R.op, R.pl, S.km]
    refine ka_c (fun i i0 i1 => ?_)
    have q := S.kk i i0 (by omega)
    rw [Int.zero_add]
    exact ⟨q.1, q.2.1⟩
  unfold kfi
  rw [e1]
theorem pl_tg (R : ER x e b l h g) {u : Int64} : tgP h e u ↔ m_tg g x l u = 0 := by
  unfold tgP m_tg
  rw [R.sm, R.tg]
  generalize f_key 6 u _ = A
  generalize m_bytes g x _ 8 = B
  constructor
  · intro q
    rw [if_pos q]
  · intro q
    by_cases w : A = B
    · exact w
    · rw [if_neg w] at q
      exact absurd q (by decide)
theorem pl_old (S : SR0 x a s h g) (R : ER x e b l h g) {t : Int} (ht : t = 0 ∨ t = 1) : cOld t (cq_A h a 11) (cq_I h e 10) (cq_I h a 17) = m_bef g x s t ∧ cNew t (cq_I h e 11) (cq_I h a 17) = m_beh g x s t := by
  have hr := S.hr
  unfold cOld cNew m_bef m_beh
  rw [R.pn, S.nr, R.pl]
  rcases ht with rfl | rfl
  · exact ⟨by rw [if_neg (fun q => absurd q.1 (by decide)), if_neg (fun q => absurd q.1 (by decide))], by rw [if_neg (by decide), if_neg (by decide)]⟩
  · refine ⟨?_, by rw [if_pos rfl, if_pos (by decide)]⟩
    by_cases w : cq_A h a 11 = none
    · rw [if_neg (fun q => q.2.1 w), if_neg (fun q => q.2.1 (hr.mp w))]
    · by_cases w2 : cq_I g (x + 41) s < cq_I g x 80
      · rw [if_pos ⟨rfl, w, w2⟩, if_pos ⟨by decide, fun z => w (hr.mpr z), w2⟩]
      · rw [if_neg (fun q => w2 q.2.2), if_neg (fun q => w2 q.2.2)]
theorem pl_ch (S : SR0 x a s h g) (R : ER x e b l h g) {w : Nat} {t : Int} (ht : t = 0 ∨ t = 1) (j0 : cq_J h w 0 = cq_J g (x + 36) s) (ok : ¬ (t = 0 ∧ cq_A h a 11 = none)) : chC t (cq_J h a 6) (cq_J h a 10) (f_common (cq_J h w 0) (cq_J h e 9)) = m_ch0 g x s t := by
  unfold chC m_ch0 m_com
  rcases ht with rfl | rfl
  · rw [if_neg (by decide), if_neg (by decide)]
    exact S.rc (fun z => ok ⟨rfl, S.hr.mpr z⟩)
  · rw [if_pos rfl, if_pos (by decide), if_pos (by decide), S.rt, j0, R.op]
theorem pl_key (S : SR0 x a s h g) (R : ER x e b l h g) {w : Nat} {t : Int} (ht : t = 0 ∨ t = 1) (j0 : cq_J h w 0 = cq_J g (x + 36) s) (ok : ¬ (t = 0 ∧ cq_A h a 11 = none)) : lkC (nxI (cNew t (cq_I h e 11) (cq_I h a 17)).toNat (chC t (cq_J h a 6) (cq_J h a 10) (f_common (cq_J h w 0) (cq_J h e 9)))) = m_okey g x s t := by
  rw [pl_ch S R ht j0 ok, (pl_old S R ht).2]
  unfold m_okey
  rw [chn_nx]
  rfl
theorem pl_ok (S : SR0 x a s h g) (R : ER x e b l h g) {w : Nat} {t kf : Int} (j0 : cq_J h w 0 = cq_J g (x + 36) s) (et : t = m_tn g x s) (ek : kf = if m_keptAt g x s = -2 then -1 else m_keptAt g x s) : plOK h a e (a + 1) (a + 4) t kf (lkC (nxI (cNew t (cq_I h e 11) (cq_I h a 17)).toNat (chC t (cq_J h a 6) (cq_J h a 10) (f_common (cq_J h w 0) (cq_J h e 9))))) ↔ m_openA g x l s = 0 := by
  have ht : t = 0 ∨ t = 1 := by rw [et]; exact tn_01
  have kr : m_keptAt g x s = -2 ∨ (0 ≤ m_keptAt g x s ∧ m_keptAt g x s < 0 + ((cq_I g (x + 53) s).toNat : Int)) := by unfold m_keptAt; exact m_ka_rg
  have k20 := S.k20
  have ol := pl_old S R ht
  have key := pl_key S R ht j0
  have nr := S.nr
  have pl := R.pl
  have km := S.km
  have hr := S.hr
  unfold plOK m_openA csOK m_oA
  rw [← et, ol.1, ol.2]
  rcases kr with z | z
  · have ek1 : kf = -1 := by rw [ek, if_pos z]
    rw [if_pos (by omega)]
    constructor
    · intro q
      rcases q with q | q
      · omega
      obtain ⟨_, ⟨q1, q2, q3, q4⟩, q5⟩ := q
      rw [pl, nr] at q2
      rw [km] at q4
      rw [← ol.2, key q1, pl_tg R] at q5
      rw [if_neg q2, if_neg (by omega), if_neg (fun w => q1 ⟨w.1, hr.mpr w.2⟩)]
      exact q5
    · intro q
      by_cases c1 : t = 0 ∧ cq_I g x 81 < cq_I g (x + 41) s
      · rw [if_pos c1] at q; exact absurd q (by decide)
      rw [if_neg c1] at q
      by_cases c2 : 10 < m_bef g x s t + m_beh g x s t ∨ 20 < cq_I g (x + 53) s + m_bef g x s t + m_beh g x s t
      · rw [if_pos c2] at q; exact absurd q (by decide)
      rw [if_neg c2] at q
      by_cases c3 : t = 0 ∧ cq_I g (x + 35) s = 0
      · rw [if_pos c3] at q; exact absurd q (by decide)
      rw [if_neg c3] at q
      have ok : ¬ (t = 0 ∧ cq_A h a 11 = none) := fun w => c3 ⟨w.1, hr.mp w.2⟩
      refine Or.inr ⟨ek1, ⟨ok, by rw [pl, nr]; exact c1, by omega, by rw [km]; omega⟩, ?_⟩
      rw [← ol.2, key ok, pl_tg R]
      exact q
  · have ek1 : kf = m_keptAt g x s := by rw [ek, if_neg (by omega)]
    have q3 := (S.kk (m_keptAt g x s) z.1 (by omega)).2.2
    rw [if_neg (by omega), ek1, q3, pl_tg R]
    constructor
    · intro q
      rcases q with q | q
      · exact q.2
      · omega
    · intro q
      exact Or.inl ⟨z.1, q⟩
end
/-! the reference, exactly: keys are KEPT, and one goes out -/
def KQ (x : Nat) (s n : Int) (g g' : cx_Q) : Prop := (∀ j, cq_I g' x j = cq_I g x j) ∧ (∀ j, cq_J g' x j = cq_J g x j) ∧ (∀ o j, 1 ≤ o → ¬ ((o = 41 ∨ o = 53) ∧ j = s) → ¬ (o = 55 ∧ 20 * s ≤ j ∧ j < 20 * s + 20) → cq_I g' (x + o) j = cq_I g (x + o) j) ∧ (∀ o j, 1 ≤ o → ¬ (o = 34 ∧ j = s) → ¬ ((o = 54 ∨ o = 56) ∧ 20 * s ≤ j ∧ j < 20 * s + 20) → cq_J g' (x + o) j = cq_J g (x + o) j) ∧ (cq_I g' (x + 41) s = cq_I g (x + 41) s + n) ∧ (cq_I g' (x + 53) s = cq_I g (x + 53) s + n) ∧ (cq_J g' (x + 34) s = nxI n.toNat (cq_J g (x + 34) s)) ∧ (∀ i, 0 ≤ i → i < 20 → cq_J g' (x + 54) (20 * s + i) = if cq_I g (x + 53) s ≤ i ∧ i < cq_I g (x + 53) s + n then cq_J g (x + 38) s else cq_J g (x + 54) (20 * s + i)) ∧ (∀ i, 0 ≤ i → i < 20 → cq_I g' (x + 55) (20 * s + i) = if cq_I g (x + 53) s ≤ i ∧ i < cq_I g (x + 53) s + n then cq_I g (x + 41) s + (i - cq_I g (x + 53) s) else cq_I g (x + 55) (20 * s + i)) ∧ (∀ i, 0 ≤ i → i < 20 → cq_J g' (x + 56) (20 * s + i) = if cq_I g (x + 53) s ≤ i ∧ i < cq_I g (x + 53) s + n then lkC (nxI (i - cq_I g (x + 53) s).toNat (cq_J g (x + 34) s)) else cq_J g (x + 56) (20 * s + i))
theorem KQ.x_ {x : Nat} {s n : Int} {g g' : cx_Q} (F_ : KQ x s n g g') : ∀ j, cq_I g' x j = cq_I g x j := F_.1
theorem KQ.xJ {x : Nat} {s n : Int} {g g' : cx_Q} (F_ : KQ x s n g g') : ∀ j, cq_J g' x j = cq_J g x j := F_.2.1
theorem KQ.I_ {x : Nat} {s n : Int} {g g' : cx_Q} (F_ : KQ x s n g g') : ∀ o j, 1 ≤ o → ¬ ((o = 41 ∨ o = 53) ∧ j = s) → ¬ (o = 55 ∧ 20 * s ≤ j ∧ j < 20 * s + 20) → cq_I g' (x + o) j = cq_I g (x + o) j := F_.2.2.1
theorem KQ.J_ {x : Nat} {s n : Int} {g g' : cx_Q} (F_ : KQ x s n g g') : ∀ o j, 1 ≤ o → ¬ (o = 34 ∧ j = s) → ¬ ((o = 54 ∨ o = 56) ∧ 20 * s ≤ j ∧ j < 20 * s + 20) → cq_J g' (x + o) j = cq_J g (x + o) j := F_.2.2.2.1
theorem KQ.i41 {x : Nat} {s n : Int} {g g' : cx_Q} (F_ : KQ x s n g g') : cq_I g' (x + 41) s = cq_I g (x + 41) s + n := F_.2.2.2.2.1
theorem KQ.i53 {x : Nat} {s n : Int} {g g' : cx_Q} (F_ : KQ x s n g g') : cq_I g' (x + 53) s = cq_I g (x + 53) s + n := F_.2.2.2.2.2.1
theorem KQ.j34 {x : Nat} {s n : Int} {g g' : cx_Q} (F_ : KQ x s n g g') : cq_J g' (x + 34) s = nxI n.toNat (cq_J g (x + 34) s) := F_.2.2.2.2.2.2.1
theorem KQ.k54 {x : Nat} {s n : Int} {g g' : cx_Q} (F_ : KQ x s n g g') : ∀ i, 0 ≤ i → i < 20 → cq_J g' (x + 54) (20 * s + i) = if cq_I g (x + 53) s ≤ i ∧ i < cq_I g (x + 53) s + n then cq_J g (x + 38) s else cq_J g (x + 54) (20 * s + i) := F_.2.2.2.2.2.2.2.1
theorem KQ.k55 {x : Nat} {s n : Int} {g g' : cx_Q} (F_ : KQ x s n g g') : ∀ i, 0 ≤ i → i < 20 → cq_I g' (x + 55) (20 * s + i) = if cq_I g (x + 53) s ≤ i ∧ i < cq_I g (x + 53) s + n then cq_I g (x + 41) s + (i - cq_I g (x + 53) s) else cq_I g (x + 55) (20 * s + i) := F_.2.2.2.2.2.2.2.2.1
theorem KQ.k56 {x : Nat} {s n : Int} {g g' : cx_Q} (F_ : KQ x s n g g') : ∀ i, 0 ≤ i → i < 20 → cq_J g' (x + 56) (20 * s + i) = if cq_I g (x + 53) s ≤ i ∧ i < cq_I g (x + 53) s + n then lkC (nxI (i - cq_I g (x + 53) s).toNat (cq_J g (x + 34) s)) else cq_J g (x + 56) (20 * s + i) := F_.2.2.2.2.2.2.2.2.2
theorem nxI_t {k : Nat} {u : Int64} : nxI (k + 1) u = nxI k (nx1 u) := by unfold nxI; rw [itN_t]
section
variable {x : Nat} {s : Int} {g g' : cx_Q}
theorem KQ.refl : KQ x s 0 g g := by
  refine ⟨fun _ => rfl, fun _ => rfl, fun _ _ _ _ _ => rfl, fun _ _ _ _ _ => rfl, by omega, by omega, ?_, fun i _ _ => ?_, fun i _ _ => ?_, fun i _ _ => ?_⟩
  · show _ = nxI 0 _
    rw [nxI_0]
  · rw [if_neg (by omega)]
  · rw [if_neg (by omega)]
  · rw [if_neg (by omega)]
theorem keep1_q (h0 : 0 ≤ cq_I g (x + 53) s ∧ cq_I g (x + 53) s < 20) : KQ x s 1 g (m_keep1 g x s) := by
  have n34 : nxI (1 : Int).toNat (cq_J g (x + 34) s) = f_key 4 (cq_J g (x + 34) s) (Int64.ofInt 0) := by
    show nxI 1 _ = _
    rw [nxI_s, nxI_0]
    rfl
  unfold m_keep1 m_step m_keepB m_keepA
  refine ⟨fun j => ?_, fun j => ?_, fun o j ho w1 w2 => ?_, fun o j ho w1 w2 => ?_, ?_, ?_, ?_, fun i i0 i1 => ?_, fun i i0 i1 => ?_, fun i i0 i1 => ?_⟩
  · simp only [mm_sI, mm_sJ, mm_sA, mm_IJ, mm_IA, mm_JI, mm_JA, mm_AI, mm_AJ, mm_ssI, mm_ssJ, mm_ssA, mm_zI, mm_zJ, mm_zA, mm_nI, mm_nJ, mm_nA, Nat.left_eq_add, Nat.add_eq_left, Nat.add_left_cancel_iff, Nat.reduceEqDiff, Int.reduceEq, false_and, and_false, if_false, if_true, and_self, true_and, true_or, or_true, false_or, or_false]
  · simp only [mm_sI, mm_sJ, mm_sA, mm_IJ, mm_IA, mm_JI, mm_JA, mm_AI, mm_AJ, mm_ssI, mm_ssJ, mm_ssA, mm_zI, mm_zJ, mm_zA, mm_nI, mm_nJ, mm_nA, Nat.left_eq_add, Nat.add_eq_left, Nat.add_left_cancel_iff, Nat.reduceEqDiff, Int.reduceEq, false_and, and_false, if_false, if_true, and_self, true_and, true_or, or_true, false_or, or_false]
  · have a1 : ¬ (x + o = x + 41 ∧ j = s) := fun q => w1 ⟨by omega, q.2⟩
    have a2 : ¬ (x + o = x + 53 ∧ j = s) := fun q => w1 ⟨by omega, q.2⟩
    have a3 : ¬ (x + o = x + 55 ∧ j = 20 * s + cq_I g (x + 53) s) := fun q => w2 ⟨by omega, by omega, by omega⟩
    simp only [mm_sI, mm_IJ, a1, a2, a3, if_false]
  · have a1 : ¬ (x + o = x + 34 ∧ j = s) := fun q => w1 ⟨by omega, q.2⟩
    have a2 : ¬ (x + o = x + 54 ∧ j = 20 * s + cq_I g (x + 53) s) := fun q => w2 ⟨by omega, by omega, by omega⟩
    have a3 : ¬ (x + o = x + 56 ∧ j = 20 * s + cq_I g (x + 53) s) := fun q => w2 ⟨by omega, by omega, by omega⟩
    simp only [mm_sJ, mm_JI, a1, a2, a3, if_false]
  · simp only [mm_sI, mm_sJ, mm_sA, mm_IJ, mm_IA, mm_JI, mm_JA, mm_AI, mm_AJ, mm_ssI, mm_ssJ, mm_ssA, mm_zI, mm_zJ, mm_zA, mm_nI, mm_nJ, mm_nA, Nat.left_eq_add, Nat.add_eq_left, Nat.add_left_cancel_iff, Nat.reduceEqDiff, Int.reduceEq, false_and, and_false, if_false, if_true, and_self, true_and, true_or, or_true, false_or, or_false]
  · simp only [mm_sI, mm_sJ, mm_sA, mm_IJ, mm_IA, mm_JI, mm_JA, mm_AI, mm_AJ, mm_ssI, mm_ssJ, mm_ssA, mm_zI, mm_zJ, mm_zA, mm_nI, mm_nJ, mm_nA, Nat.left_eq_add, Nat.add_eq_left, Nat.add_left_cancel_iff, Nat.reduceEqDiff, Int.reduceEq, false_and, and_false, if_false, if_true, and_self, true_and, true_or, or_true, false_or, or_false]
  · rw [n34]
    simp only [mm_sI, mm_sJ, mm_sA, mm_IJ, mm_IA, mm_JI, mm_JA, mm_AI, mm_AJ, mm_ssI, mm_ssJ, mm_ssA, mm_zI, mm_zJ, mm_zA, mm_nI, mm_nJ, mm_nA, Nat.left_eq_add, Nat.add_eq_left, Nat.add_left_cancel_iff, Nat.reduceEqDiff, Int.reduceEq, false_and, and_false, if_false, if_true, and_self, true_and, true_or, or_true, false_or, or_false]
  · simp only [mm_sI, mm_sJ, mm_sA, mm_IJ, mm_IA, mm_JI, mm_JA, mm_AI, mm_AJ, mm_ssI, mm_ssJ, mm_ssA, mm_zI, mm_zJ, mm_zA, mm_nI, mm_nJ, mm_nA, Nat.left_eq_add, Nat.add_eq_left, Nat.add_left_cancel_iff, Nat.reduceEqDiff, Int.reduceEq, false_and, and_false, if_false, if_true, and_self, true_and, true_or, or_true, false_or, or_false]
    by_cases w : i = cq_I g (x + 53) s
    · rw [if_pos (by omega), if_pos (by omega)]
    · rw [if_neg (by omega), if_neg (by omega)]
  · simp only [mm_sI, mm_sJ, mm_sA, mm_IJ, mm_IA, mm_JI, mm_JA, mm_AI, mm_AJ, mm_ssI, mm_ssJ, mm_ssA, mm_zI, mm_zJ, mm_zA, mm_nI, mm_nJ, mm_nA, Nat.left_eq_add, Nat.add_eq_left, Nat.add_left_cancel_iff, Nat.reduceEqDiff, Int.reduceEq, false_and, and_false, if_false, if_true, and_self, true_and, true_or, or_true, false_or, or_false]
    by_cases w : i = cq_I g (x + 53) s
    · rw [if_pos (by omega), if_pos (by omega)]
      omega
    · rw [if_neg (by omega), if_neg (by omega)]
  · simp only [mm_sI, mm_sJ, mm_sA, mm_IJ, mm_IA, mm_JI, mm_JA, mm_AI, mm_AJ, mm_ssI, mm_ssJ, mm_ssA, mm_zI, mm_zJ, mm_zA, mm_nI, mm_nJ, mm_nA, Nat.left_eq_add, Nat.add_eq_left, Nat.add_left_cancel_iff, Nat.reduceEqDiff, Int.reduceEq, false_and, and_false, if_false, if_true, and_self, true_and, true_or, or_true, false_or, or_false]
    by_cases w : i = cq_I g (x + 53) s
    · rw [if_pos (by omega), if_pos (by omega)]
      have e : (i - cq_I g (x + 53) s).toNat = 0 := by omega
      rw [e, nxI_0]
      rfl
    · rw [if_neg (by omega), if_neg (by omega)]
theorem KQ.next {g1 : cx_Q} {n : Int} (hn : 0 ≤ n) (h0 : 0 ≤ cq_I g (x + 53) s ∧ cq_I g (x + 53) s + (n + 1) ≤ 20) (A : KQ x s 1 g g1) (B : KQ x s n g1 g') : KQ x s (n + 1) g g' := by
  have e1 : (n + 1).toNat = n.toNat + 1 := by omega
  have j1 : cq_J g1 (x + 34) s = nx1 (cq_J g (x + 34) s) := by
    rw [A.j34]
    show nxI 1 _ = _
    rw [nxI_s, nxI_0]
  have i53 := A.i53
  have i41 := A.i41
  have j38 : cq_J g1 (x + 38) s = cq_J g (x + 38) s := A.J_ 38 s (by decide) (by omega) (by omega)
  refine ⟨fun j => (B.x_ j).trans (A.x_ j), fun j => (B.xJ j).trans (A.xJ j), fun o j ho w1 w2 => (B.I_ o j ho w1 w2).trans (A.I_ o j ho w1 w2), fun o j ho w1 w2 => (B.J_ o j ho w1 w2).trans (A.J_ o j ho w1 w2), by rw [B.i41, i41]; omega, by rw [B.i53, i53]; omega, by rw [B.j34, j1, e1, nxI_t], fun i i0 i1 => ?_, fun i i0 i1 => ?_, fun i i0 i1 => ?_⟩
  · rw [B.k54 i i0 i1, i53, j38, A.k54 i i0 i1]
    by_cases w : i = cq_I g (x + 53) s
    · rw [if_neg (by omega), if_pos (by omega), if_pos (by omega)]
    · by_cases w2 : cq_I g (x + 53) s ≤ i ∧ i < cq_I g (x + 53) s + (n + 1)
      · rw [if_pos (by omega), if_pos w2]
      · rw [if_neg (by omega), if_neg (by omega), if_neg w2]
  · rw [B.k55 i i0 i1, i53, i41, A.k55 i i0 i1]
    by_cases w : i = cq_I g (x + 53) s
    · rw [if_neg (by omega), if_pos (by omega), if_pos (by omega)]
    · by_cases w2 : cq_I g (x + 53) s ≤ i ∧ i < cq_I g (x + 53) s + (n + 1)
      · rw [if_pos (by omega), if_pos w2]
        omega
      · rw [if_neg (by omega), if_neg (by omega), if_neg w2]
  · rw [B.k56 i i0 i1, i53, j1, A.k56 i i0 i1]
    by_cases w : i = cq_I g (x + 53) s
    · rw [if_neg (by omega), if_pos (by omega), if_pos (by omega)]
    · by_cases w2 : cq_I g (x + 53) s ≤ i ∧ i < cq_I g (x + 53) s + (n + 1)
      · rw [if_pos (by omega), if_pos w2]
        have e2 : (i - cq_I g (x + 53) s).toNat = (i - (cq_I g (x + 53) s + 1)).toNat + 1 := by omega
        rw [e2, nxI_t]
      · rw [if_neg (by omega), if_neg (by omega), if_neg w2]
theorem keep_q : ∀ {n : Nat} {g : cx_Q}, 0 ≤ cq_I g (x + 53) s ∧ cq_I g (x + 53) s + n ≤ 20 → KQ x s n g (m_keep x s n g) := by
  intro n
  induction n with
  | zero =>
    intro g _
    unfold m_keep
    rw [m_itd]
    exact KQ.refl
  | succ n ih =>
    intro g h0
    have A := keep1_q (x := x) (s := s) (g := g) (by omega)
    have e : m_keep x s (n + 1) g = m_keep x s n (m_keep1 g x s) := by
      unfold m_keep
      rw [m_itd]
    rw [e]
    have i53 := A.i53
    generalize m_keep1 g x s = g1 at A i53 ⊢
    have B := ih (g := g1) (by rw [i53]; omega)
    have e2 : ((n + 1 : Nat) : Int) = (n : Int) + 1 := by omega
    rw [e2]
    exact KQ.next (by omega) (by omega) A B
end
/-! the reference, exactly: a KEPT key goes out; the TEXT is read -/
def PQ2 (x : Nat) (s i : Int) (g g' : cx_Q) : Prop := (∀ j, cq_I g' x j = cq_I g x j) ∧ (∀ j, cq_J g' x j = cq_J g x j) ∧ (∀ o j, 1 ≤ o → ¬ (o = 53 ∧ j = s) → ¬ (o = 55 ∧ 20 * s ≤ j ∧ j < 20 * s + 20) → o ∉ tL → cq_I g' (x + o) j = cq_I g (x + o) j) ∧ (∀ o j, 1 ≤ o → ¬ ((o = 54 ∨ o = 56) ∧ 20 * s ≤ j ∧ j < 20 * s + 20) → o ∉ tL → cq_J g' (x + o) j = cq_J g (x + o) j) ∧ (cq_I g' (x + 53) s = cq_I g (x + 53) s - 1) ∧ (∀ k, 0 ≤ k → k < 20 → cq_J g' (x + 54) (20 * s + k) = if i ≤ k ∧ k < cq_I g (x + 53) s - 1 then cq_J g (x + 54) (20 * s + (k + 1)) else cq_J g (x + 54) (20 * s + k)) ∧ (∀ k, 0 ≤ k → k < 20 → cq_I g' (x + 55) (20 * s + k) = if i ≤ k ∧ k < cq_I g (x + 53) s - 1 then cq_I g (x + 55) (20 * s + (k + 1)) else cq_I g (x + 55) (20 * s + k)) ∧ (∀ k, 0 ≤ k → k < 20 → cq_J g' (x + 56) (20 * s + k) = if i ≤ k ∧ k < cq_I g (x + 53) s - 1 then cq_J g (x + 56) (20 * s + (k + 1)) else cq_J g (x + 56) (20 * s + k))
theorem PQ2.x_ {x : Nat} {s i : Int} {g g' : cx_Q} (F_ : PQ2 x s i g g') : ∀ j, cq_I g' x j = cq_I g x j := F_.1
theorem PQ2.xJ {x : Nat} {s i : Int} {g g' : cx_Q} (F_ : PQ2 x s i g g') : ∀ j, cq_J g' x j = cq_J g x j := F_.2.1
theorem PQ2.I_ {x : Nat} {s i : Int} {g g' : cx_Q} (F_ : PQ2 x s i g g') : ∀ o j, 1 ≤ o → ¬ (o = 53 ∧ j = s) → ¬ (o = 55 ∧ 20 * s ≤ j ∧ j < 20 * s + 20) → o ∉ tL → cq_I g' (x + o) j = cq_I g (x + o) j := F_.2.2.1
theorem PQ2.J_ {x : Nat} {s i : Int} {g g' : cx_Q} (F_ : PQ2 x s i g g') : ∀ o j, 1 ≤ o → ¬ ((o = 54 ∨ o = 56) ∧ 20 * s ≤ j ∧ j < 20 * s + 20) → o ∉ tL → cq_J g' (x + o) j = cq_J g (x + o) j := F_.2.2.2.1
theorem PQ2.i53 {x : Nat} {s i : Int} {g g' : cx_Q} (F_ : PQ2 x s i g g') : cq_I g' (x + 53) s = cq_I g (x + 53) s - 1 := F_.2.2.2.2.1
theorem PQ2.k54 {x : Nat} {s i : Int} {g g' : cx_Q} (F_ : PQ2 x s i g g') : ∀ k, 0 ≤ k → k < 20 → cq_J g' (x + 54) (20 * s + k) = if i ≤ k ∧ k < cq_I g (x + 53) s - 1 then cq_J g (x + 54) (20 * s + (k + 1)) else cq_J g (x + 54) (20 * s + k) := F_.2.2.2.2.2.1
theorem PQ2.k55 {x : Nat} {s i : Int} {g g' : cx_Q} (F_ : PQ2 x s i g g') : ∀ k, 0 ≤ k → k < 20 → cq_I g' (x + 55) (20 * s + k) = if i ≤ k ∧ k < cq_I g (x + 53) s - 1 then cq_I g (x + 55) (20 * s + (k + 1)) else cq_I g (x + 55) (20 * s + k) := F_.2.2.2.2.2.2.1
theorem PQ2.k56 {x : Nat} {s i : Int} {g g' : cx_Q} (F_ : PQ2 x s i g g') : ∀ k, 0 ≤ k → k < 20 → cq_J g' (x + 56) (20 * s + k) = if i ≤ k ∧ k < cq_I g (x + 53) s - 1 then cq_J g (x + 56) (20 * s + (k + 1)) else cq_J g (x + 56) (20 * s + k) := F_.2.2.2.2.2.2.2
section
variable {x : Nat} {s : Int} {g g' : cx_Q}
theorem dk_v : ∀ {n : Nat} {k : Int} {g : cx_Q}, (∀ j, cq_J (m_dk x n k g) (x + 54) j = if k ≤ j ∧ j < k + n then cq_J g (x + 54) (j + 1) else cq_J g (x + 54) j) ∧ (∀ j, cq_I (m_dk x n k g) (x + 55) j = if k ≤ j ∧ j < k + n then cq_I g (x + 55) (j + 1) else cq_I g (x + 55) j) ∧ (∀ j, cq_J (m_dk x n k g) (x + 56) j = if k ≤ j ∧ j < k + n then cq_J g (x + 56) (j + 1) else cq_J g (x + 56) j) ∧ (∀ i j, i ≠ x + 55 → i ≠ x + 57 → cq_I (m_dk x n k g) i j = cq_I g i j) ∧ (∀ i j, i ≠ x + 54 → i ≠ x + 56 → cq_J (m_dk x n k g) i j = cq_J g i j) := by
  intro n
  induction n with
  | zero =>
    intro k g
    rw [m_dk_0]
    exact ⟨fun j => by rw [if_neg (by omega)], fun j => by rw [if_neg (by omega)], fun j => by rw [if_neg (by omega)], fun _ _ _ _ => rfl, fun _ _ _ _ => rfl⟩
  | succ n ih =>
    intro k g
    rw [m_dk_s]
    obtain ⟨a1, a2, a3, a4, a5⟩ := ih (k := k + 1) (g := m_dk1 g x k)
    have e54 : ∀ j, cq_J (m_dk1 g x k) (x + 54) j = if j = k then cq_J g (x + 54) (k + 1) else cq_J g (x + 54) j := fun j => by
      unfold m_dk1
      simp only [mm_sI, mm_sJ, mm_sA, mm_IJ, mm_IA, mm_JI, mm_JA, mm_AI, mm_AJ, mm_ssI, mm_ssJ, mm_ssA, mm_zI, mm_zJ, mm_zA, mm_nI, mm_nJ, mm_nA, Nat.left_eq_add, Nat.add_eq_left, Nat.add_left_cancel_iff, Nat.reduceEqDiff, Int.reduceEq, false_and, and_false, if_false, if_true, and_self, true_and, true_or, or_true, false_or, or_false]
    have e55 : ∀ j, cq_I (m_dk1 g x k) (x + 55) j = if j = k then cq_I g (x + 55) (k + 1) else cq_I g (x + 55) j := fun j => by
      unfold m_dk1
      simp only [mm_sI, mm_sJ, mm_sA, mm_IJ, mm_IA, mm_JI, mm_JA, mm_AI, mm_AJ, mm_ssI, mm_ssJ, mm_ssA, mm_zI, mm_zJ, mm_zA, mm_nI, mm_nJ, mm_nA, Nat.left_eq_add, Nat.add_eq_left, Nat.add_left_cancel_iff, Nat.reduceEqDiff, Int.reduceEq, false_and, and_false, if_false, if_true, and_self, true_and, true_or, or_true, false_or, or_false]
    have e56 : ∀ j, cq_J (m_dk1 g x k) (x + 56) j = if j = k then cq_J g (x + 56) (k + 1) else cq_J g (x + 56) j := fun j => by
      unfold m_dk1
      simp only [mm_sI, mm_sJ, mm_sA, mm_IJ, mm_IA, mm_JI, mm_JA, mm_AI, mm_AJ, mm_ssI, mm_ssJ, mm_ssA, mm_zI, mm_zJ, mm_zA, mm_nI, mm_nJ, mm_nA, Nat.left_eq_add, Nat.add_eq_left, Nat.add_left_cancel_iff, Nat.reduceEqDiff, Int.reduceEq, false_and, and_false, if_false, if_true, and_self, true_and, true_or, or_true, false_or, or_false]
    refine ⟨fun j => ?_, fun j => ?_, fun j => ?_, fun i j w1 w2 => ?_, fun i j w1 w2 => ?_⟩
    · rw [a1, e54, e54]
      by_cases w : j = k
      · rw [if_neg (by omega), if_pos w, if_pos (by omega), w]
      · by_cases w2 : k ≤ j ∧ j < k + ((n + 1 : Nat) : Int)
        · rw [if_pos (by omega), if_neg (by omega), if_pos w2]
        · rw [if_neg (by omega), if_neg w, if_neg w2]
    · rw [a2, e55, e55]
      by_cases w : j = k
      · rw [if_neg (by omega), if_pos w, if_pos (by omega), w]
      · by_cases w2 : k ≤ j ∧ j < k + ((n + 1 : Nat) : Int)
        · rw [if_pos (by omega), if_neg (by omega), if_pos w2]
        · rw [if_neg (by omega), if_neg w, if_neg w2]
    · rw [a3, e56, e56]
      by_cases w : j = k
      · rw [if_neg (by omega), if_pos w, if_pos (by omega), w]
      · by_cases w2 : k ≤ j ∧ j < k + ((n + 1 : Nat) : Int)
        · rw [if_pos (by omega), if_neg (by omega), if_pos w2]
        · rw [if_neg (by omega), if_neg w, if_neg w2]
    · rw [a4 i j w1 w2]
      unfold m_dk1
      simp only [mm_sI, mm_IJ, w1, w2, false_and, if_false]
    · rw [a5 i j w1 w2]
      unfold m_dk1
      simp only [mm_sJ, mm_JI, w1, w2, false_and, if_false]
theorem drop_q {i : Int} (hi : 0 ≤ i ∧ i < cq_I g (x + 53) s) (hk : cq_I g (x + 53) s ≤ 20) : PQ2 x s i g (m_drop g x s i) := by
  obtain ⟨a1, a2, a3, a4, a5⟩ := dk_v (x := x) (n := (cq_I g (x + 53) s - 1 - i).toNat) (k := 20 * s + i) (g := cq_sI g (x + 53) s (cq_I g (x + 53) s - 1))
  unfold m_drop
  generalize m_dk x (cq_I g (x + 53) s - 1 - i).toNat (20 * s + i) (cq_sI g (x + 53) s (cq_I g (x + 53) s - 1)) = g' at a1 a2 a3 a4 a5
  have n57 : 57 ∈ tL := by decide
  have o5 : ∀ o : Nat, o ∉ tL → o ≠ 57 := fun o w q => w (by rw [q]; exact n57)
  refine ⟨fun j => ?_, fun j => ?_, fun o j ho w1 w2 w3 => ?_, fun o j ho w w3 => ?_, ?_, fun k k0 k1 => ?_, fun k k0 k1 => ?_, fun k k0 k1 => ?_⟩
  · rw [a4 x j (by omega) (by omega), mm_sI, if_neg (fun q => by omega)]
  · rw [a5 x j (by omega) (by omega), mm_JI]
  · have := o5 o w3
    by_cases e : o = 55
    · rw [e, a2, if_neg (fun q => w2 ⟨e, by omega, by omega⟩), mm_sI, if_neg (fun q => by omega)]
    · rw [a4 (x + o) j (by omega) (by omega), mm_sI, if_neg (fun q => w1 ⟨by omega, q.2⟩)]
  · by_cases e : o = 54
    · rw [e, a1, if_neg (fun q => w ⟨Or.inl e, by omega, by omega⟩), mm_JI]
    · by_cases e2 : o = 56
      · rw [e2, a3, if_neg (fun q => w ⟨Or.inr e2, by omega, by omega⟩), mm_JI]
      · rw [a5 (x + o) j (by omega) (by omega), mm_JI]
  · rw [a4 (x + 53) s (by omega) (by omega), mm_sI, if_pos ⟨rfl, rfl⟩]
  · have e : 20 * s + k + 1 = 20 * s + (k + 1) := by omega
    rw [a1, mm_JI, e]
    by_cases w : i ≤ k ∧ k < cq_I g (x + 53) s - 1
    · rw [if_pos (by omega), if_pos w]
    · rw [if_neg (by omega), if_neg w]
  · have e : 20 * s + k + 1 = 20 * s + (k + 1) := by omega
    have c55 : ∀ j, cq_I (cq_sI g (x + 53) s (cq_I g (x + 53) s - 1)) (x + 55) j = cq_I g (x + 55) j := fun j => by rw [mm_sI, if_neg (fun q => by omega)]
    rw [a2, c55, c55, e]
    by_cases w : i ≤ k ∧ k < cq_I g (x + 53) s - 1
    · rw [if_pos (by omega), if_pos w]
    · rw [if_neg (by omega), if_neg w]
  · have e : 20 * s + k + 1 = 20 * s + (k + 1) := by omega
    rw [a3, mm_JI, e]
    by_cases w : i ≤ k ∧ k < cq_I g (x + 53) s - 1
    · rw [if_pos (by omega), if_pos w]
    · rw [if_neg (by omega), if_neg w]
/-- the TEXT is read with key k -/
def TQ2 (x : Nat) (k : Int64) (g g' : cx_Q) : Prop := (∀ j, j ≠ 75 → cq_I g' x j = cq_I g x j) ∧ (cq_I g' x 75 = cq_I g x 83) ∧ (∀ o j, 1 ≤ o → o ≠ 65 → cq_I g' (x + o) j = cq_I g (x + o) j) ∧ (∀ i j, cq_J g' i j = cq_J g i j) ∧ (∀ i, 0 ≤ i → i < cq_I g x 83 → cq_I g' (x + 65) i = cx_and (Int64.ofInt (cq_I g (x + 62) (cq_I g x 77 + cq_I g x 82 + i)) ^^^ f_key 5 k (Int64.ofInt i)).toInt32.toInt 255)
theorem TQ2.x_ {x : Nat} {k : Int64} {g g' : cx_Q} (F_ : TQ2 x k g g') : ∀ j, j ≠ 75 → cq_I g' x j = cq_I g x j := F_.1
theorem TQ2.x75 {x : Nat} {k : Int64} {g g' : cx_Q} (F_ : TQ2 x k g g') : cq_I g' x 75 = cq_I g x 83 := F_.2.1
theorem TQ2.I_ {x : Nat} {k : Int64} {g g' : cx_Q} (F_ : TQ2 x k g g') : ∀ o j, 1 ≤ o → o ≠ 65 → cq_I g' (x + o) j = cq_I g (x + o) j := F_.2.2.1
theorem TQ2.J_ {x : Nat} {k : Int64} {g g' : cx_Q} (F_ : TQ2 x k g g') : ∀ i j, cq_J g' i j = cq_J g i j := F_.2.2.2.1
theorem TQ2.r_ {x : Nat} {k : Int64} {g g' : cx_Q} (F_ : TQ2 x k g g') : ∀ i, 0 ≤ i → i < cq_I g x 83 → cq_I g' (x + 65) i = cx_and (Int64.ofInt (cq_I g (x + 62) (cq_I g x 77 + cq_I g x 82 + i)) ^^^ f_key 5 k (Int64.ofInt i)).toInt32.toInt 255 := F_.2.2.2.2
theorem rt_v {k : Int64} : ∀ {n : Nat} {i : Int} {g : cx_Q}, (∀ a j, a ≠ x + 65 → cq_I (m_rt x k n i g) a j = cq_I g a j) ∧ (∀ a j, cq_J (m_rt x k n i g) a j = cq_J g a j) ∧ (∀ j, cq_I (m_rt x k n i g) (x + 65) j = if i ≤ j ∧ j < i + n then cx_and (Int64.ofInt (cq_I g (x + 62) (cq_I g x 77 + cq_I g x 82 + j)) ^^^ f_key 5 k (Int64.ofInt j)).toInt32.toInt 255 else cq_I g (x + 65) j) := by
  intro n
  induction n with
  | zero =>
    intro i g
    have e : m_rt x k 0 i g = g := by unfold m_rt; rw [m_itq]
    rw [e]
    exact ⟨fun _ _ _ => rfl, fun _ _ => rfl, fun j => by rw [if_neg (by omega)]⟩
  | succ n ih =>
    intro i g
    rw [m_rt_s]
    obtain ⟨a1, a2, a3⟩ := ih (i := i + 1) (g := m_rt1 g x k i)
    have o : ∀ a j, a ≠ x + 65 → cq_I (m_rt1 g x k i) a j = cq_I g a j := fun a j w => by
      unfold m_rt1
      rw [mm_sI, if_neg (fun q => w q.1)]
    refine ⟨fun a j w => (a1 a j w).trans (o a j w), fun a j => (a2 a j).trans rfl, fun j => ?_⟩
    rw [a3, o x 77 (by omega), o x 82 (by omega), o (x + 62) _ (by omega)]
    by_cases w : j = i
    · rw [if_neg (by omega), if_pos (by omega)]
      unfold m_rt1
      rw [mm_sI, if_pos ⟨rfl, w⟩, w]
    · by_cases w2 : i ≤ j ∧ j < i + ((n + 1 : Nat) : Int)
      · rw [if_pos (by omega), if_pos w2]
      · rw [if_neg (by omega), if_neg w2]
        unfold m_rt1
        rw [mm_sI, if_neg (fun q => w q.2)]
theorem read_q {k : Int64} : TQ2 x k g (m_readText g x k) := by
  obtain ⟨a1, a2, a3⟩ := rt_v (x := x) (k := k) (n := (cq_I g x 83).toNat) (i := 0) (g := cq_sI g x 75 (cq_I g x 83))
  unfold m_readText
  have o : ∀ a j, a ≠ x → cq_I (cq_sI g x 75 (cq_I g x 83)) a j = cq_I g a j := fun a j w => by rw [mm_sI, if_neg (fun q => w q.1)]
  refine ⟨fun j w => ?_, ?_, fun o' j ho w => ?_, fun i j => ?_, fun i i0 i1 => ?_⟩
  · rw [a1 x j (by omega), mm_sI, if_neg (fun q => w q.2)]
  · rw [a1 x 75 (by omega), mm_sI, if_pos ⟨rfl, rfl⟩]
  · rw [a1 _ j (by omega), o _ j (by omega)]
  · rw [a2, mm_JI]
  · rw [a3, if_pos (by omega), o (x + 62) _ (by omega), mm_sI, if_neg (fun q => absurd q.2 (by decide)), mm_sI, if_neg (fun q => absurd q.2 (by decide))]
end
/-! class and reference side by side: a SESSION that has opened a letter -/
/-- with a KEPT key, the i-th -/
def OK1 (x : Nat) (s i : Int) (g g' : cx_Q) : Prop := (∀ o j, inS s o j → o ≠ 43 → o ≠ 53 → o ≠ 55 → cq_I g' (x + o) j = cq_I g (x + o) j) ∧ (∀ o j, inS s o j → o ≠ 54 → o ≠ 56 → cq_J g' (x + o) j = cq_J g (x + o) j) ∧ (cq_I g' (x + 43) s = 0) ∧ (cq_I g' (x + 53) s = cq_I g (x + 53) s - 1) ∧ (∀ k, 0 ≤ k → k < cq_I g (x + 53) s - 1 → cq_J g' (x + 54) (20 * s + k) = cq_J g (x + 54) (20 * s + (if i ≤ k then k + 1 else k)) ∧ cq_I g' (x + 55) (20 * s + k) = cq_I g (x + 55) (20 * s + (if i ≤ k then k + 1 else k)) ∧ cq_J g' (x + 56) (20 * s + k) = cq_J g (x + 56) (20 * s + (if i ≤ k then k + 1 else k)))
theorem OK1.I_ {x : Nat} {s i : Int} {g g' : cx_Q} (F_ : OK1 x s i g g') : ∀ o j, inS s o j → o ≠ 43 → o ≠ 53 → o ≠ 55 → cq_I g' (x + o) j = cq_I g (x + o) j := F_.1
theorem OK1.J_ {x : Nat} {s i : Int} {g g' : cx_Q} (F_ : OK1 x s i g g') : ∀ o j, inS s o j → o ≠ 54 → o ≠ 56 → cq_J g' (x + o) j = cq_J g (x + o) j := F_.2.1
theorem OK1.i43 {x : Nat} {s i : Int} {g g' : cx_Q} (F_ : OK1 x s i g g') : cq_I g' (x + 43) s = 0 := F_.2.2.1
theorem OK1.i53 {x : Nat} {s i : Int} {g g' : cx_Q} (F_ : OK1 x s i g g') : cq_I g' (x + 53) s = cq_I g (x + 53) s - 1 := F_.2.2.2.1
theorem OK1.k_ {x : Nat} {s i : Int} {g g' : cx_Q} (F_ : OK1 x s i g g') : ∀ k, 0 ≤ k → k < cq_I g (x + 53) s - 1 → cq_J g' (x + 54) (20 * s + k) = cq_J g (x + 54) (20 * s + (if i ≤ k then k + 1 else k)) ∧ cq_I g' (x + 55) (20 * s + k) = cq_I g (x + 55) (20 * s + (if i ≤ k then k + 1 else k)) ∧ cq_J g' (x + 56) (20 * s + k) = cq_J g (x + 56) (20 * s + (if i ≤ k then k + 1 else k)) := F_.2.2.2.2
/-- with a key of the chain that goes on, n of it KEPT -/
def OK2 (x : Nat) (s n : Int) (g g' : cx_Q) : Prop := (∀ o j, inS s o j → o ≠ 41 → o ≠ 43 → o ≠ 53 → o ≠ 55 → cq_I g' (x + o) j = cq_I g (x + o) j) ∧ (∀ o j, inS s o j → o ≠ 34 → o ≠ 54 → o ≠ 56 → cq_J g' (x + o) j = cq_J g (x + o) j) ∧ (cq_I g' (x + 41) s = cq_I g (x + 41) s + n + 1) ∧ (cq_I g' (x + 43) s = 0) ∧ (cq_I g' (x + 53) s = cq_I g (x + 53) s + n) ∧ (cq_J g' (x + 34) s = nxI (n.toNat + 1) (cq_J g (x + 34) s)) ∧ (∀ k, 0 ≤ k → k < cq_I g (x + 53) s → cq_J g' (x + 54) (20 * s + k) = cq_J g (x + 54) (20 * s + k) ∧ cq_I g' (x + 55) (20 * s + k) = cq_I g (x + 55) (20 * s + k) ∧ cq_J g' (x + 56) (20 * s + k) = cq_J g (x + 56) (20 * s + k)) ∧ (∀ i, 0 ≤ i → i < n → cq_J g' (x + 54) (20 * s + (cq_I g (x + 53) s + i)) = cq_J g (x + 38) s ∧ cq_I g' (x + 55) (20 * s + (cq_I g (x + 53) s + i)) = cq_I g (x + 41) s + i ∧ cq_J g' (x + 56) (20 * s + (cq_I g (x + 53) s + i)) = lkC (nxI i.toNat (cq_J g (x + 34) s)))
theorem OK2.I_ {x : Nat} {s n : Int} {g g' : cx_Q} (F_ : OK2 x s n g g') : ∀ o j, inS s o j → o ≠ 41 → o ≠ 43 → o ≠ 53 → o ≠ 55 → cq_I g' (x + o) j = cq_I g (x + o) j := F_.1
theorem OK2.J_ {x : Nat} {s n : Int} {g g' : cx_Q} (F_ : OK2 x s n g g') : ∀ o j, inS s o j → o ≠ 34 → o ≠ 54 → o ≠ 56 → cq_J g' (x + o) j = cq_J g (x + o) j := F_.2.1
theorem OK2.i41 {x : Nat} {s n : Int} {g g' : cx_Q} (F_ : OK2 x s n g g') : cq_I g' (x + 41) s = cq_I g (x + 41) s + n + 1 := F_.2.2.1
theorem OK2.i43 {x : Nat} {s n : Int} {g g' : cx_Q} (F_ : OK2 x s n g g') : cq_I g' (x + 43) s = 0 := F_.2.2.2.1
theorem OK2.i53 {x : Nat} {s n : Int} {g g' : cx_Q} (F_ : OK2 x s n g g') : cq_I g' (x + 53) s = cq_I g (x + 53) s + n := F_.2.2.2.2.1
theorem OK2.j34 {x : Nat} {s n : Int} {g g' : cx_Q} (F_ : OK2 x s n g g') : cq_J g' (x + 34) s = nxI (n.toNat + 1) (cq_J g (x + 34) s) := F_.2.2.2.2.2.1
theorem OK2.k_ {x : Nat} {s n : Int} {g g' : cx_Q} (F_ : OK2 x s n g g') : ∀ k, 0 ≤ k → k < cq_I g (x + 53) s → cq_J g' (x + 54) (20 * s + k) = cq_J g (x + 54) (20 * s + k) ∧ cq_I g' (x + 55) (20 * s + k) = cq_I g (x + 55) (20 * s + k) ∧ cq_J g' (x + 56) (20 * s + k) = cq_J g (x + 56) (20 * s + k) := F_.2.2.2.2.2.2.1
theorem OK2.n_ {x : Nat} {s n : Int} {g g' : cx_Q} (F_ : OK2 x s n g g') : ∀ i, 0 ≤ i → i < n → cq_J g' (x + 54) (20 * s + (cq_I g (x + 53) s + i)) = cq_J g (x + 38) s ∧ cq_I g' (x + 55) (20 * s + (cq_I g (x + 53) s + i)) = cq_I g (x + 41) s + i ∧ cq_J g' (x + 56) (20 * s + (cq_I g (x + 53) s + i)) = lkC (nxI i.toNat (cq_J g (x + 34) s)) := F_.2.2.2.2.2.2.2
section
variable {x a : Nat} {s : Int} {h g g' h' : cx_Q}
theorem SR.kept {i : Int} (F : SR x a s h g) (Q : OK1 x s i g g') (hi : 0 ≤ i ∧ i < cq_I g (x + 53) s) : SR x a s (kdr (cq_sI h a 5 0) (a + 1) (a + 2) (a + 3) (a + 4) i (cq_I h (a + 1) 4 - 1) (cq_I h (a + 1) 4 - 1)) g' := by
  have k20 := F.k20
  have km := F.km
  have s0 := F.s0
  have n1 : ¬ a = a + 1 := by omega
  have n2 : ¬ a = a + 2 := by omega
  have n3 : ¬ a = a + 3 := by omega
  have n4 : ¬ a = a + 4 := by omega
  have gI : ∀ o, ((31 ≤ o ∧ o ≤ 47) ∨ o = 53) → o ≠ 43 → o ≠ 53 → cq_I g' (x + o) s = cq_I g (x + o) s := fun o w w2 w3 => Q.I_ o s (Or.inl ⟨w, rfl⟩) w2 w3 (by omega)
  have gJ : ∀ o, ((31 ≤ o ∧ o ≤ 47) ∨ o = 53) → cq_J g' (x + o) s = cq_J g (x + o) s := fun o w => Q.J_ o s (Or.inl ⟨w, rfl⟩) (by omega) (by omega)
  have hA : cq_A (kdr (cq_sI h a 5 0) (a + 1) (a + 2) (a + 3) (a + 4) i (cq_I h (a + 1) 4 - 1) (cq_I h (a + 1) 4 - 1)) = cq_A h := Eq.trans rfl rfl
  have hs : cq_s (kdr (cq_sI h a 5 0) (a + 1) (a + 2) (a + 3) (a + 4) i (cq_I h (a + 1) 4 - 1) (cq_I h (a + 1) 4 - 1)) = cq_s h := Eq.trans rfl rfl
  have hI : ∀ k, k ≠ 5 → cq_I (kdr (cq_sI h a 5 0) (a + 1) (a + 2) (a + 3) (a + 4) i (cq_I h (a + 1) 4 - 1) (cq_I h (a + 1) 4 - 1)) a k = cq_I h a k := fun k w => by
    unfold kdr
    simp only [mm_sI, mm_sJ, mm_sA, mm_IJ, mm_IA, mm_JI, mm_JA, mm_AI, mm_AJ, mm_ssI, mm_ssJ, mm_ssA, mm_zI, mm_zJ, mm_zA, mm_nI, mm_nJ, mm_nA, rr_I, rr_J, rr_A, rr_IJ, rr_IA, rr_JI, rr_JA, rr_AI, rr_AJ, rr_sI, rr_sJ, rr_sA, rr_zI, rr_zJ, rr_zA, n1, n3, Nat.left_eq_add, Nat.add_eq_left, Nat.add_left_cancel_iff, Nat.reduceEqDiff, Int.reduceEq, false_and, and_false, if_false, if_true, and_self, true_and, true_or, or_true, false_or, or_false, w]
  have h5 : cq_I (kdr (cq_sI h a 5 0) (a + 1) (a + 2) (a + 3) (a + 4) i (cq_I h (a + 1) 4 - 1) (cq_I h (a + 1) 4 - 1)) a 5 = 0 := by
    unfold kdr
    simp only [mm_sI, mm_sJ, mm_sA, mm_IJ, mm_IA, mm_JI, mm_JA, mm_AI, mm_AJ, mm_ssI, mm_ssJ, mm_ssA, mm_zI, mm_zJ, mm_zA, mm_nI, mm_nJ, mm_nA, rr_I, rr_J, rr_A, rr_IJ, rr_IA, rr_JI, rr_JA, rr_AI, rr_AJ, rr_sI, rr_sJ, rr_sA, rr_zI, rr_zJ, rr_zA, n1, n3, Nat.left_eq_add, Nat.add_eq_left, Nat.add_left_cancel_iff, Nat.reduceEqDiff, Int.reduceEq, false_and, and_false, if_false, if_true, and_self, true_and, true_or, or_true, false_or, or_false]
  have hJ : ∀ d, d ≠ a + 2 → d ≠ a + 4 → cq_J (kdr (cq_sI h a 5 0) (a + 1) (a + 2) (a + 3) (a + 4) i (cq_I h (a + 1) 4 - 1) (cq_I h (a + 1) 4 - 1)) d = cq_J h d := fun d w1 w2 => by
    unfold kdr
    funext k
    simp only [mm_sI, mm_sJ, mm_sA, mm_IJ, mm_IA, mm_JI, mm_JA, mm_AI, mm_AJ, mm_ssI, mm_ssJ, mm_ssA, mm_zI, mm_zJ, mm_zA, mm_nI, mm_nJ, mm_nA, rr_I, rr_J, rr_A, rr_IJ, rr_IA, rr_JI, rr_JA, rr_AI, rr_AJ, rr_sI, rr_sJ, rr_sA, rr_zI, rr_zJ, rr_zA, w1, w2, Nat.left_eq_add, Nat.add_eq_left, Nat.add_left_cancel_iff, Nat.reduceEqDiff, Int.reduceEq, false_and, and_false, if_false, if_true, and_self, true_and, true_or, or_true, false_or, or_false]
  have h4 : cq_I (kdr (cq_sI h a 5 0) (a + 1) (a + 2) (a + 3) (a + 4) i (cq_I h (a + 1) 4 - 1) (cq_I h (a + 1) 4 - 1)) (a + 1) 4 = cq_I h (a + 1) 4 - 1 := by
    unfold kdr
    simp only [mm_sI, mm_sJ, mm_sA, mm_IJ, mm_IA, mm_JI, mm_JA, mm_AI, mm_AJ, mm_ssI, mm_ssJ, mm_ssA, mm_zI, mm_zJ, mm_zA, mm_nI, mm_nJ, mm_nA, Nat.left_eq_add, Nat.add_eq_left, Nat.add_left_cancel_iff, Nat.reduceEqDiff, Int.reduceEq, false_and, and_false, if_false, if_true, and_self, true_and, true_or, or_true, false_or, or_false]
  have r2 : cq_J (kdr (cq_sI h a 5 0) (a + 1) (a + 2) (a + 3) (a + 4) i (cq_I h (a + 1) 4 - 1) (cq_I h (a + 1) 4 - 1)) (a + 2) = shT (cq_J h (a + 2)) i (cq_I h (a + 1) 4 - 1) := by
    unfold kdr
    funext k
    simp only [mm_sI, mm_sJ, mm_sA, mm_IJ, mm_IA, mm_JI, mm_JA, mm_AI, mm_AJ, mm_ssI, mm_ssJ, mm_ssA, mm_zI, mm_zJ, mm_zA, mm_nI, mm_nJ, mm_nA, rr_I, rr_J, rr_A, rr_IJ, rr_IA, rr_JI, rr_JA, rr_AI, rr_AJ, rr_sI, rr_sJ, rr_sA, rr_zI, rr_zJ, rr_zA, Nat.left_eq_add, Nat.add_eq_left, Nat.add_left_cancel_iff, Nat.reduceEqDiff, Int.reduceEq, false_and, and_false, if_false, if_true, and_self, true_and, true_or, or_true, false_or, or_false]
  have r3 : cq_I (kdr (cq_sI h a 5 0) (a + 1) (a + 2) (a + 3) (a + 4) i (cq_I h (a + 1) 4 - 1) (cq_I h (a + 1) 4 - 1)) (a + 3) = shT (cq_I h (a + 3)) i (cq_I h (a + 1) 4 - 1) := by
    unfold kdr
    funext k
    have e : cq_I (cq_sI h a 5 0) (a + 3) = cq_I h (a + 3) := by
      funext k
      rw [mm_sI, if_neg (fun q => by omega)]
    simp only [mm_sI, mm_IJ, rr_IJ, rr_I, Nat.left_eq_add, Nat.add_eq_left, Nat.add_left_cancel_iff, Nat.reduceEqDiff, Int.reduceEq, false_and, and_false, if_false, if_true, and_self, true_and, true_or, or_true, false_or, or_false]
    try rw [e]
    try rfl
  have r4 : cq_J (kdr (cq_sI h a 5 0) (a + 1) (a + 2) (a + 3) (a + 4) i (cq_I h (a + 1) 4 - 1) (cq_I h (a + 1) 4 - 1)) (a + 4) = shT (cq_J h (a + 4)) i (cq_I h (a + 1) 4 - 1) := by
    unfold kdr
    funext k
    simp only [mm_sI, mm_sJ, mm_sA, mm_IJ, mm_IA, mm_JI, mm_JA, mm_AI, mm_AJ, mm_ssI, mm_ssJ, mm_ssA, mm_zI, mm_zJ, mm_zA, mm_nI, mm_nJ, mm_nA, rr_I, rr_J, rr_A, rr_IJ, rr_IA, rr_JI, rr_JA, rr_AI, rr_AJ, rr_sI, rr_sJ, rr_sA, rr_zI, rr_zJ, rr_zA, Nat.left_eq_add, Nat.add_eq_left, Nat.add_left_cancel_iff, Nat.reduceEqDiff, Int.reduceEq, false_and, and_false, if_false, if_true, and_self, true_and, true_or, or_true, false_or, or_false]
  generalize kdr (cq_sI h a 5 0) (a + 1) (a + 2) (a + 3) (a + 4) i (cq_I h (a + 1) 4 - 1) (cq_I h (a + 1) 4 - 1) = h1 at hA hs hI h5 hJ h4 r2 r3 r4 ⊢
  have Ja : ∀ k, cq_J h1 a k = cq_J h a k := fun k => by rw [hJ a n2 n4]
  refine ⟨by rw [hs]; exact F.s0, by rw [hs]; exact F.s1, by rw [hs]; exact F.s2, by rw [hs]; exact F.s3, by rw [hs]; exact F.s4, by rw [hA]; exact F.a19, by rw [hA]; exact F.k0, by rw [hA]; exact F.k1, by rw [hA]; exact F.k2, by rw [hI 0 (by decide), gI 44 (by omega) (by decide) (by decide)]; exact F.bg, by rw [Ja, gJ 45 (by omega)]; exact F.be, by rw [h5, Q.i43], fun q => absurd Q.i43 q, by rw [Ja, gJ 31 (by omega)]; exact F.rt, by rw [Ja, gJ 32 (by omega)]; exact F.sn, by rw [hA]; exact F.s9, by rw [gI 33 (by omega) (by decide) (by decide)]; exact F.hs, by rw [hA, gI 35 (by omega) (by decide) (by decide)]; exact F.hr, by rw [Ja, gI 35 (by omega) (by decide) (by decide), gJ 34 (by omega)]; exact F.rc, by rw [Ja, gI 35 (by omega) (by decide) (by decide)]; exact F.rz, ?_, by rw [Ja, gJ 38 (by omega)]; exact F.ot, by rw [hI 15 (by decide), gI 39 (by omega) (by decide) (by decide)]; exact F.ho, by rw [hI 16 (by decide), gI 40 (by omega) (by decide) (by decide)]; exact F.ns, by rw [hI 17 (by decide), gI 41 (by omega) (by decide) (by decide)]; exact F.nr, by rw [hI 18 (by decide), gI 42 (by omega) (by decide) (by decide)]; exact F.pn, by rw [h4, Q.i53, km], by rw [Q.i53]; omega, fun k k1 k2 => ?_⟩
  · obtain ⟨w, q1, q2, q3, q4⟩ := F.ow
    have f2 := F.s2
    have f4 := F.s4
    have w2 : w ≠ a + 2 := fun z => by rw [z, f2] at q2; exact absurd q2 (by decide)
    have w4 : w ≠ a + 4 := fun z => by rw [z, f4] at q2; exact absurd q2 (by decide)
    exact ⟨w, by rw [hA]; exact q1, by rw [hs]; exact q2, by rw [hJ w w2 w4, gJ 36 (by omega)]; exact q3, by rw [hJ w w2 w4, gJ 37 (by omega)]; exact q4⟩
  · rw [Q.i53] at k2
    obtain ⟨y1, y2, y3⟩ := Q.k_ k k1 k2
    by_cases w : i ≤ k
    · rw [if_pos w] at y1 y2 y3
      rw [r2, r3, r4, y1, y2, y3]
      unfold shT
      rw [km, if_pos ⟨w, k2⟩, if_pos ⟨w, k2⟩, if_pos ⟨w, k2⟩]
      exact F.kk (k + 1) (by omega) (by omega)
    · rw [if_neg w] at y1 y2 y3
      rw [r2, r3, r4, y1, y2, y3]
      unfold shT
      rw [km, if_neg (fun q => w q.1), if_neg (fun q => w q.1), if_neg (fun q => w q.1)]
      exact F.kk k k1 (by omega)
/-- a chain that goes on: r the row of keys at hand -/
theorem SR.on {n pl : Int} {v : Int64} {r : Int → Int64} (F : SR x a s h g) (Q : OK2 x s n g g') (hn : 0 ≤ n ∧ cq_I g (x + 53) s + n ≤ 20) (h35 : cq_I g (x + 35) s ≠ 0) (ep : pl = cq_I g (x + 41) s + n) (ev : v = nxI (n.toNat + 1) (cq_J g (x + 34) s)) (er : ∀ i, 0 ≤ i → i < n → r i = lkC (nxI i.toNat (cq_J g (x + 34) s))) : SR x a s (coR (kpW (cq_sI h a 5 0) (a + 1) (a + 2) (a + 3) (a + 4) (cq_I h (a + 1) 4) n (cq_J h a 13) (cq_I h a 17) r) a v (pl + 1)) g' := by
  have k20 := F.k20
  have km := F.km
  have ot := F.ot
  have nr := F.nr
  have n1 : ¬ a = a + 1 := by omega
  have n2 : ¬ a = a + 2 := by omega
  have n3 : ¬ a = a + 3 := by omega
  have n4 : ¬ a = a + 4 := by omega
  have m1 : ¬ a + 1 = a := by omega
  have m2 : ¬ a + 2 = a := by omega
  have m3 : ¬ a + 3 = a := by omega
  have m4 : ¬ a + 4 = a := by omega
  have gI : ∀ o, ((31 ≤ o ∧ o ≤ 47) ∨ o = 53) → o ≠ 41 → o ≠ 43 → o ≠ 53 → cq_I g' (x + o) s = cq_I g (x + o) s := fun o w w1 w2 w3 => Q.I_ o s (Or.inl ⟨w, rfl⟩) w1 w2 w3 (by omega)
  have gJ : ∀ o, ((31 ≤ o ∧ o ≤ 47) ∨ o = 53) → o ≠ 34 → cq_J g' (x + o) s = cq_J g (x + o) s := fun o w w1 => Q.J_ o s (Or.inl ⟨w, rfl⟩) w1 (by omega) (by omega)
  have hA : cq_A (coR (kpW (cq_sI h a 5 0) (a + 1) (a + 2) (a + 3) (a + 4) (cq_I h (a + 1) 4) n (cq_J h a 13) (cq_I h a 17) r) a v (pl + 1)) = cq_A h := Eq.trans rfl rfl
  have hs : cq_s (coR (kpW (cq_sI h a 5 0) (a + 1) (a + 2) (a + 3) (a + 4) (cq_I h (a + 1) 4) n (cq_J h a 13) (cq_I h a 17) r) a v (pl + 1)) = cq_s h := Eq.trans rfl rfl
  have hI : ∀ k, k ≠ 5 → k ≠ 17 → cq_I (coR (kpW (cq_sI h a 5 0) (a + 1) (a + 2) (a + 3) (a + 4) (cq_I h (a + 1) 4) n (cq_J h a 13) (cq_I h a 17) r) a v (pl + 1)) a k = cq_I h a k := fun k w w2 => by
    unfold coR
    rw [mm_sI, if_neg (fun q => w2 q.2), mm_IJ, kpW_I n1 n3, mm_sI, if_neg (fun q => w q.2)]
  have h5 : cq_I (coR (kpW (cq_sI h a 5 0) (a + 1) (a + 2) (a + 3) (a + 4) (cq_I h (a + 1) 4) n (cq_J h a 13) (cq_I h a 17) r) a v (pl + 1)) a 5 = 0 := by
    unfold coR
    rw [mm_sI, if_neg (fun q => absurd q.2 (by decide)), mm_IJ, kpW_I n1 n3, mm_sI, if_pos ⟨rfl, rfl⟩]
  have h17 : cq_I (coR (kpW (cq_sI h a 5 0) (a + 1) (a + 2) (a + 3) (a + 4) (cq_I h (a + 1) 4) n (cq_J h a 13) (cq_I h a 17) r) a v (pl + 1)) a 17 = pl + 1 := by
    unfold coR
    rw [mm_sI, if_pos ⟨rfl, rfl⟩]
  have Ja : ∀ k, k ≠ 10 → cq_J (coR (kpW (cq_sI h a 5 0) (a + 1) (a + 2) (a + 3) (a + 4) (cq_I h (a + 1) 4) n (cq_J h a 13) (cq_I h a 17) r) a v (pl + 1)) a k = cq_J h a k := fun k w => by
    unfold coR
    rw [mm_JI, mm_sJ, if_neg (fun q => w q.2), kpW_J n2 n4, mm_JI]
  have J10 : cq_J (coR (kpW (cq_sI h a 5 0) (a + 1) (a + 2) (a + 3) (a + 4) (cq_I h (a + 1) 4) n (cq_J h a 13) (cq_I h a 17) r) a v (pl + 1)) a 10 = v := by
    unfold coR
    rw [mm_JI, mm_sJ, if_pos ⟨rfl, rfl⟩]
  have hJ : ∀ d, d ≠ a → d ≠ a + 2 → d ≠ a + 4 → ∀ k, cq_J (coR (kpW (cq_sI h a 5 0) (a + 1) (a + 2) (a + 3) (a + 4) (cq_I h (a + 1) 4) n (cq_J h a 13) (cq_I h a 17) r) a v (pl + 1)) d k = cq_J h d k := fun d w w1 w2 k => by
    unfold coR
    rw [mm_JI, mm_sJ, if_neg (fun q => w q.1), kpW_J w1 w2, mm_JI]
  have h4 : cq_I (coR (kpW (cq_sI h a 5 0) (a + 1) (a + 2) (a + 3) (a + 4) (cq_I h (a + 1) 4) n (cq_J h a 13) (cq_I h a 17) r) a v (pl + 1)) (a + 1) 4 = cq_I h (a + 1) 4 + n := by
    unfold coR
    rw [mm_sI, if_neg (fun q => m1 q.1), mm_IJ, kpW_4]
  have r2 : ∀ k, cq_J (coR (kpW (cq_sI h a 5 0) (a + 1) (a + 2) (a + 3) (a + 4) (cq_I h (a + 1) 4) n (cq_J h a 13) (cq_I h a 17) r) a v (pl + 1)) (a + 2) k = kpF (cq_J h (a + 2)) (cq_I h (a + 1) 4) n (fun _ => cq_J h a 13) k := fun k => by
    unfold coR kpW
    simp only [mm_sI, mm_sJ, mm_sA, mm_IJ, mm_IA, mm_JI, mm_JA, mm_AI, mm_AJ, mm_ssI, mm_ssJ, mm_ssA, mm_zI, mm_zJ, mm_zA, mm_nI, mm_nJ, mm_nA, rr_I, rr_J, rr_A, rr_IJ, rr_IA, rr_JI, rr_JA, rr_AI, rr_AJ, rr_sI, rr_sJ, rr_sA, rr_zI, rr_zJ, rr_zA, m2, Nat.left_eq_add, Nat.add_eq_left, Nat.add_left_cancel_iff, Nat.reduceEqDiff, Int.reduceEq, false_and, and_false, if_false, if_true, and_self, true_and, true_or, or_true, false_or, or_false]
  have r3 : ∀ k, cq_I (coR (kpW (cq_sI h a 5 0) (a + 1) (a + 2) (a + 3) (a + 4) (cq_I h (a + 1) 4) n (cq_J h a 13) (cq_I h a 17) r) a v (pl + 1)) (a + 3) k = kpF (cq_I h (a + 3)) (cq_I h (a + 1) 4) n (fun i => cq_I h a 17 + i) k := fun k => by
    unfold coR kpW
    have e : cq_I (cq_sI h a 5 0) (a + 3) = cq_I h (a + 3) := by
      funext k
      rw [mm_sI, if_neg (fun q => by omega)]
    simp only [mm_sI, mm_IJ, rr_IJ, rr_I, m3, Nat.left_eq_add, Nat.add_eq_left, Nat.add_left_cancel_iff, Nat.reduceEqDiff, Int.reduceEq, false_and, and_false, if_false, if_true, and_self, true_and, true_or, or_true, false_or, or_false]
    try rw [e]
    try rfl
  have r4 : ∀ k, cq_J (coR (kpW (cq_sI h a 5 0) (a + 1) (a + 2) (a + 3) (a + 4) (cq_I h (a + 1) 4) n (cq_J h a 13) (cq_I h a 17) r) a v (pl + 1)) (a + 4) k = kpF (cq_J h (a + 4)) (cq_I h (a + 1) 4) n r k := fun k => by
    unfold coR kpW
    simp only [mm_sI, mm_sJ, mm_sA, mm_IJ, mm_IA, mm_JI, mm_JA, mm_AI, mm_AJ, mm_ssI, mm_ssJ, mm_ssA, mm_zI, mm_zJ, mm_zA, mm_nI, mm_nJ, mm_nA, rr_I, rr_J, rr_A, rr_IJ, rr_IA, rr_JI, rr_JA, rr_AI, rr_AJ, rr_sI, rr_sJ, rr_sA, rr_zI, rr_zJ, rr_zA, m4, Nat.left_eq_add, Nat.add_eq_left, Nat.add_left_cancel_iff, Nat.reduceEqDiff, Int.reduceEq, false_and, and_false, if_false, if_true, and_self, true_and, true_or, or_true, false_or, or_false]
  generalize coR (kpW (cq_sI h a 5 0) (a + 1) (a + 2) (a + 3) (a + 4) (cq_I h (a + 1) 4) n (cq_J h a 13) (cq_I h a 17) r) a v (pl + 1) = h1 at hA hs hI h5 h17 Ja J10 hJ h4 r2 r3 r4 ⊢
  refine ⟨by rw [hs]; exact F.s0, by rw [hs]; exact F.s1, by rw [hs]; exact F.s2, by rw [hs]; exact F.s3, by rw [hs]; exact F.s4, by rw [hA]; exact F.a19, by rw [hA]; exact F.k0, by rw [hA]; exact F.k1, by rw [hA]; exact F.k2, by rw [hI 0 (by decide) (by decide), gI 44 (by omega) (by decide) (by decide) (by decide)]; exact F.bg, by rw [Ja 2 (by decide), gJ 45 (by omega) (by decide)]; exact F.be, by rw [h5, Q.i43], fun q => absurd Q.i43 q, by rw [Ja 6 (by decide), gJ 31 (by omega) (by decide)]; exact F.rt, by rw [Ja 8 (by decide), gJ 32 (by omega) (by decide)]; exact F.sn, by rw [hA]; exact F.s9, by rw [gI 33 (by omega) (by decide) (by decide) (by decide)]; exact F.hs, by rw [hA, gI 35 (by omega) (by decide) (by decide) (by decide)]; exact F.hr, fun _ => by rw [J10, Q.j34, ev], fun q => absurd q (by rw [gI 35 (by omega) (by decide) (by decide) (by decide)]; exact h35), ?_, by rw [Ja 13 (by decide), gJ 38 (by omega) (by decide)]; exact F.ot, by rw [hI 15 (by decide) (by decide), gI 39 (by omega) (by decide) (by decide) (by decide)]; exact F.ho, by rw [hI 16 (by decide) (by decide), gI 40 (by omega) (by decide) (by decide) (by decide)]; exact F.ns, by rw [h17, Q.i41, ep], by rw [hI 18 (by decide) (by decide), gI 42 (by omega) (by decide) (by decide) (by decide)]; exact F.pn, by rw [h4, Q.i53, km], by rw [Q.i53]; omega, fun k k1 k2 => ?_⟩
  · obtain ⟨w, q1, q2, q3, q4⟩ := F.ow
    have f0 := F.s0
    have f2 := F.s2
    have f4 := F.s4
    have w0 : w ≠ a := fun z => by rw [z, f0] at q2; exact absurd q2 (by decide)
    have w2 : w ≠ a + 2 := fun z => by rw [z, f2] at q2; exact absurd q2 (by decide)
    have w4 : w ≠ a + 4 := fun z => by rw [z, f4] at q2; exact absurd q2 (by decide)
    exact ⟨w, by rw [hA]; exact q1, by rw [hs]; exact q2, by rw [hJ w w0 w2 w4, gJ 36 (by omega) (by decide)]; exact q3, by rw [hJ w w0 w2 w4, gJ 37 (by omega) (by decide)]; exact q4⟩
  · rw [Q.i53] at k2
    rw [r2, r3, r4]
    unfold kpF
    rw [km]
    by_cases w : cq_I g (x + 53) s ≤ k
    · have y := Q.n_ (k - cq_I g (x + 53) s) (by omega) (by omega)
      have e : cq_I g (x + 53) s + (k - cq_I g (x + 53) s) = k := by omega
      rw [e] at y
      rw [if_pos ⟨w, k2⟩, if_pos ⟨w, k2⟩, if_pos ⟨w, k2⟩, y.1, y.2.1, y.2.2, ot, nr, er _ (by omega) (by omega)]
      exact ⟨rfl, rfl, rfl⟩
    · have y := Q.k_ k k1 (by omega)
      rw [if_neg (fun q => w q.1), if_neg (fun q => w q.1), if_neg (fun q => w q.1), y.1, y.2.1, y.2.2]
      exact F.kk k k1 (by omega)
end
/-! class and reference side by side: a SESSION that has opened a letter behind a TURN -/
def OK3 (x : Nat) (s n0 n1 : Int) (eo C R1 X2 V O : Int64) (g g' : cx_Q) : Prop := (∀ o j, inS s o j → o ≠ 33 → o ≠ 35 → o ≠ 39 → o ≠ 40 → o ≠ 41 → o ≠ 42 → o ≠ 43 → o ≠ 53 → o ≠ 55 → cq_I g' (x + o) j = cq_I g (x + o) j) ∧ (∀ o j, inS s o j → o ≠ 31 → o ≠ 32 → o ≠ 34 → o ≠ 36 → o ≠ 37 → o ≠ 38 → o ≠ 54 → o ≠ 56 → cq_J g' (x + o) j = cq_J g (x + o) j) ∧ (cq_I g' (x + 33) s = 1) ∧ (cq_I g' (x + 35) s = 1) ∧ (cq_I g' (x + 39) s = 1) ∧ (cq_I g' (x + 40) s = 0) ∧ (cq_I g' (x + 41) s = n1 + 1) ∧ (cq_I g' (x + 42) s = cq_I g (x + 40) s) ∧ (cq_I g' (x + 43) s = 0) ∧ (cq_I g' (x + 53) s = cq_I g (x + 53) s + n0 + n1) ∧ (cq_J g' (x + 31) s = f_key 1 R1 X2) ∧ (cq_J g' (x + 32) s = f_key 2 R1 X2) ∧ (cq_J g' (x + 34) s = nxI (n1.toNat + 1) C) ∧ (cq_J g' (x + 36) s = V) ∧ (cq_J g' (x + 37) s = O) ∧ (cq_J g' (x + 38) s = eo) ∧ (∀ k, 0 ≤ k → k < cq_I g (x + 53) s → cq_J g' (x + 54) (20 * s + k) = cq_J g (x + 54) (20 * s + k) ∧ cq_I g' (x + 55) (20 * s + k) = cq_I g (x + 55) (20 * s + k) ∧ cq_J g' (x + 56) (20 * s + k) = cq_J g (x + 56) (20 * s + k)) ∧ (∀ i, 0 ≤ i → i < n0 → cq_J g' (x + 54) (20 * s + (cq_I g (x + 53) s + i)) = cq_J g (x + 38) s ∧ cq_I g' (x + 55) (20 * s + (cq_I g (x + 53) s + i)) = cq_I g (x + 41) s + i ∧ cq_J g' (x + 56) (20 * s + (cq_I g (x + 53) s + i)) = lkC (nxI i.toNat (cq_J g (x + 34) s))) ∧ (∀ i, 0 ≤ i → i < n1 → cq_J g' (x + 54) (20 * s + (cq_I g (x + 53) s + n0 + i)) = eo ∧ cq_I g' (x + 55) (20 * s + (cq_I g (x + 53) s + n0 + i)) = i ∧ cq_J g' (x + 56) (20 * s + (cq_I g (x + 53) s + n0 + i)) = lkC (nxI i.toNat C))
theorem OK3.I_ {x : Nat} {s n0 n1 : Int} {eo C R1 X2 V O : Int64} {g g' : cx_Q} (F_ : OK3 x s n0 n1 eo C R1 X2 V O g g') : ∀ o j, inS s o j → o ≠ 33 → o ≠ 35 → o ≠ 39 → o ≠ 40 → o ≠ 41 → o ≠ 42 → o ≠ 43 → o ≠ 53 → o ≠ 55 → cq_I g' (x + o) j = cq_I g (x + o) j := F_.1
theorem OK3.J_ {x : Nat} {s n0 n1 : Int} {eo C R1 X2 V O : Int64} {g g' : cx_Q} (F_ : OK3 x s n0 n1 eo C R1 X2 V O g g') : ∀ o j, inS s o j → o ≠ 31 → o ≠ 32 → o ≠ 34 → o ≠ 36 → o ≠ 37 → o ≠ 38 → o ≠ 54 → o ≠ 56 → cq_J g' (x + o) j = cq_J g (x + o) j := F_.2.1
theorem OK3.i33 {x : Nat} {s n0 n1 : Int} {eo C R1 X2 V O : Int64} {g g' : cx_Q} (F_ : OK3 x s n0 n1 eo C R1 X2 V O g g') : cq_I g' (x + 33) s = 1 := F_.2.2.1
theorem OK3.i35 {x : Nat} {s n0 n1 : Int} {eo C R1 X2 V O : Int64} {g g' : cx_Q} (F_ : OK3 x s n0 n1 eo C R1 X2 V O g g') : cq_I g' (x + 35) s = 1 := F_.2.2.2.1
theorem OK3.i39 {x : Nat} {s n0 n1 : Int} {eo C R1 X2 V O : Int64} {g g' : cx_Q} (F_ : OK3 x s n0 n1 eo C R1 X2 V O g g') : cq_I g' (x + 39) s = 1 := F_.2.2.2.2.1
theorem OK3.i40 {x : Nat} {s n0 n1 : Int} {eo C R1 X2 V O : Int64} {g g' : cx_Q} (F_ : OK3 x s n0 n1 eo C R1 X2 V O g g') : cq_I g' (x + 40) s = 0 := F_.2.2.2.2.2.1
theorem OK3.i41 {x : Nat} {s n0 n1 : Int} {eo C R1 X2 V O : Int64} {g g' : cx_Q} (F_ : OK3 x s n0 n1 eo C R1 X2 V O g g') : cq_I g' (x + 41) s = n1 + 1 := F_.2.2.2.2.2.2.1
theorem OK3.i42 {x : Nat} {s n0 n1 : Int} {eo C R1 X2 V O : Int64} {g g' : cx_Q} (F_ : OK3 x s n0 n1 eo C R1 X2 V O g g') : cq_I g' (x + 42) s = cq_I g (x + 40) s := F_.2.2.2.2.2.2.2.1
theorem OK3.i43 {x : Nat} {s n0 n1 : Int} {eo C R1 X2 V O : Int64} {g g' : cx_Q} (F_ : OK3 x s n0 n1 eo C R1 X2 V O g g') : cq_I g' (x + 43) s = 0 := F_.2.2.2.2.2.2.2.2.1
theorem OK3.i53 {x : Nat} {s n0 n1 : Int} {eo C R1 X2 V O : Int64} {g g' : cx_Q} (F_ : OK3 x s n0 n1 eo C R1 X2 V O g g') : cq_I g' (x + 53) s = cq_I g (x + 53) s + n0 + n1 := F_.2.2.2.2.2.2.2.2.2.1
theorem OK3.j31 {x : Nat} {s n0 n1 : Int} {eo C R1 X2 V O : Int64} {g g' : cx_Q} (F_ : OK3 x s n0 n1 eo C R1 X2 V O g g') : cq_J g' (x + 31) s = f_key 1 R1 X2 := F_.2.2.2.2.2.2.2.2.2.2.1
theorem OK3.j32 {x : Nat} {s n0 n1 : Int} {eo C R1 X2 V O : Int64} {g g' : cx_Q} (F_ : OK3 x s n0 n1 eo C R1 X2 V O g g') : cq_J g' (x + 32) s = f_key 2 R1 X2 := F_.2.2.2.2.2.2.2.2.2.2.2.1
theorem OK3.j34 {x : Nat} {s n0 n1 : Int} {eo C R1 X2 V O : Int64} {g g' : cx_Q} (F_ : OK3 x s n0 n1 eo C R1 X2 V O g g') : cq_J g' (x + 34) s = nxI (n1.toNat + 1) C := F_.2.2.2.2.2.2.2.2.2.2.2.2.1
theorem OK3.j36 {x : Nat} {s n0 n1 : Int} {eo C R1 X2 V O : Int64} {g g' : cx_Q} (F_ : OK3 x s n0 n1 eo C R1 X2 V O g g') : cq_J g' (x + 36) s = V := F_.2.2.2.2.2.2.2.2.2.2.2.2.2.1
theorem OK3.j37 {x : Nat} {s n0 n1 : Int} {eo C R1 X2 V O : Int64} {g g' : cx_Q} (F_ : OK3 x s n0 n1 eo C R1 X2 V O g g') : cq_J g' (x + 37) s = O := F_.2.2.2.2.2.2.2.2.2.2.2.2.2.2.1
theorem OK3.j38 {x : Nat} {s n0 n1 : Int} {eo C R1 X2 V O : Int64} {g g' : cx_Q} (F_ : OK3 x s n0 n1 eo C R1 X2 V O g g') : cq_J g' (x + 38) s = eo := F_.2.2.2.2.2.2.2.2.2.2.2.2.2.2.2.1
theorem OK3.k_ {x : Nat} {s n0 n1 : Int} {eo C R1 X2 V O : Int64} {g g' : cx_Q} (F_ : OK3 x s n0 n1 eo C R1 X2 V O g g') : ∀ k, 0 ≤ k → k < cq_I g (x + 53) s → cq_J g' (x + 54) (20 * s + k) = cq_J g (x + 54) (20 * s + k) ∧ cq_I g' (x + 55) (20 * s + k) = cq_I g (x + 55) (20 * s + k) ∧ cq_J g' (x + 56) (20 * s + k) = cq_J g (x + 56) (20 * s + k) := F_.2.2.2.2.2.2.2.2.2.2.2.2.2.2.2.2.1
theorem OK3.m_ {x : Nat} {s n0 n1 : Int} {eo C R1 X2 V O : Int64} {g g' : cx_Q} (F_ : OK3 x s n0 n1 eo C R1 X2 V O g g') : ∀ i, 0 ≤ i → i < n0 → cq_J g' (x + 54) (20 * s + (cq_I g (x + 53) s + i)) = cq_J g (x + 38) s ∧ cq_I g' (x + 55) (20 * s + (cq_I g (x + 53) s + i)) = cq_I g (x + 41) s + i ∧ cq_J g' (x + 56) (20 * s + (cq_I g (x + 53) s + i)) = lkC (nxI i.toNat (cq_J g (x + 34) s)) := F_.2.2.2.2.2.2.2.2.2.2.2.2.2.2.2.2.2.1
theorem OK3.n_ {x : Nat} {s n0 n1 : Int} {eo C R1 X2 V O : Int64} {g g' : cx_Q} (F_ : OK3 x s n0 n1 eo C R1 X2 V O g g') : ∀ i, 0 ≤ i → i < n1 → cq_J g' (x + 54) (20 * s + (cq_I g (x + 53) s + n0 + i)) = eo ∧ cq_I g' (x + 55) (20 * s + (cq_I g (x + 53) s + n0 + i)) = i ∧ cq_J g' (x + 56) (20 * s + (cq_I g (x + 53) s + n0 + i)) = lkC (nxI i.toNat C) := F_.2.2.2.2.2.2.2.2.2.2.2.2.2.2.2.2.2.2
section
variable {m : cx_Q} {a q t p k b0 b1 b2 d : Nat} {s sz mm nr : Int} {u v r y o' : Int64} {o : Option Nat} {key : Int → Int64}
theorem trW_o (w : d ≠ a) : cq_I (trW m a q s u v o) d = cq_I m d ∧ cq_J (trW m a q s u v o) d = cq_J m d ∧ cq_A (trW m a q s u v o) d = cq_A m d := by
  unfold trW
  refine ⟨?_, ?_, ?_⟩ <;> (funext j; simp only [mm_sI, mm_sJ, mm_sA, mm_IJ, mm_IA, mm_JI, mm_JA, mm_AI, mm_AJ, mm_ssI, mm_ssJ, mm_ssA, mm_zI, mm_zJ, mm_zA, mm_nI, mm_nJ, mm_nA, w, Nat.left_eq_add, Nat.add_eq_left, Nat.add_left_cancel_iff, Nat.reduceEqDiff, Int.reduceEq, false_and, and_false, if_false, if_true, and_self, true_and, true_or, or_true, false_or, or_false])
theorem trW_i {j : Int} : cq_I (trW m a q s u v o) a j = if j = 15 then 1 else if j = 17 then 0 else if j = 16 then 0 else if j = 18 then s else cq_I m a j := by
  unfold trW
  simp only [mm_sI, mm_sJ, mm_sA, mm_IJ, mm_IA, mm_JI, mm_JA, mm_AI, mm_AJ, mm_ssI, mm_ssJ, mm_ssA, mm_zI, mm_zJ, mm_zA, mm_nI, mm_nJ, mm_nA, Nat.left_eq_add, Nat.add_eq_left, Nat.add_left_cancel_iff, Nat.reduceEqDiff, Int.reduceEq, false_and, and_false, if_false, if_true, and_self, true_and, true_or, or_true, false_or, or_false]
theorem trW_j {j : Int} : cq_J (trW m a q s u v o) a j = if j = 6 then v else if j = 13 then u else cq_J m a j := by
  unfold trW
  simp only [mm_sI, mm_sJ, mm_sA, mm_IJ, mm_IA, mm_JI, mm_JA, mm_AI, mm_AJ, mm_ssI, mm_ssJ, mm_ssA, mm_zI, mm_zJ, mm_zA, mm_nI, mm_nJ, mm_nA, Nat.left_eq_add, Nat.add_eq_left, Nat.add_left_cancel_iff, Nat.reduceEqDiff, Int.reduceEq, false_and, and_false, if_false, if_true, and_self, true_and, true_or, or_true, false_or, or_false]
theorem trW_a {j : Int} : cq_A (trW m a q s u v o) a j = if j = 11 then some q else if j = 7 then some q else if j = 14 then o else cq_A m a j := by
  unfold trW
  simp only [mm_sI, mm_sJ, mm_sA, mm_IJ, mm_IA, mm_JI, mm_JA, mm_AI, mm_AJ, mm_ssI, mm_ssJ, mm_ssA, mm_zI, mm_zJ, mm_zA, mm_nI, mm_nJ, mm_nA, Nat.left_eq_add, Nat.add_eq_left, Nat.add_left_cancel_iff, Nat.reduceEqDiff, Int.reduceEq, false_and, and_false, if_false, if_true, and_self, true_and, true_or, or_true, false_or, or_false]
theorem tsW_o (w : d ≠ a) : cq_I (tsW m a t q r y) d = cq_I m d ∧ cq_J (tsW m a t q r y) d = cq_J m d ∧ cq_A (tsW m a t q r y) d = cq_A m d := by
  unfold tsW
  refine ⟨?_, ?_, ?_⟩ <;> (funext j; simp only [mm_sI, mm_sJ, mm_sA, mm_IJ, mm_IA, mm_JI, mm_JA, mm_AI, mm_AJ, mm_ssI, mm_ssJ, mm_ssA, mm_zI, mm_zJ, mm_zA, mm_nI, mm_nJ, mm_nA, w, Nat.left_eq_add, Nat.add_eq_left, Nat.add_left_cancel_iff, Nat.reduceEqDiff, Int.reduceEq, false_and, and_false, if_false, if_true, and_self, true_and, true_or, or_true, false_or, or_false])
theorem tsW_i {j : Int} : cq_I (tsW m a t q r y) a j = cq_I m a j := by
  unfold tsW
  simp only [mm_sI, mm_sJ, mm_sA, mm_IJ, mm_IA, mm_JI, mm_JA, mm_AI, mm_AJ, mm_ssI, mm_ssJ, mm_ssA, mm_zI, mm_zJ, mm_zA, mm_nI, mm_nJ, mm_nA]
theorem tsW_j {j : Int} : cq_J (tsW m a t q r y) a j = if j = 6 then f_key 1 r y else if j = 8 then f_key 2 r y else cq_J m a j := by
  unfold tsW
  simp only [mm_sI, mm_sJ, mm_sA, mm_IJ, mm_IA, mm_JI, mm_JA, mm_AI, mm_AJ, mm_ssI, mm_ssJ, mm_ssA, mm_zI, mm_zJ, mm_zA, mm_nI, mm_nJ, mm_nA, Nat.left_eq_add, Nat.add_eq_left, Nat.add_left_cancel_iff, Nat.reduceEqDiff, Int.reduceEq, false_and, and_false, if_false, if_true, and_self, true_and, true_or, or_true, false_or, or_false]
theorem tsW_a {j : Int} : cq_A (tsW m a t q r y) a j = if j = 9 then some q else if j = 7 then some q else if j = 12 then some t else cq_A m a j := by
  unfold tsW
  simp only [mm_sI, mm_sJ, mm_sA, mm_IJ, mm_IA, mm_JI, mm_JA, mm_AI, mm_AJ, mm_ssI, mm_ssJ, mm_ssA, mm_zI, mm_zJ, mm_zA, mm_nI, mm_nJ, mm_nA, Nat.left_eq_add, Nat.add_eq_left, Nat.add_left_cancel_iff, Nat.reduceEqDiff, Int.reduceEq, false_and, and_false, if_false, if_true, and_self, true_and, true_or, or_true, false_or, or_false]
theorem coD_o (w : d ≠ p) {i : Int} : cq_I (coD m p t i) d = cq_I m d ∧ cq_A (coD m p t i) d = cq_A m d := by
  unfold coD
  refine ⟨?_, ?_⟩ <;> (funext j; simp only [mm_sI, mm_sJ, mm_sA, mm_IJ, mm_IA, mm_JI, mm_JA, mm_AI, mm_AJ, mm_ssI, mm_ssJ, mm_ssA, mm_zI, mm_zJ, mm_zA, mm_nI, mm_nJ, mm_nA, w, Nat.left_eq_add, Nat.add_eq_left, Nat.add_left_cancel_iff, Nat.reduceEqDiff, Int.reduceEq, false_and, and_false, if_false, if_true, and_self, true_and, true_or, or_true, false_or, or_false])
theorem coR_o (w : d ≠ a) {i : Int} : cq_I (coR m a v i) d = cq_I m d ∧ cq_J (coR m a v i) d = cq_J m d := by
  unfold coR
  refine ⟨?_, ?_⟩ <;> (funext j; simp only [mm_sI, mm_sJ, mm_sA, mm_IJ, mm_IA, mm_JI, mm_JA, mm_AI, mm_AJ, mm_ssI, mm_ssJ, mm_ssA, mm_zI, mm_zJ, mm_zA, mm_nI, mm_nJ, mm_nA, w, Nat.left_eq_add, Nat.add_eq_left, Nat.add_left_cancel_iff, Nat.reduceEqDiff, Int.reduceEq, false_and, and_false, if_false, if_true, and_self, true_and, true_or, or_true, false_or, or_false])
theorem coR_A {i : Int} : cq_A (coR m a v i) = cq_A m := Eq.trans rfl rfl
theorem coR_i {i j : Int} : cq_I (coR m a v i) a j = if j = 17 then i else cq_I m a j := by
  unfold coR
  simp only [mm_sI, mm_sJ, mm_sA, mm_IJ, mm_IA, mm_JI, mm_JA, mm_AI, mm_AJ, mm_ssI, mm_ssJ, mm_ssA, mm_zI, mm_zJ, mm_zA, mm_nI, mm_nJ, mm_nA, Nat.left_eq_add, Nat.add_eq_left, Nat.add_left_cancel_iff, Nat.reduceEqDiff, Int.reduceEq, false_and, and_false, if_false, if_true, and_self, true_and, true_or, or_true, false_or, or_false]
theorem coR_j {i j : Int} : cq_J (coR m a v i) a j = if j = 10 then v else cq_J m a j := by
  unfold coR
  simp only [mm_sI, mm_sJ, mm_sA, mm_IJ, mm_IA, mm_JI, mm_JA, mm_AI, mm_AJ, mm_ssI, mm_ssJ, mm_ssA, mm_zI, mm_zJ, mm_zA, mm_nI, mm_nJ, mm_nA, Nat.left_eq_add, Nat.add_eq_left, Nat.add_left_cancel_iff, Nat.reduceEqDiff, Int.reduceEq, false_and, and_false, if_false, if_true, and_self, true_and, true_or, or_true, false_or, or_false]
theorem kpW_j0 (w : b0 ≠ b2) : cq_J (kpW m k b0 b1 b2 sz mm o' nr key) b0 = kpF (cq_J m b0) sz mm (fun _ => o') := by
  unfold kpW
  funext j
  simp only [mm_sI, mm_sJ, mm_sA, mm_IJ, mm_IA, mm_JI, mm_JA, mm_AI, mm_AJ, mm_ssI, mm_ssJ, mm_ssA, mm_zI, mm_zJ, mm_zA, mm_nI, mm_nJ, mm_nA, rr_I, rr_J, rr_A, rr_IJ, rr_IA, rr_JI, rr_JA, rr_AI, rr_AJ, rr_sI, rr_sJ, rr_sA, rr_zI, rr_zJ, rr_zA, w, Nat.left_eq_add, Nat.add_eq_left, Nat.add_left_cancel_iff, Nat.reduceEqDiff, Int.reduceEq, false_and, and_false, if_false, if_true, and_self, true_and, true_or, or_true, false_or, or_false]
theorem kpW_i1 (w : b1 ≠ k) : cq_I (kpW m k b0 b1 b2 sz mm o' nr key) b1 = kpF (cq_I m b1) sz mm (fun i => nr + i) := by
  unfold kpW
  funext j
  simp only [mm_sI, mm_sJ, mm_sA, mm_IJ, mm_IA, mm_JI, mm_JA, mm_AI, mm_AJ, mm_ssI, mm_ssJ, mm_ssA, mm_zI, mm_zJ, mm_zA, mm_nI, mm_nJ, mm_nA, rr_I, rr_J, rr_A, rr_IJ, rr_IA, rr_JI, rr_JA, rr_AI, rr_AJ, rr_sI, rr_sJ, rr_sA, rr_zI, rr_zJ, rr_zA, w, Nat.left_eq_add, Nat.add_eq_left, Nat.add_left_cancel_iff, Nat.reduceEqDiff, Int.reduceEq, false_and, and_false, if_false, if_true, and_self, true_and, true_or, or_true, false_or, or_false]
theorem kpW_j2 (w : b0 ≠ b2) : cq_J (kpW m k b0 b1 b2 sz mm o' nr key) b2 = kpF (cq_J m b2) sz mm key := by
  have w' : ¬ b2 = b0 := fun z => w z.symm
  unfold kpW
  funext j
  simp only [mm_sI, mm_sJ, mm_sA, mm_IJ, mm_IA, mm_JI, mm_JA, mm_AI, mm_AJ, mm_ssI, mm_ssJ, mm_ssA, mm_zI, mm_zJ, mm_zA, mm_nI, mm_nJ, mm_nA, rr_I, rr_J, rr_A, rr_IJ, rr_IA, rr_JI, rr_JA, rr_AI, rr_AJ, rr_sI, rr_sJ, rr_sA, rr_zI, rr_zJ, rr_zA, w', Nat.left_eq_add, Nat.add_eq_left, Nat.add_left_cancel_iff, Nat.reduceEqDiff, Int.reduceEq, false_and, and_false, if_false, if_true, and_self, true_and, true_or, or_true, false_or, or_false]
end
section
variable {x a : Nat} {s : Int} {h g g' m : cx_Q}
theorem SR0.turn {p t q q2 : Nat} {n0 n1 pl d : Int} {eo C R1 X2 V O v6 : Int64} {o : Option Nat} {r1 r2 : Int → Int64} (F : SR0 x a s h g) (Q : OK3 x s n0 n1 eo C R1 X2 V O g g') (hn : 0 ≤ n0 ∧ 0 ≤ n1 ∧ cq_I g (x + 53) s + n0 + n1 ≤ 20) (sp : cq_s h p = 4) (ep : pl = n1) (e6 : v6 = nxI (n1.toNat + 1) C) (er1 : ∀ i, 0 ≤ i → i < n0 → r1 i = lkC (nxI i.toNat (cq_J g (x + 34) s))) (er2 : ∀ i, 0 ≤ i → i < n1 → r2 i = lkC (nxI i.toNat C))
    (e : ev (tsW (coD (coR (kpW (trW (kpW (cq_sI h a 5 0) (a + 1) (a + 2) (a + 3) (a + 4) (cq_I h (a + 1) 4) n0 (cq_J h a 13) (cq_I h a 17) r1) a q (cq_I h a 16) eo R1 o) (a + 1) (a + 2) (a + 3) (a + 4) (cq_I h (a + 1) 4 + n0) n1 eo 0 r2) a v6 (pl + 1)) p t d) a t q2 R1 X2) m) (st : cq_s m t = 6) (jt0 : cq_J m t 0 = V) (jt1 : cq_J m t 1 = O) : SR x a s m g' := by
  have k20 := F.k20
  have km := F.km
  have s0 := F.s0
  have s1 := F.s1
  have s2 := F.s2
  have s3 := F.s3
  have s4 := F.s4
  have n1' : a ≠ a + 1 := by omega
  have n2 : a ≠ a + 2 := by omega
  have n3 : a ≠ a + 3 := by omega
  have n4 : a ≠ a + 4 := by omega
  have np : ∀ {d k : Nat}, cq_s h d = k → k ≠ 4 → d ≠ p := fun w w2 z => w2 (by rw [← w, z, sp])
  have es : cq_s (tsW (coD (coR (kpW (trW (kpW (cq_sI h a 5 0) (a + 1) (a + 2) (a + 3) (a + 4) (cq_I h (a + 1) 4) n0 (cq_J h a 13) (cq_I h a 17) r1) a q (cq_I h a 16) eo R1 o) (a + 1) (a + 2) (a + 3) (a + 4) (cq_I h (a + 1) 4 + n0) n1 eo 0 r2) a v6 (pl + 1)) p t d) a t q2 R1 X2) = cq_s h := by
    rw [tsW_s, coD_s, coR_s, kpW_qs, trW_s, kpW_qs]
    exact Eq.trans rfl rfl
  have hI : ∀ j, cq_I m a j = if j = 17 then pl + 1 else if j = 15 then 1 else if j = 16 then 0 else if j = 18 then cq_I h a 16 else if j = 5 then 0 else cq_I h a j := fun j => by
    rw [e.I (k0 := 7) (by rw [es]; exact s0) rfl, tsW_i, (coD_o (np s0 (by decide))).1, coR_i, kpW_I n1' n3, trW_i, kpW_I n1' n3, mm_sI]
    by_cases w1 : j = 17
    · rw [if_pos w1, if_pos w1]
    rw [if_neg w1, if_neg w1, if_neg w1]
    simp only [eq_self_iff_true, true_and]
  have hJ : ∀ j, cq_J m a j = if j = 6 then f_key 1 R1 X2 else if j = 8 then f_key 2 R1 X2 else if j = 10 then v6 else if j = 13 then eo else cq_J h a j := fun j => by
    rw [e.J (k0 := 7) (by rw [es]; exact s0) (by decide), tsW_j, coD_J, coR_j, kpW_J n2 n4, trW_j, kpW_J n2 n4, mm_JI]
    by_cases w : j = 6
    · rw [if_pos w, if_pos w]
    · rw [if_neg w, if_neg w, if_neg w]
  have hA : ∀ j, cq_A m a j = if j = 9 then some q2 else if j = 7 then some q2 else if j = 12 then some t else if j = 11 then some q else if j = 14 then o else cq_A h a j := fun j => by
    rw [e.A (k0 := 7) (by rw [es]; exact s0) rfl, tsW_a, (coD_o (np s0 (by decide))).2, coR_A, kpW_qA, trW_a, kpW_qA]
    by_cases w : j = 7
    · rw [if_pos w, if_pos w]
    · rw [if_neg w, if_neg w, if_neg w]
      rfl
  have A1 : cq_A m (a + 1) = cq_A h (a + 1) := by
    rw [e.A (k0 := 1) (by rw [es]; exact s1) rfl, (tsW_o n1'.symm).2.2, (coD_o (np s1 (by decide))).2, coR_A, kpW_qA, (trW_o n1'.symm).2.2, kpW_qA]
    exact Eq.trans rfl rfl
  have I1 : cq_I m (a + 1) 4 = cq_I h (a + 1) 4 + n0 + n1 := by
    rw [e.I (k0 := 1) (by rw [es]; exact s1) rfl, (tsW_o n1'.symm).1, (coD_o (np s1 (by decide))).1, (coR_o n1'.symm).1, kpW_4]
  have J2 : cq_J m (a + 2) = kpF (kpF (cq_J h (a + 2)) (cq_I h (a + 1) 4) n0 (fun _ => cq_J h a 13)) (cq_I h (a + 1) 4 + n0) n1 (fun _ => eo) := by
    rw [e.J (k0 := 171) (by rw [es]; exact s2) (by decide), (tsW_o n2.symm).2.1, coD_J, (coR_o n2.symm).2, kpW_j0 (by omega), (trW_o n2.symm).2.1, kpW_j0 (by omega)]
    exact Eq.trans rfl rfl
  have I3 : cq_I m (a + 3) = kpF (kpF (cq_I h (a + 3)) (cq_I h (a + 1) 4) n0 (fun i => cq_I h a 17 + i)) (cq_I h (a + 1) 4 + n0) n1 (fun i => 0 + i) := by
    have e3 : cq_I (cq_sI h a 5 0) (a + 3) = cq_I h (a + 3) := by
      funext k
      rw [mm_sI, if_neg (fun q => by omega)]
    rw [e.I (k0 := 172) (by rw [es]; exact s3) rfl, (tsW_o n3.symm).1, (coD_o (np s3 (by decide))).1, (coR_o n3.symm).1, kpW_i1 (by omega), (trW_o n3.symm).1, kpW_i1 (by omega), e3]
  have J4 : cq_J m (a + 4) = kpF (kpF (cq_J h (a + 4)) (cq_I h (a + 1) 4) n0 r1) (cq_I h (a + 1) 4 + n0) n1 r2 := by
    rw [e.J (k0 := 173) (by rw [es]; exact s4) (by decide), (tsW_o n4.symm).2.1, coD_J, (coR_o n4.symm).2, kpW_j2 (by omega), (trW_o n4.symm).2.1, kpW_j2 (by omega)]
    exact Eq.trans rfl rfl
  have ms : ∀ {d k : Nat}, cq_s h d = k → k ≠ 99 → cq_s m d = k := fun w w2 => e.s (by rw [es]; exact w) w2
  clear e es
  have gI : ∀ o, ((31 ≤ o ∧ o ≤ 47) ∨ o = 53) → o ≠ 33 → o ≠ 35 → o ≠ 39 → o ≠ 40 → o ≠ 41 → o ≠ 42 → o ≠ 43 → o ≠ 53 → cq_I g' (x + o) s = cq_I g (x + o) s := fun o w w1 w2 w3 w4 w5 w6 w7 w8 => Q.I_ o s (Or.inl ⟨w, rfl⟩) w1 w2 w3 w4 w5 w6 w7 w8 (by omega)
  have gJ : ∀ o, ((31 ≤ o ∧ o ≤ 47) ∨ o = 53) → o ≠ 31 → o ≠ 32 → o ≠ 34 → o ≠ 36 → o ≠ 37 → o ≠ 38 → cq_J g' (x + o) s = cq_J g (x + o) s := fun o w w1 w2 w3 w4 w5 w6 => Q.J_ o s (Or.inl ⟨w, rfl⟩) w1 w2 w3 w4 w5 w6 (by omega) (by omega)
  have i35 := Q.i35
  refine ⟨ms s0 (by decide), ms s1 (by decide), ms s2 (by decide), ms s3 (by decide), ms s4 (by decide), (hA 19).trans F.a19, by rw [A1]; exact F.k0, by rw [A1]; exact F.k1, by rw [A1]; exact F.k2, (hI 0).trans (by rw [gI 44 (by omega) (by decide) (by decide) (by decide) (by decide) (by decide) (by decide) (by decide) (by decide)]; exact F.bg), (hJ 2).trans (by rw [gJ 45 (by omega) (by decide) (by decide) (by decide) (by decide) (by decide) (by decide)]; exact F.be), (hI 5).trans Q.i43.symm, fun w => absurd Q.i43 w, (hJ 6).trans Q.j31.symm, (hJ 8).trans Q.j32.symm, by rw [hA]; exact Option.some_ne_none _, by rw [Q.i33]; decide, ⟨fun w => (by rw [hA] at w; cases w), fun w => (by omega)⟩, fun _ => (hJ 10).trans (by rw [Q.j34, e6]; rfl), fun w => by omega, ⟨t, hA 12, st, by rw [jt0, Q.j36], by rw [jt1, Q.j37]⟩, (hJ 13).trans Q.j38.symm, (hI 15).trans Q.i39.symm, (hI 16).trans Q.i40.symm, (hI 17).trans (by rw [Q.i41, ep]; rfl), (hI 18).trans (by rw [Q.i42]; exact F.ns), by rw [I1, Q.i53, km], by rw [Q.i53]; omega, fun k k1 k2 => ?_⟩
  rw [Q.i53] at k2
  rw [J2, I3, J4]
  unfold kpF
  rw [km]
  by_cases w : cq_I g (x + 53) s + n0 ≤ k
  · have y := Q.n_ (k - (cq_I g (x + 53) s + n0)) (by omega) (by omega)
    have ee : cq_I g (x + 53) s + n0 + (k - (cq_I g (x + 53) s + n0)) = k := by omega
    rw [ee] at y
    have cc : cq_I g (x + 53) s + n0 ≤ k ∧ k < cq_I g (x + 53) s + n0 + n1 := by omega
    rw [if_pos cc, if_pos cc, if_pos cc, y.1, y.2.1, y.2.2, er2 _ (by omega) (by omega)]
    exact ⟨rfl, (by show 0 + (k - (cq_I g (x + 53) s + n0)) = k - (cq_I g (x + 53) s + n0); omega), rfl⟩
  · have cn : ¬ (cq_I g (x + 53) s + n0 ≤ k ∧ k < cq_I g (x + 53) s + n0 + n1) := fun q => w q.1
    rw [if_neg cn, if_neg cn, if_neg cn]
    by_cases w2 : cq_I g (x + 53) s ≤ k
    · have y := Q.m_ (k - cq_I g (x + 53) s) (by omega) (by omega)
      have ee : cq_I g (x + 53) s + (k - cq_I g (x + 53) s) = k := by omega
      rw [ee] at y
      have cc : cq_I g (x + 53) s ≤ k ∧ k < cq_I g (x + 53) s + n0 := by omega
      rw [if_pos cc, if_pos cc, if_pos cc, y.1, y.2.1, y.2.2, er1 _ (by omega) (by omega)]
      exact ⟨F.ot, by rw [F.nr], rfl⟩
    · have y := Q.k_ k k1 (by omega)
      have cc : ¬ (cq_I g (x + 53) s ≤ k ∧ k < cq_I g (x + 53) s + n0) := fun q => w2 q.1
      rw [if_neg cc, if_neg cc, if_neg cc, y.1, y.2.1, y.2.2]
      exact F.kk k k1 (by omega)
end
/-! the reference, exactly: a letter is opened in a SESSION -/
/-- what was read -/
def RD (x : Nat) (k : Int64) (g g' : cx_Q) : Prop := (∀ j, j ≠ 75 → cq_I g' x j = cq_I g x j) ∧ (cq_I g' x 75 = cq_I g x 83) ∧ (∀ i, 0 ≤ i → i < cq_I g x 83 → cq_I g' (x + 65) i = cx_and (Int64.ofInt (cq_I g (x + 62) (cq_I g x 77 + cq_I g x 82 + i)) ^^^ f_key 5 k (Int64.ofInt i)).toInt32.toInt 255)
theorem RD.x_ {x : Nat} {k : Int64} {g g' : cx_Q} (F_ : RD x k g g') : ∀ j, j ≠ 75 → cq_I g' x j = cq_I g x j := F_.1
theorem RD.x75 {x : Nat} {k : Int64} {g g' : cx_Q} (F_ : RD x k g g') : cq_I g' x 75 = cq_I g x 83 := F_.2.1
theorem RD.r_ {x : Nat} {k : Int64} {g g' : cx_Q} (F_ : RD x k g g') : ∀ i, 0 ≤ i → i < cq_I g x 83 → cq_I g' (x + 65) i = cx_and (Int64.ofInt (cq_I g (x + 62) (cq_I g x 77 + cq_I g x 82 + i)) ^^^ f_key 5 k (Int64.ofInt i)).toInt32.toInt 255 := F_.2.2
/-- what stays: s the SESSION, u who draws d numbers -/
def FRM (x : Nat) (s u d : Int) (g g' : cx_Q) : Prop := (∀ o j, 1 ≤ o → o ≤ 65 → o ∉ tL → ¬ inS s o j → o ≠ 65 → ¬ (o = 12 ∧ j = u) → cq_I g' (x + o) j = cq_I g (x + o) j) ∧ (∀ o j, 1 ≤ o → o ≤ 65 → o ∉ tL → ¬ inS s o j → cq_J g' (x + o) j = cq_J g (x + o) j) ∧ (cq_I g' (x + 12) u = cq_I g (x + 12) u + d)
theorem FRM.I_ {x : Nat} {s u d : Int} {g g' : cx_Q} (F_ : FRM x s u d g g') : ∀ o j, 1 ≤ o → o ≤ 65 → o ∉ tL → ¬ inS s o j → o ≠ 65 → ¬ (o = 12 ∧ j = u) → cq_I g' (x + o) j = cq_I g (x + o) j := F_.1
theorem FRM.J_ {x : Nat} {s u d : Int} {g g' : cx_Q} (F_ : FRM x s u d g g') : ∀ o j, 1 ≤ o → o ≤ 65 → o ∉ tL → ¬ inS s o j → cq_J g' (x + o) j = cq_J g (x + o) j := F_.2.1
theorem FRM.i12 {x : Nat} {s u d : Int} {g g' : cx_Q} (F_ : FRM x s u d g g') : cq_I g' (x + 12) u = cq_I g (x + 12) u + d := F_.2.2
section
variable {x : Nat} {s u : Int} {g gm gr : cx_Q} {k : Int64}
theorem RD.mk2 (hx : ∀ j, cq_I gm x j = cq_I g x j) (h62 : ∀ j, cq_I gm (x + 62) j = cq_I g (x + 62) j) (R : TQ2 x k gm gr) : RD x k g (cq_sI gr (x + 43) s 0) := by
  refine ⟨fun j w => ?_, ?_, fun i i0 i1 => ?_⟩
  · rw [mm_sI, if_neg (fun q => by omega), R.x_ j w, hx]
  · rw [mm_sI, if_neg (fun q => by omega), R.x75, hx]
  · rw [mm_sI, if_neg (fun q => by omega), R.r_ i i0 (by rw [hx]; exact i1), hx, hx, h62]
theorem open1_q {i : Int} (hi : 0 ≤ i ∧ i < cq_I g (x + 53) s) (hk : cq_I g (x + 53) s ≤ 20) : FRM x s u 0 g (m_openK g x s i k) ∧ RD x k g (m_openK g x s i k) ∧ OK1 x s i g (m_openK g x s i k) := by
  have D := drop_q (x := x) (g := g) hi hk
  have R := read_q (x := x) (k := k) (g := m_drop g x s i)
  unfold m_openK
  generalize m_drop g x s i = gm at D R ⊢
  generalize m_readText gm x k = gr at R ⊢
  have n53 : 53 ∉ tL := by decide
  have oI : ∀ o j, 1 ≤ o → o ≠ 65 → o ≠ 43 → cq_I (cq_sI gr (x + 43) s 0) (x + o) j = cq_I gm (x + o) j := fun o j w1 w2 w3 => by rw [mm_sI, if_neg (fun q => w3 (by omega)), R.I_ o j w1 w2]
  have oJ : ∀ a j, cq_J (cq_sI gr (x + 43) s 0) a j = cq_J gm a j := fun a j => by rw [mm_JI, R.J_]
  refine ⟨⟨fun o j w1 w2 w3 w4 w5 w6 => ?_, fun o j w1 w2 w3 w4 => ?_, ?_⟩, RD.mk2 D.x_ (fun j => D.I_ 62 j (by decide) (by omega) (by omega) (by decide)) R, ⟨fun o j w w1 w2 w3 => ?_, fun o j w w1 w2 => ?_, ?_, ?_, fun k' k0 k1 => ?_⟩⟩
  · unfold inS at w4
    by_cases e : o = 43
    · rw [mm_sI, if_neg (fun q => w4 (by omega)), R.I_ o j w1 w5, D.I_ o j w1 (fun q => w4 (by omega)) (fun q => w4 (by omega)) w3]
    · rw [oI o j w1 w5 e, D.I_ o j w1 (fun q => w4 (by omega)) (fun q => w4 (by omega)) w3]
  · unfold inS at w4
    rw [oJ, D.J_ o j w1 (fun q => w4 (by omega)) w3]
  · rw [oI 12 u (by decide) (by decide) (by decide), D.I_ 12 u (by decide) (by omega) (by omega) (by decide)]
    omega
  · obtain ⟨q1, q2, q3⟩ := inS_r w
    unfold inS at w
    rw [oI o j q1 (by omega) w1, D.I_ o j q1 (by omega) (by omega) q3]
  · obtain ⟨q1, q2, q3⟩ := inS_r w
    rw [oJ, D.J_ o j q1 (by omega) q3]
  · rw [mm_sI, if_pos ⟨rfl, rfl⟩]
  · rw [oI 53 s (by decide) (by decide) (by decide), D.i53]
  · rw [oJ, oI 55 _ (by decide) (by decide) (by decide), oJ, D.k54 k' k0 (by omega), D.k55 k' k0 (by omega), D.k56 k' k0 (by omega)]
    by_cases w : i ≤ k'
    · have c : i ≤ k' ∧ k' < cq_I g (x + 53) s - 1 := ⟨w, k1⟩
      rw [if_pos c, if_pos c, if_pos c, if_pos w]
      exact ⟨rfl, rfl, rfl⟩
    · have c : ¬ (i ≤ k' ∧ k' < cq_I g (x + 53) s - 1) := fun q => w q.1
      rw [if_neg c, if_neg c, if_neg c, if_neg w]
      exact ⟨rfl, rfl, rfl⟩
/-- a step of a chain -/
theorem step_q {n : Int} (hn : 0 ≤ n) (K : KQ x s n g gm) : (∀ j, cq_I (m_step gm x s) x j = cq_I g x j) ∧ (∀ o j, 1 ≤ o → ¬ ((o = 41 ∨ o = 53) ∧ j = s) → ¬ (o = 55 ∧ 20 * s ≤ j ∧ j < 20 * s + 20) → cq_I (m_step gm x s) (x + o) j = cq_I g (x + o) j) ∧ (∀ o j, 1 ≤ o → ¬ (o = 34 ∧ j = s) → cq_J (m_step gm x s) (x + o) j = cq_J gm (x + o) j) ∧ cq_I (m_step gm x s) (x + 41) s = cq_I g (x + 41) s + n + 1 ∧ cq_J (m_step gm x s) (x + 34) s = nxI (n.toNat + 1) (cq_J g (x + 34) s) ∧ (∀ o j, 1 ≤ o → o ≠ 41 → cq_I (m_step gm x s) (x + o) j = cq_I gm (x + o) j) := by
  unfold m_step
  refine ⟨fun j => ?_, fun o j w1 w2 w3 => ?_, fun o j w1 w2 => ?_, ?_, ?_, fun o j w1 w2 => ?_⟩
  · rw [mm_sI, if_neg (fun q => by omega), mm_IJ, K.x_]
  · rw [mm_sI, if_neg (fun q => w2 ⟨by omega, q.2⟩), mm_IJ, K.I_ o j w1 w2 w3]
  · rw [mm_JI, mm_sJ, if_neg (fun q => w2 ⟨by omega, q.2⟩)]
  · rw [mm_sI, if_pos ⟨rfl, rfl⟩, K.i41]
  · rw [mm_JI, mm_sJ, if_pos ⟨rfl, rfl⟩, K.j34, nxI_s]
    rfl
  · rw [mm_sI, if_neg (fun q => w2 (by omega)), mm_IJ]
/-- behind the keys of a chain that are passed -/
theorem oEnd_q (h0 : 0 ≤ cq_I g (x + 53) s ∧ 0 ≤ cq_I g x 81 - cq_I g (x + 41) s ∧ cq_I g (x + 53) s + (cq_I g x 81 - cq_I g (x + 41) s) ≤ 20) : FRM x s u 0 g (m_oEnd g x s k) ∧ RD x k g (m_oEnd g x s k) ∧ OK2 x s (cq_I g x 81 - cq_I g (x + 41) s) g (m_oEnd g x s k) := by
  unfold m_oEnd
  generalize en : cq_I g x 81 - cq_I g (x + 41) s = n at h0
  have et : ((n.toNat : Nat) : Int) = n := by omega
  have K := keep_q (x := x) (s := s) (n := n.toNat) (g := g) (by omega)
  rw [et] at K
  generalize m_keep x s n.toNat g = g1 at K ⊢
  obtain ⟨S1, S2, S3, S4, S5, S6⟩ := step_q h0.2.1 K
  have R := read_q (x := x) (k := k) (g := m_step g1 x s)
  generalize m_step g1 x s = gm at S1 S2 S3 S4 S5 S6 R ⊢
  generalize m_readText gm x k = gr at R ⊢
  have oI : ∀ o j, 1 ≤ o → o ≠ 65 → o ≠ 43 → cq_I (cq_sI gr (x + 43) s 0) (x + o) j = cq_I gm (x + o) j := fun o j w1 w2 w3 => by rw [mm_sI, if_neg (fun q => w3 (by omega)), R.I_ o j w1 w2]
  have oJ : ∀ a j, cq_J (cq_sI gr (x + 43) s 0) a j = cq_J gm a j := fun a j => by rw [mm_JI, R.J_]
  refine ⟨⟨fun o j w1 w2 w3 w4 w5 w6 => ?_, fun o j w1 w2 w3 w4 => ?_, ?_⟩, RD.mk2 S1 (fun j => S2 62 j (by decide) (by omega) (by omega)) R, ⟨fun o j w w1 w2 w3 w4 => ?_, fun o j w w1 w2 w3 => ?_, ?_, ?_, ?_, ?_, fun k' k0 k1 => ?_, fun i i0 i1 => ?_⟩⟩
  · unfold inS at w4
    by_cases e : o = 43
    · rw [mm_sI, if_neg (fun q => w4 (by omega)), R.I_ o j w1 w5, S2 o j w1 (fun q => w4 (by omega)) (fun q => w4 (by omega))]
    · rw [oI o j w1 w5 e, S2 o j w1 (fun q => w4 (by omega)) (fun q => w4 (by omega))]
  · unfold inS at w4
    rw [oJ, S3 o j w1 (fun q => w4 (by omega)), K.J_ o j w1 (fun q => w4 (by omega)) (fun q => w4 (by omega))]
  · rw [oI 12 u (by decide) (by decide) (by decide), S2 12 u (by decide) (by omega) (by omega)]
    omega
  · obtain ⟨q1, q2, q3⟩ := inS_r w
    unfold inS at w
    rw [oI o j q1 (by omega) w2, S2 o j q1 (by omega) (by omega)]
  · obtain ⟨q1, q2, q3⟩ := inS_r w
    rw [oJ, S3 o j q1 (by omega), K.J_ o j q1 (by omega) (by omega)]
  · rw [oI 41 s (by decide) (by decide) (by decide), S4]
  · rw [mm_sI, if_pos ⟨rfl, rfl⟩]
  · rw [oI 53 s (by decide) (by decide) (by decide), S6 53 s (by decide) (by decide), K.i53]
  · rw [oJ, S5]
  · rw [oJ, oI 55 _ (by decide) (by decide) (by decide), oJ, S3 54 _ (by decide) (by omega), S3 56 _ (by decide) (by omega), S6 55 _ (by decide) (by decide), K.k54 k' k0 (by omega), K.k55 k' k0 (by omega), K.k56 k' k0 (by omega), if_neg (by omega), if_neg (by omega), if_neg (by omega)]
    exact ⟨rfl, rfl, rfl⟩
  · have c : cq_I g (x + 53) s ≤ cq_I g (x + 53) s + i ∧ cq_I g (x + 53) s + i < cq_I g (x + 53) s + n := by omega
    have e1 : cq_I g (x + 53) s + i - cq_I g (x + 53) s = i := by omega
    rw [oJ, oI 55 _ (by decide) (by decide) (by decide), oJ, S3 54 _ (by decide) (by omega), S3 56 _ (by decide) (by omega), S6 55 _ (by decide) (by decide), K.k54 _ (by omega) (by omega), K.k55 _ (by omega) (by omega), K.k56 _ (by omega) (by omega), if_pos c, if_pos c, if_pos c, e1]
    exact ⟨rfl, rfl, rfl⟩
end
/-! the reference, exactly: a letter is opened behind a TURN -/
def TU (x : Nat) (s u : Int) (X V O : Int64) (g g' : cx_Q) : Prop := (∀ j, cq_I g' x j = cq_I g x j) ∧ (∀ o j, 1 ≤ o → ¬ ((o = 33 ∨ o = 35 ∨ o = 39 ∨ o = 40 ∨ o = 41 ∨ o = 42) ∧ j = s) → ¬ (o = 12 ∧ j = u) → cq_I g' (x + o) j = cq_I g (x + o) j) ∧ (∀ o j, 1 ≤ o → ¬ ((o = 31 ∨ o = 32 ∨ o = 34 ∨ o = 36 ∨ o = 37 ∨ o = 38) ∧ j = s) → cq_J g' (x + o) j = cq_J g (x + o) j) ∧ (cq_I g' (x + 12) u = cq_I g (x + 12) u + 1) ∧ (cq_I g' (x + 33) s = 1) ∧ (cq_I g' (x + 35) s = 1) ∧ (cq_I g' (x + 39) s = 1) ∧ (cq_I g' (x + 40) s = 0) ∧ (cq_I g' (x + 41) s = 0) ∧ (cq_I g' (x + 42) s = cq_I g (x + 40) s) ∧ (cq_J g' (x + 31) s = f_key 1 (f_key 1 (cq_J g (x + 31) s) X) (f_common V (cq_J g x 79))) ∧ (cq_J g' (x + 32) s = f_key 2 (f_key 1 (cq_J g (x + 31) s) X) (f_common V (cq_J g x 79))) ∧ (cq_J g' (x + 34) s = f_key 2 (cq_J g (x + 31) s) X) ∧ (cq_J g' (x + 36) s = V) ∧ (cq_J g' (x + 37) s = O) ∧ (cq_J g' (x + 38) s = cq_J g x 79)
theorem TU.x_ {x : Nat} {s u : Int} {X V O : Int64} {g g' : cx_Q} (F_ : TU x s u X V O g g') : ∀ j, cq_I g' x j = cq_I g x j := F_.1
theorem TU.I_ {x : Nat} {s u : Int} {X V O : Int64} {g g' : cx_Q} (F_ : TU x s u X V O g g') : ∀ o j, 1 ≤ o → ¬ ((o = 33 ∨ o = 35 ∨ o = 39 ∨ o = 40 ∨ o = 41 ∨ o = 42) ∧ j = s) → ¬ (o = 12 ∧ j = u) → cq_I g' (x + o) j = cq_I g (x + o) j := F_.2.1
theorem TU.J_ {x : Nat} {s u : Int} {X V O : Int64} {g g' : cx_Q} (F_ : TU x s u X V O g g') : ∀ o j, 1 ≤ o → ¬ ((o = 31 ∨ o = 32 ∨ o = 34 ∨ o = 36 ∨ o = 37 ∨ o = 38) ∧ j = s) → cq_J g' (x + o) j = cq_J g (x + o) j := F_.2.2.1
theorem TU.i12 {x : Nat} {s u : Int} {X V O : Int64} {g g' : cx_Q} (F_ : TU x s u X V O g g') : cq_I g' (x + 12) u = cq_I g (x + 12) u + 1 := F_.2.2.2.1
theorem TU.i33 {x : Nat} {s u : Int} {X V O : Int64} {g g' : cx_Q} (F_ : TU x s u X V O g g') : cq_I g' (x + 33) s = 1 := F_.2.2.2.2.1
theorem TU.i35 {x : Nat} {s u : Int} {X V O : Int64} {g g' : cx_Q} (F_ : TU x s u X V O g g') : cq_I g' (x + 35) s = 1 := F_.2.2.2.2.2.1
theorem TU.i39 {x : Nat} {s u : Int} {X V O : Int64} {g g' : cx_Q} (F_ : TU x s u X V O g g') : cq_I g' (x + 39) s = 1 := F_.2.2.2.2.2.2.1
theorem TU.i40 {x : Nat} {s u : Int} {X V O : Int64} {g g' : cx_Q} (F_ : TU x s u X V O g g') : cq_I g' (x + 40) s = 0 := F_.2.2.2.2.2.2.2.1
theorem TU.i41 {x : Nat} {s u : Int} {X V O : Int64} {g g' : cx_Q} (F_ : TU x s u X V O g g') : cq_I g' (x + 41) s = 0 := F_.2.2.2.2.2.2.2.2.1
theorem TU.i42 {x : Nat} {s u : Int} {X V O : Int64} {g g' : cx_Q} (F_ : TU x s u X V O g g') : cq_I g' (x + 42) s = cq_I g (x + 40) s := F_.2.2.2.2.2.2.2.2.2.1
theorem TU.j31 {x : Nat} {s u : Int} {X V O : Int64} {g g' : cx_Q} (F_ : TU x s u X V O g g') : cq_J g' (x + 31) s = f_key 1 (f_key 1 (cq_J g (x + 31) s) X) (f_common V (cq_J g x 79)) := F_.2.2.2.2.2.2.2.2.2.2.1
theorem TU.j32 {x : Nat} {s u : Int} {X V O : Int64} {g g' : cx_Q} (F_ : TU x s u X V O g g') : cq_J g' (x + 32) s = f_key 2 (f_key 1 (cq_J g (x + 31) s) X) (f_common V (cq_J g x 79)) := F_.2.2.2.2.2.2.2.2.2.2.2.1
theorem TU.j34 {x : Nat} {s u : Int} {X V O : Int64} {g g' : cx_Q} (F_ : TU x s u X V O g g') : cq_J g' (x + 34) s = f_key 2 (cq_J g (x + 31) s) X := F_.2.2.2.2.2.2.2.2.2.2.2.2.1
theorem TU.j36 {x : Nat} {s u : Int} {X V O : Int64} {g g' : cx_Q} (F_ : TU x s u X V O g g') : cq_J g' (x + 36) s = V := F_.2.2.2.2.2.2.2.2.2.2.2.2.2.1
theorem TU.j37 {x : Nat} {s u : Int} {X V O : Int64} {g g' : cx_Q} (F_ : TU x s u X V O g g') : cq_J g' (x + 37) s = O := F_.2.2.2.2.2.2.2.2.2.2.2.2.2.2.1
theorem TU.j38 {x : Nat} {s u : Int} {X V O : Int64} {g g' : cx_Q} (F_ : TU x s u X V O g g') : cq_J g' (x + 38) s = cq_J g x 79 := F_.2.2.2.2.2.2.2.2.2.2.2.2.2.2.2
section
variable {x : Nat} {s u : Int} {g : cx_Q} {k X : Int64}
theorem turn_q : TU x s u X (dV (cq_J g (x + 1) u) (cq_I g (x + 12) u)) (dO (cq_J g (x + 1) u) (cq_I g (x + 12) u)) g (m_turn g x u s X) := by
  -- before the draw
  have a_x : ∀ j, cq_I (m_turn2 (m_turn1 g x s) x s X) x j = cq_I g x j := fun j => by
    unfold m_turn2 m_turn1
    simp only [mm_sI, mm_sJ, mm_sA, mm_IJ, mm_IA, mm_JI, mm_JA, mm_AI, mm_AJ, mm_ssI, mm_ssJ, mm_ssA, mm_zI, mm_zJ, mm_zA, mm_nI, mm_nJ, mm_nA, Nat.left_eq_add, Nat.add_eq_left, Nat.add_left_cancel_iff, Nat.reduceEqDiff, Int.reduceEq, false_and, and_false, if_false, if_true, and_self, true_and, true_or, or_true, false_or, or_false]
  have a_I : ∀ o j, 1 ≤ o → cq_I (m_turn2 (m_turn1 g x s) x s X) (x + o) j = if o = 35 ∧ j = s then 1 else if o = 39 ∧ j = s then 1 else if o = 41 ∧ j = s then 0 else if o = 40 ∧ j = s then 0 else if o = 42 ∧ j = s then cq_I g (x + 40) s else cq_I g (x + o) j := fun o j _ => by
    unfold m_turn2 m_turn1
    simp only [mm_sI, mm_sJ, mm_sA, mm_IJ, mm_IA, mm_JI, mm_JA, mm_AI, mm_AJ, mm_ssI, mm_ssJ, mm_ssA, mm_zI, mm_zJ, mm_zA, mm_nI, mm_nJ, mm_nA, Nat.add_left_cancel_iff]
  have a_J : ∀ o j, 1 ≤ o → cq_J (m_turn2 (m_turn1 g x s) x s X) (x + o) j = if o = 31 ∧ j = s then f_key 1 (cq_J g (x + 31) s) X else if o = 34 ∧ j = s then f_key 2 (cq_J g (x + 31) s) X else if o = 38 ∧ j = s then cq_J g x 79 else cq_J g (x + o) j := fun o j _ => by
    unfold m_turn2 m_turn1
    simp only [mm_sI, mm_sJ, mm_sA, mm_IJ, mm_IA, mm_JI, mm_JA, mm_AI, mm_AJ, mm_ssI, mm_ssJ, mm_ssA, mm_zI, mm_zJ, mm_zA, mm_nI, mm_nJ, mm_nA, Nat.add_left_cancel_iff, Nat.reduceEqDiff, false_and, if_false]
  unfold m_turn
  generalize m_turn2 (m_turn1 g x s) x s X = g1 at a_x a_I a_J ⊢
  have D := draw_q (x := x) (u := u) (g := g1)
  have d3 := draw_31 (x := x) (u := u) (g := g1)
  have e1 : cq_J g1 (x + 1) u = cq_J g (x + 1) u := by rw [a_J 1 u (by decide), if_neg (by omega), if_neg (by omega), if_neg (by omega)]
  have e12 : cq_I g1 (x + 12) u = cq_I g (x + 12) u := by rw [a_I 12 u (by decide), if_neg (by omega), if_neg (by omega), if_neg (by omega), if_neg (by omega), if_neg (by omega)]
  rw [e1, e12] at d3
  have D12 := D.i12
  rw [e12] at D12
  generalize dV (cq_J g (x + 1) u) (cq_I g (x + 12) u) = V at d3 ⊢
  generalize dO (cq_J g (x + 1) u) (cq_I g (x + 12) u) = O at d3 ⊢
  generalize m_draw g1 x u = g2 at D d3 D12 ⊢
  -- behind it
  have b_x : ∀ j, cq_I (m_turnS (m_turn3 g2 x s) x s) x j = cq_I g2 x j := fun j => by
    unfold m_turnS m_turn3
    simp only [mm_sI, mm_sJ, mm_sA, mm_IJ, mm_IA, mm_JI, mm_JA, mm_AI, mm_AJ, mm_ssI, mm_ssJ, mm_ssA, mm_zI, mm_zJ, mm_zA, mm_nI, mm_nJ, mm_nA, Nat.left_eq_add, Nat.add_eq_left, Nat.add_left_cancel_iff, Nat.reduceEqDiff, Int.reduceEq, false_and, and_false, if_false, if_true, and_self, true_and, true_or, or_true, false_or, or_false]
  have b_I : ∀ o j, 1 ≤ o → cq_I (m_turnS (m_turn3 g2 x s) x s) (x + o) j = if o = 33 ∧ j = s then 1 else cq_I g2 (x + o) j := fun o j _ => by
    unfold m_turnS m_turn3
    simp only [mm_sI, mm_sJ, mm_sA, mm_IJ, mm_IA, mm_JI, mm_JA, mm_AI, mm_AJ, mm_ssI, mm_ssJ, mm_ssA, mm_zI, mm_zJ, mm_zA, mm_nI, mm_nJ, mm_nA, Nat.add_left_cancel_iff]
  have b_J : ∀ o j, 1 ≤ o → cq_J (m_turnS (m_turn3 g2 x s) x s) (x + o) j = if o = 31 ∧ j = s then f_key 1 (cq_J g2 (x + 31) s) (f_common V (cq_J g2 (x + 38) s)) else if o = 32 ∧ j = s then f_key 2 (cq_J g2 (x + 31) s) (f_common V (cq_J g2 (x + 38) s)) else if o = 37 ∧ j = s then O else if o = 36 ∧ j = s then V else cq_J g2 (x + o) j := fun o j _ => by
    unfold m_turnS m_turn3
    simp only [mm_sI, mm_sJ, mm_sA, mm_IJ, mm_IA, mm_JI, mm_JA, mm_AI, mm_AJ, mm_ssI, mm_ssJ, mm_ssA, mm_zI, mm_zJ, mm_zA, mm_nI, mm_nJ, mm_nA, Nat.add_left_cancel_iff, Nat.reduceEqDiff, false_and, and_self, if_false, if_true, d3.1, d3.2]
  have c38 : cq_J g2 (x + 38) s = cq_J g x 79 := by rw [D.J_ 38 s (by decide), a_J 38 s (by decide), if_neg (by omega), if_neg (by omega), if_pos ⟨rfl, rfl⟩]
  have c31 : cq_J g2 (x + 31) s = f_key 1 (cq_J g (x + 31) s) X := by rw [D.J_ 31 s (by decide), a_J 31 s (by decide), if_pos ⟨rfl, rfl⟩]
  rw [c38, c31] at b_J
  generalize m_turnS (m_turn3 g2 x s) x s = g3 at b_x b_I b_J ⊢
  have DI : ∀ o j, 1 ≤ o → ¬ (o = 12 ∧ j = u) → cq_I g2 (x + o) j = cq_I g1 (x + o) j := D.I_
  refine ⟨fun j => by rw [b_x, D.x_, a_x], fun o j w1 w2 w3 => ?_, fun o j w1 w2 => ?_, ?_, ?_, ?_, ?_, ?_, ?_, ?_, ?_, ?_, ?_, ?_, ?_, ?_⟩
  · rw [b_I o j w1, if_neg (fun q => w2 ⟨by omega, q.2⟩), DI o j w1 w3, a_I o j w1, if_neg (fun q => w2 ⟨by omega, q.2⟩), if_neg (fun q => w2 ⟨by omega, q.2⟩), if_neg (fun q => w2 ⟨by omega, q.2⟩), if_neg (fun q => w2 ⟨by omega, q.2⟩), if_neg (fun q => w2 ⟨by omega, q.2⟩)]
  · rw [b_J o j w1, if_neg (fun q => w2 ⟨by omega, q.2⟩), if_neg (fun q => w2 ⟨by omega, q.2⟩), if_neg (fun q => w2 ⟨by omega, q.2⟩), if_neg (fun q => w2 ⟨by omega, q.2⟩), D.J_ o j w1, a_J o j w1, if_neg (fun q => w2 ⟨by omega, q.2⟩), if_neg (fun q => w2 ⟨by omega, q.2⟩), if_neg (fun q => w2 ⟨by omega, q.2⟩)]
  · rw [b_I 12 u (by decide), if_neg (by omega), D12]
  · rw [b_I 33 s (by decide), if_pos ⟨rfl, rfl⟩]
  · rw [b_I 35 s (by decide), if_neg (by omega), DI 35 s (by decide) (by omega), a_I 35 s (by decide), if_pos ⟨rfl, rfl⟩]
  · rw [b_I 39 s (by decide), if_neg (by omega), DI 39 s (by decide) (by omega), a_I 39 s (by decide), if_neg (by omega), if_pos ⟨rfl, rfl⟩]
  · rw [b_I 40 s (by decide), if_neg (by omega), DI 40 s (by decide) (by omega), a_I 40 s (by decide), if_neg (by omega), if_neg (by omega), if_neg (by omega), if_pos ⟨rfl, rfl⟩]
  · rw [b_I 41 s (by decide), if_neg (by omega), DI 41 s (by decide) (by omega), a_I 41 s (by decide), if_neg (by omega), if_neg (by omega), if_pos ⟨rfl, rfl⟩]
  · rw [b_I 42 s (by decide), if_neg (by omega), DI 42 s (by decide) (by omega), a_I 42 s (by decide), if_neg (by omega), if_neg (by omega), if_neg (by omega), if_neg (by omega), if_pos ⟨rfl, rfl⟩]
  · rw [b_J 31 s (by decide), if_pos ⟨rfl, rfl⟩]
  · rw [b_J 32 s (by decide), if_neg (by omega), if_pos ⟨rfl, rfl⟩]
  · rw [b_J 34 s (by decide), if_neg (by omega), if_neg (by omega), if_neg (by omega), if_neg (by omega), D.J_ 34 s (by decide), a_J 34 s (by decide), if_neg (by omega), if_pos ⟨rfl, rfl⟩]
  · rw [b_J 36 s (by decide), if_neg (by omega), if_neg (by omega), if_neg (by omega), if_pos ⟨rfl, rfl⟩]
  · rw [b_J 37 s (by decide), if_neg (by omega), if_neg (by omega), if_pos ⟨rfl, rfl⟩]
  · rw [b_J 38 s (by decide), if_neg (by omega), if_neg (by omega), if_neg (by omega), if_neg (by omega), c38]
end
/-! the reference, exactly: a letter is opened behind a TURN, whole -/
section
variable {x : Nat} {s u : Int} {g : cx_Q} {k : Int64}
theorem oK0_q (h0 : 0 ≤ cq_I g (x + 53) s ∧ cq_I g (x + 53) s + m_bef g x s 1 ≤ 20) : KQ x s (m_bef g x s 1) g (m_oK0 g x s) := by
  have bf : m_bef g x s 1 = if cq_I g (x + 35) s ≠ 0 ∧ cq_I g (x + 41) s < cq_I g x 80 then cq_I g x 80 - cq_I g (x + 41) s else 0 := by
    unfold m_bef
    by_cases w : cq_I g (x + 35) s ≠ 0 ∧ cq_I g (x + 41) s < cq_I g x 80
    · rw [if_pos ⟨by decide, w⟩, if_pos w]
    · rw [if_neg (fun q => w q.2), if_neg w]
  unfold m_oK0
  by_cases w : cq_I g (x + 35) s ≠ 0
  · rw [if_pos w]
    have e : m_bef g x s 1 = (((cq_I g x 80 - cq_I g (x + 41) s).toNat : Nat) : Int) := by
      rw [bf]
      by_cases w2 : cq_I g (x + 41) s < cq_I g x 80
      · rw [if_pos ⟨w, w2⟩]; omega
      · rw [if_neg (fun q => w2 q.2)]; omega
    rw [e] at h0 ⊢
    exact keep_q h0
  · rw [if_neg w]
    have e : m_bef g x s 1 = 0 := by rw [bf, if_neg (fun q => w q.1)]
    rw [e]
    exact KQ.refl
theorem open3_q (h0 : 0 ≤ cq_I g (x + 53) s ∧ 0 ≤ m_bef g x s 1 ∧ 0 ≤ cq_I g x 81 ∧ cq_I g (x + 53) s + m_bef g x s 1 + cq_I g x 81 ≤ 20) : FRM x s u 1 g (m_oEnd (m_oT g x u s 1) x s k) ∧ RD x k g (m_oEnd (m_oT g x u s 1) x s k) ∧ OK3 x s (m_bef g x s 1) (cq_I g x 81) (cq_J g x 79) (f_key 2 (cq_J g (x + 31) s) (m_com g x s 1)) (f_key 1 (cq_J g (x + 31) s) (m_com g x s 1)) (f_common (dV (cq_J g (x + 1) u) (cq_I g (x + 12) u)) (cq_J g x 79)) (dV (cq_J g (x + 1) u) (cq_I g (x + 12) u)) (dO (cq_J g (x + 1) u) (cq_I g (x + 12) u)) g (m_oEnd (m_oT g x u s 1) x s k) := by
  have K := oK0_q (x := x) (s := s) (g := g) (by omega)
  have eT : m_oT g x u s 1 = m_turn (m_oK0 g x s) x u s (m_com g x s 1) := by
    unfold m_oT
    rw [if_pos (by decide)]
  rw [eT]
  generalize m_bef g x s 1 = n0 at h0 K ⊢
  generalize m_com g x s 1 = X
  generalize m_oK0 g x s = g1 at K ⊢
  have U := turn_q (x := x) (s := s) (u := u) (g := g1) (X := X)
  have c1 : cq_J g1 (x + 1) u = cq_J g (x + 1) u := K.J_ 1 u (by decide) (by omega) (by omega)
  have c12 : cq_I g1 (x + 12) u = cq_I g (x + 12) u := K.I_ 12 u (by decide) (by omega) (by omega)
  have c31 : cq_J g1 (x + 31) s = cq_J g (x + 31) s := K.J_ 31 s (by decide) (by omega) (by omega)
  have c79 : cq_J g1 x 79 = cq_J g x 79 := K.xJ 79
  have c40 : cq_I g1 (x + 40) s = cq_I g (x + 40) s := K.I_ 40 s (by decide) (by omega) (by omega)
  rw [c1, c12] at U
  generalize dV (cq_J g (x + 1) u) (cq_I g (x + 12) u) = V at U ⊢
  generalize dO (cq_J g (x + 1) u) (cq_I g (x + 12) u) = O at U ⊢
  generalize m_turn g1 x u s X = g2 at U ⊢
  have x81 : cq_I g2 x 81 = cq_I g x 81 := by rw [U.x_, K.x_]
  have i53 : cq_I g2 (x + 53) s = cq_I g (x + 53) s + n0 := by rw [U.I_ 53 s (by decide) (by omega) (by omega), K.i53]
  have en : cq_I g2 x 81 - cq_I g2 (x + 41) s = cq_I g x 81 := by rw [x81, U.i41]; omega
  obtain ⟨A, B, C⟩ := oEnd_q (x := x) (s := s) (u := u) (g := g2) (k := k) (by rw [en, i53]; omega)
  rw [en] at C
  generalize m_oEnd g2 x s k = g3 at A B C ⊢
  have hx : ∀ j, cq_I g2 x j = cq_I g x j := fun j => by rw [U.x_, K.x_]
  have h62 : ∀ j, cq_I g2 (x + 62) j = cq_I g (x + 62) j := fun j => by rw [U.I_ 62 j (by decide) (by omega) (by omega), K.I_ 62 j (by decide) (by omega) (by omega)]
  have i12 : cq_I g2 (x + 12) u = cq_I g (x + 12) u + 1 := by rw [U.i12, c12]
  have k5 : ∀ {j : Int}, cq_J g2 (x + 54) j = cq_J g1 (x + 54) j ∧ cq_I g2 (x + 55) j = cq_I g1 (x + 55) j ∧ cq_J g2 (x + 56) j = cq_J g1 (x + 56) j := fun {j} => ⟨U.J_ 54 j (by decide) (by omega), U.I_ 55 j (by decide) (by omega) (by omega), U.J_ 56 j (by decide) (by omega)⟩
  refine ⟨⟨fun o j w1 w2 w3 w4 w5 w6 => ?_, fun o j w1 w2 w3 w4 => ?_, by rw [A.i12, i12]; omega⟩, ⟨fun j w => by rw [B.x_ j w, hx], by rw [B.x75, hx], fun i i0 i1 => by rw [B.r_ i i0 (by rw [hx]; exact i1), hx, hx, h62]⟩, ⟨fun o j w w1 w2 w3 w4 w5 w6 w7 w8 w9 => ?_, fun o j w w1 w2 w3 w4 w5 w6 w7 w8 => ?_, ?_, ?_, ?_, ?_, ?_, ?_, C.i43, ?_, ?_, ?_, ?_, ?_, ?_, ?_, fun k' k0 k1 => ?_, fun i i0 i1 => ?_, fun i i0 i1 => ?_⟩⟩
  · rw [A.I_ o j w1 w2 w3 w4 w5 w6]
    unfold inS at w4
    rw [U.I_ o j w1 (fun q => w4 (by omega)) w6, K.I_ o j w1 (fun q => w4 (by omega)) (fun q => w4 (by omega))]
  · rw [A.J_ o j w1 w2 w3 w4]
    unfold inS at w4
    rw [U.J_ o j w1 (fun q => w4 (by omega)), K.J_ o j w1 (fun q => w4 (by omega)) (fun q => w4 (by omega))]
  · obtain ⟨q1, q2, q3⟩ := inS_r w
    rw [C.I_ o j w w5 w7 w8 w9]
    unfold inS at w
    rw [U.I_ o j q1 (by omega) (by omega), K.I_ o j q1 (by omega) (by omega)]
  · obtain ⟨q1, q2, q3⟩ := inS_r w
    rw [C.J_ o j w w3 w7 w8]
    rw [U.J_ o j q1 (by omega), K.J_ o j q1 (by omega) (by omega)]
  · rw [C.I_ 33 s (Or.inl ⟨by omega, rfl⟩) (by decide) (by decide) (by decide) (by decide), U.i33]
  · rw [C.I_ 35 s (Or.inl ⟨by omega, rfl⟩) (by decide) (by decide) (by decide) (by decide), U.i35]
  · rw [C.I_ 39 s (Or.inl ⟨by omega, rfl⟩) (by decide) (by decide) (by decide) (by decide), U.i39]
  · rw [C.I_ 40 s (Or.inl ⟨by omega, rfl⟩) (by decide) (by decide) (by decide) (by decide), U.i40]
  · rw [C.i41, U.i41]; omega
  · rw [C.I_ 42 s (Or.inl ⟨by omega, rfl⟩) (by decide) (by decide) (by decide) (by decide), U.i42, c40]
  · rw [C.i53, i53]
  · rw [C.J_ 31 s (Or.inl ⟨by omega, rfl⟩) (by decide) (by decide) (by decide), U.j31, c31, c79]
  · rw [C.J_ 32 s (Or.inl ⟨by omega, rfl⟩) (by decide) (by decide) (by decide), U.j32, c31, c79]
  · rw [C.j34, U.j34, c31]
  · rw [C.J_ 36 s (Or.inl ⟨by omega, rfl⟩) (by decide) (by decide) (by decide), U.j36]
  · rw [C.J_ 37 s (Or.inl ⟨by omega, rfl⟩) (by decide) (by decide) (by decide), U.j37]
  · rw [C.J_ 38 s (Or.inl ⟨by omega, rfl⟩) (by decide) (by decide) (by decide), U.j38, c79]
  · have y := C.k_ k' k0 (by omega)
    rw [y.1, y.2.1, y.2.2, k5.1, k5.2.1, k5.2.2, K.k54 k' k0 (by omega), K.k55 k' k0 (by omega), K.k56 k' k0 (by omega), if_neg (by omega), if_neg (by omega), if_neg (by omega)]
    exact ⟨rfl, rfl, rfl⟩
  · have y := C.k_ (cq_I g (x + 53) s + i) (by omega) (by omega)
    have c : cq_I g (x + 53) s ≤ cq_I g (x + 53) s + i ∧ cq_I g (x + 53) s + i < cq_I g (x + 53) s + n0 := by omega
    have e1 : cq_I g (x + 53) s + i - cq_I g (x + 53) s = i := by omega
    rw [y.1, y.2.1, y.2.2, k5.1, k5.2.1, k5.2.2, K.k54 _ (by omega) (by omega), K.k55 _ (by omega) (by omega), K.k56 _ (by omega) (by omega), if_pos c, if_pos c, if_pos c, e1]
    exact ⟨rfl, rfl, rfl⟩
  · have y := C.n_ i i0 i1
    rw [i53] at y
    rw [y.1, y.2.1, y.2.2, U.j38, U.i41, U.j34, c79, c31]
    exact ⟨rfl, by omega, rfl⟩
end
/-! class and reference side by side: a SESSION comes first; plans; what was read -/
/-- where the k-th of a row stood before the i-th came first -/
def pm (i k : Int) : Int := if k = 0 then i else if k ≤ i then k - 1 else k
theorem pm_rg {i k m : Int} (hi : 0 ≤ i ∧ i < m) (hk : 0 ≤ k ∧ k < m) : 0 ≤ pm i k ∧ pm i k < m := by
  unfold pm
  split
  · exact hi
  · split <;> omega
theorem pm_in {i k l : Int} (hi : 0 ≤ i) (hk : 0 ≤ k) (hl : 0 ≤ l) (ne : k ≠ l) : pm i k ≠ pm i l := by
  unfold pm
  split <;> split <;> (try split) <;> (try split) <;> omega
section
variable {c x : Nat} {n : Int} {pe : Int → Nat} {ro : Int → Int → Nat} {pa lb tp rd en op ob : Nat} {T Lf : Int → Nat} {h g h' g' : cx_Q} {P : Nat → Prop}
theorem front_q {w i : Int} (hi : 0 ≤ i ∧ i < 4) : (∀ k, 0 ≤ k → k < 4 → cq_I (m_front g x w i) (x + 29) (4 * w + k) = cq_I g (x + 29) (4 * w + pm i k)) ∧ (∀ a j, ¬ (a = x + 29 ∧ 4 * w ≤ j ∧ j < 4 * w + 4) → cq_I (m_front g x w i) a j = cq_I g a j) ∧ ∀ a j, cq_J (m_front g x w i) a j = cq_J g a j := by
  obtain ⟨a1, a2, a3⟩ := m_sh_v (x := x) (r := w) (k := i.toNat) (g := g)
  unfold m_front
  refine ⟨fun k k0 k1 => ?_, fun a j q => ?_, fun a j => by rw [mm_JI, a3]⟩
  · rw [mm_sI]
    unfold pm
    by_cases z : k = 0
    · rw [if_pos ⟨rfl, by omega⟩, if_pos z]
    · rw [if_neg (fun q => z (by omega)), a1, if_neg z]
      by_cases z2 : k ≤ i
      · rw [if_pos (by omega), if_pos z2]
        have e : 4 * w + k - 1 = 4 * w + (k - 1) := by omega
        rw [e]
      · rw [if_neg (by omega), if_neg z2]
  · rw [mm_sI, if_neg (fun z => q ⟨z.1, by omega, by omega⟩)]
    by_cases z : a = x + 29
    · rw [z, a1, if_neg (fun y => q ⟨z, by omega, by omega⟩)]
    · exact a2 a j z
theorem fx_front (F : FX c x n pe ro pa lb tp rd en op ob T Lf h g) {u v i : Int} (hu : 0 ≤ u ∧ u < n) (hv : 0 ≤ v ∧ v < n) (hi : 0 ≤ i ∧ i < cq_I g (x + 30) (6 * u + v)) (e : h' = cq_rA h (ro u v + 1) (shU (cq_A h (ro u v + 1)) i (cq_A h (ro u v + 1) i))) : FX c x n pe ro pa lb tp rd en op ob T Lf h' (m_front g x (6 * u + v) i) := by
  have fo := F.fo u v hu.1 hu.2 hv.1 hv.2
  have r4 := fo.r4
  obtain ⟨f1, f2, f3⟩ := front_q (x := x) (g := g) (w := 6 * u + v) (i := i) (by omega)
  have ex : evx (fun a => a = ro u v + 1) h h' := by
    rw [e]
    exact evx.rA (P := fun a => a = ro u v + 1) evx.refl rfl
  have eA : ∀ k, 0 ≤ k → cq_A h' (ro u v + 1) k = cq_A h (ro u v + 1) (pm i k) := fun k k0 => by
    rw [e, rr_A, if_pos rfl]
    unfold shU pm
    by_cases z : k = 0
    · rw [if_pos z, if_pos z]
    · rw [if_neg z, if_neg z]
      by_cases z2 : k ≤ i
      · rw [if_pos (by omega), if_pos z2]
      · rw [if_neg (by omega), if_neg z2]
  have eI : cq_I h' (ro u v) = cq_I h (ro u v) := by rw [e]; rfl
  clear e
  generalize m_front g x (6 * u + v) i = g' at f1 f2 f3 ⊢
  have g30 : ∀ j, cq_I g' (x + 30) j = cq_I g (x + 30) j := fun j => f2 _ _ (by omega)
  have sr : ∀ i', 0 ≤ i' → i' < cq_I g (x + 30) (6 * u + v) → SR x (T (cq_I g (x + 29) (4 * (6 * u + v) + i'))) (cq_I g (x + 29) (4 * (6 * u + v) + i')) h' g' := fun i' i0 i1 => by
    have s := fo.ss i' i0 i1
    have t1 := fo.s1
    have np : ∀ {d k : Nat}, cq_s h d = k → k ≠ 182 → ¬ d = ro u v + 1 := fun w w2 z => w2 (by rw [← w, z, t1])
    exact s.ex ex (np s.s0 (by decide)) (np s.s1 (by decide)) (np s.s2 (by decide)) (np s.s3 (by decide)) (np s.s4 (by decide)) (fun o j w => ⟨f2 _ _ (fun z => by unfold inS at w; omega), f3 _ _⟩)
  refine F.upO hu hv ex (fun o j h1 h2 h3 w => ⟨f2 _ _ (fun z => w (Or.inr (Or.inl ⟨by omega, z.2⟩))), f3 _ _⟩) (fun a w => Or.inr (Or.inl w)) (fun j _ => f2 _ _ (by omega)) (fun _ _ => rfl) ⟨ex.s fo.s0 (by decide), ex.s fo.s1 (by decide), by rw [eI, g30]; exact fo.rm, by rw [g30]; exact fo.r4, fun k k0 k1 => ?_, fun k k0 k1 => ?_, fun k l k0 k1 k2 => ?_, fun k k0 k1 => ?_⟩ (fun k l k0 k1 l0 l1 ne => ?_) (fun k u' v' l k0 k1 b1 b2 b3 b4 ne l0 l1 => ?_)
  · rw [g30] at k1
    have q := pm_rg hi ⟨k0, k1⟩
    rw [eA k k0, f1 k k0 (by omega)]
    exact fo.at_ _ q.1 q.2
  · rw [g30] at k1
    have q := pm_rg hi ⟨k0, k1⟩
    rw [f1 k k0 (by omega)]
    exact fo.sl _ q.1 q.2
  · rw [g30] at k2
    have q := pm_rg hi ⟨k0, (by omega : k < cq_I g (x + 30) (6 * u + v))⟩
    have q' := pm_rg hi ⟨(by omega : 0 ≤ l), k2⟩
    have ne := pm_in (k := k) (l := l) hi.1 k0 (by omega) (by omega)
    rw [f1 k k0 (by omega), f1 l (by omega) (by omega)]
    rcases Int.lt_or_lt_of_ne ne with z | z
    · exact fo.di _ _ q.1 z q'.2
    · exact (fo.di _ _ q'.1 z q.2).symm
  · rw [g30] at k1
    have q := pm_rg hi ⟨k0, k1⟩
    rw [f1 k k0 (by omega)]
    exact sr _ q.1 q.2
  · rw [g30] at k1 l1
    have q := pm_rg hi ⟨k0, k1⟩
    have q' := pm_rg hi ⟨l0, l1⟩
    rw [f1 k k0 (by omega), f1 l l0 (by omega)]
    exact F.ti u v u v _ _ hu.1 hu.2 hv.1 hv.2 hu.1 hu.2 hv.1 hv.2 q.1 q.2 q'.1 q'.2 (fun z => pm_in hi.1 k0 l0 ne z.2.2)
  · rw [g30] at k1
    have q := pm_rg hi ⟨k0, k1⟩
    rw [f1 k k0 (by omega)]
    exact F.ti u v u' v' _ l hu.1 hu.2 hv.1 hv.2 b1 b2 b3 b4 q.1 q.2 l0 l1 (fun z => ne ⟨z.1.symm, z.2.1.symm⟩)
/-- plans tell nothing of what is -/
theorem FX.ox (F : FX c x n pe ro pa lb tp rd en op ob T Lf h g) (o : ox op ob h h') : FX c x n pe ro pa lb tp rd en op ob T Lf h' g := by
  have e : evx (fun a => a = op ∨ a = ob) h h' := by
    refine ⟨fun a _ => ⟨by rw [o.2.1], by rw [o.2.2.1]⟩, fun a w => ?_, fun a w q => ⟨o.2.2.2.2.2 a (fun z => q (Or.inl z)) (fun z => q (Or.inr z)), fun _ => o.2.2.2.2.1 a (fun z => q (Or.inl z)), fun _ => by rw [o.2.2.2.1]⟩⟩
    exact o.2.2.2.2.2 a (ns w F.s13 (by decide)) (ns w F.sob (by decide))
  have nc : ∀ {d k : Nat}, cq_s h d = k → k ≠ 3 → k ≠ 175 → ¬ (d = op ∨ d = ob) := fun w w1 w2 z => by
    rcases z with z | z
    · exact w1 (by rw [← w, z, F.s13])
    · exact w2 (by rw [← w, z, F.sob])
  exact F.upS e (fun _ _ => False) (fun _ _ _ _ _ _ => ⟨rfl, rfl⟩) (fun a w => by rcases w with rfl | rfl; exact (by rw [F.s13]; rfl); exact (by rw [F.sob]; rfl)) (fun _ _ w => w.elim) (by rw [o.2.2.2.1]) (by rw [o.2.2.2.1]) rfl rfl (F.fs.ex e (nc F.fs.s0 (by decide) (by decide)) (nc F.fs.s1 (by decide) (by decide)) (nc F.fs.s2 (by decide) (by decide)) (fun _ _ => rfl) (fun _ => rfl) (fun _ => rfl))
/-- an envelope tells nothing of what is; nor what the reference keeps of its reading -/
theorem FX.door (F : FX c x n pe ro pa lb tp rd en op ob T Lf h g) (X : apX en h h') (e : eL x g g') : FX c x n pe ro pa lb tp rd en op ob T Lf h' g' := by
  have e1 : evx (fun a => a = en) h h' := by
    refine ⟨fun a _ => ⟨by rw [X.2.1], by rw [X.2.2.1]⟩, fun a w => (X.2.2.2 a (ns w F.s12 (by decide))).2.1, fun a w q => ⟨(X.2.2.2 a q).2.1, fun _ => (X.2.2.2 a q).1, fun _ => (X.2.2.2 a q).2.2⟩⟩
  have nc : ∀ {d k : Nat}, cq_s h d = k → k ≠ 0 → ¬ d = en := fun w w1 z => w1 (by rw [← w, z, F.s12])
  have ec := X.2.2.2 c (nc F.fs.s0 (by decide))
  have eo := X.2.2.2 op (nc F.s13 (by decide))
  have ex : ∀ j, (j < 77 ∨ 83 < j) → cq_I g' x j = cq_I g x j := fun j w => (e.2.2.2.2 x j (by omega)).1
  have er : ∀ o j, 1 ≤ o → cq_I g' (x + o) j = cq_I g (x + o) j ∧ cq_J g' (x + o) j = cq_J g (x + o) j := fun o j w => e.2.2.2.2 (x + o) j (by omega)
  exact F.upS e1 (fun _ _ => False) (fun o j w1 _ _ _ => er o j w1) (fun a w => by rw [w, F.s12]; rfl) (fun _ _ w => w.elim) ec.2.2 (by rw [eo.2.2]) (ex 0 (by omega)) (ex 72 (by omega)) (F.fs.ex e1 (nc F.fs.s0 (by decide)) (nc F.fs.s1 (by decide)) (nc F.fs.s2 (by decide)) (fun j w => ex j (by omega)) (fun j => (er 61 j (by decide)).1) (fun j => (er 65 j (by decide)).1))
end
/-! class and reference side by side: a letter was opened in a SESSION -/
/-- the reference as it is but for what was read -/
def bk (x : Nat) (g g' : cx_Q) : cx_Q := cq_rI (cq_sI g' x 75 (cq_I g x 75)) (x + 65) (cq_I g (x + 65))
theorem bk_q {x : Nat} {g g' : cx_Q} (ax : ∀ j, j ≠ 75 → cq_I g' x j = cq_I g x j) : (∀ j, cq_I (bk x g g') x j = cq_I g x j) ∧ (∀ o j, 1 ≤ o → o ≠ 65 → cq_I (bk x g g') (x + o) j = cq_I g' (x + o) j) ∧ (∀ j, cq_I (bk x g g') (x + 65) j = cq_I g (x + 65) j) ∧ ∀ a j, cq_J (bk x g g') a j = cq_J g' a j := by
  unfold bk
  refine ⟨fun j => ?_, fun o j w1 w2 => ?_, fun j => ?_, fun a j => ?_⟩
  · rw [rr_I, if_neg (fun q => by omega), mm_sI]
    by_cases w : j = 75
    · rw [if_pos ⟨rfl, w⟩, w]
    · rw [if_neg (fun q => w q.2), ax j w]
  · rw [rr_I, if_neg (fun q => w2 (by omega)), mm_sI, if_neg (fun q => by omega)]
  · rw [rr_I, if_pos rfl]
  · rfl
section
variable {x : Nat} {s i n0 n1 : Int} {eo C R1 X2 V O : Int64} {g g' g1 : cx_Q}
theorem OK1.c (Q : OK1 x s i g g') (eI : ∀ o j, 1 ≤ o → o ≠ 65 → cq_I g1 (x + o) j = cq_I g' (x + o) j) (eJ : ∀ a j, cq_J g1 a j = cq_J g' a j) : OK1 x s i g g1 := by
  have z : ∀ {o : Nat} {j : Int}, inS s o j → 1 ≤ o ∧ o ≠ 65 := fun w => by unfold inS at w; omega
  exact ⟨fun o j w w1 w2 w3 => by rw [eI o j (z w).1 (z w).2]; exact Q.I_ o j w w1 w2 w3, fun o j w w1 w2 => by rw [eJ]; exact Q.J_ o j w w1 w2, by rw [eI 43 s (by decide) (by decide)]; exact Q.i43, by rw [eI 53 s (by decide) (by decide)]; exact Q.i53, fun k k0 k1 => by rw [eJ, eI 55 _ (by decide) (by decide), eJ]; exact Q.k_ k k0 k1⟩
theorem OK2.c (Q : OK2 x s i g g') (eI : ∀ o j, 1 ≤ o → o ≠ 65 → cq_I g1 (x + o) j = cq_I g' (x + o) j) (eJ : ∀ a j, cq_J g1 a j = cq_J g' a j) : OK2 x s i g g1 := by
  have z : ∀ {o : Nat} {j : Int}, inS s o j → 1 ≤ o ∧ o ≠ 65 := fun w => by unfold inS at w; omega
  exact ⟨fun o j w w1 w2 w3 w4 => by rw [eI o j (z w).1 (z w).2]; exact Q.I_ o j w w1 w2 w3 w4, fun o j w w1 w2 w3 => by rw [eJ]; exact Q.J_ o j w w1 w2 w3, by rw [eI 41 s (by decide) (by decide)]; exact Q.i41, by rw [eI 43 s (by decide) (by decide)]; exact Q.i43, by rw [eI 53 s (by decide) (by decide)]; exact Q.i53, by rw [eJ]; exact Q.j34, fun k k0 k1 => by rw [eJ, eI 55 _ (by decide) (by decide), eJ]; exact Q.k_ k k0 k1, fun k k0 k1 => by rw [eJ, eI 55 _ (by decide) (by decide), eJ]; exact Q.n_ k k0 k1⟩
theorem OK3.c (Q : OK3 x s n0 n1 eo C R1 X2 V O g g') (eI : ∀ o j, 1 ≤ o → o ≠ 65 → cq_I g1 (x + o) j = cq_I g' (x + o) j) (eJ : ∀ a j, cq_J g1 a j = cq_J g' a j) : OK3 x s n0 n1 eo C R1 X2 V O g g1 := by
  have z : ∀ {o : Nat} {j : Int}, inS s o j → 1 ≤ o ∧ o ≠ 65 := fun w => by unfold inS at w; omega
  exact ⟨fun o j w w1 w2 w3 w4 w5 w6 w7 w8 w9 => by rw [eI o j (z w).1 (z w).2]; exact Q.I_ o j w w1 w2 w3 w4 w5 w6 w7 w8 w9, fun o j w w1 w2 w3 w4 w5 w6 w7 w8 => by rw [eJ]; exact Q.J_ o j w w1 w2 w3 w4 w5 w6 w7 w8, by rw [eI 33 s (by decide) (by decide)]; exact Q.i33, by rw [eI 35 s (by decide) (by decide)]; exact Q.i35, by rw [eI 39 s (by decide) (by decide)]; exact Q.i39, by rw [eI 40 s (by decide) (by decide)]; exact Q.i40, by rw [eI 41 s (by decide) (by decide)]; exact Q.i41, by rw [eI 42 s (by decide) (by decide)]; exact Q.i42, by rw [eI 43 s (by decide) (by decide)]; exact Q.i43, by rw [eI 53 s (by decide) (by decide)]; exact Q.i53, by rw [eJ]; exact Q.j31, by rw [eJ]; exact Q.j32, by rw [eJ]; exact Q.j34, by rw [eJ]; exact Q.j36, by rw [eJ]; exact Q.j37, by rw [eJ]; exact Q.j38, fun k k0 k1 => by rw [eJ, eI 55 _ (by decide) (by decide), eJ]; exact Q.k_ k k0 k1, fun k k0 k1 => by rw [eJ, eI 55 _ (by decide) (by decide), eJ]; exact Q.m_ k k0 k1, fun k k0 k1 => by rw [eJ, eI 55 _ (by decide) (by decide), eJ]; exact Q.n_ k k0 k1⟩
end
section
variable {c x : Nat} {n : Int} {pe : Int → Nat} {ro : Int → Int → Nat} {pa lb tp rd en op ob : Nat} {T Lf : Int → Nat} {h g h' g' : cx_Q} {u v i0 s : Int} {k : Int64}
theorem fx_open1 (F : FX c x n pe ro pa lb tp rd en op ob T Lf h g) {i : Int} (hu : 0 ≤ u ∧ u < n) (hv : 0 ≤ v ∧ v < n) (hi : 0 ≤ i0 ∧ i0 < cq_I g (x + 30) (6 * u + v)) (es : cq_I g (x + 29) (4 * (6 * u + v) + i0) = s) (R : FRM x s u 0 g g') (A : RD x k g g') (Q : OK1 x s i g g') (hk : 0 ≤ i ∧ i < cq_I g (x + 53) s) (e : ev (kdr (cq_sI h (T s) 5 0) (T s + 1) (T s + 2) (T s + 3) (T s + 4) i (cq_I h (T s + 1) 4 - 1) (cq_I h (T s + 1) 4 - 1)) h') : FX c x n pe ro pa lb tp rd en op ob T Lf h' (bk x g g') ∧ evx (fun a => scl (T s) a ∨ a = pe u) h h' := by
  obtain ⟨b1, b2, b3, b4⟩ := bk_q (x := x) (g := g) (g' := g') A.x_
  have sr := (F.fo u v hu.1 hu.2 hv.1 hv.2).ss i0 hi.1 hi.2
  rw [es] at sr
  have S := sr.kept (Q.c b2 b4) hk
  have n2 : cq_s h (T s + 2) ≠ 6 := by rw [sr.s2]; decide
  have n4 : cq_s h (T s + 4) ≠ 6 := by rw [sr.s4]; decide
  have ex : evx (scl (T s)) h h' := by
    refine evx.trans ?_ e.x
    unfold kdr
    exact evx.sI (evx.rJ (evx.rI (evx.rJ (evx.sI evx.refl (Or.inl rfl)) (Or.inr (Or.inr (Or.inl rfl))) n2) (Or.inr (Or.inr (Or.inr (Or.inl rfl))))) (Or.inr (Or.inr (Or.inr (Or.inr rfl)))) n4) (Or.inr (Or.inl rfl))
  refine ⟨?_, ex.mono (fun a w => Or.inl w)⟩
  refine F.upT hu hv hi es ex (fun a w => w) (fun o j w1 w2 w3 w4 => ?_) (fun j _ => b1 j) (S.ex (P := fun _ => False) e.x id id id id id (fun _ _ _ => ⟨rfl, rfl⟩))
  rw [b4]
  refine ⟨?_, R.J_ o j w1 w2 w3 w4⟩
  by_cases z : o = 65
  · rw [z]; exact b3 j
  · rw [b2 o j w1 z]
    by_cases y : o = 12 ∧ j = u
    · rw [y.1, y.2, R.i12, Int.add_zero]
    · exact R.I_ o j w1 w2 w3 w4 z y
theorem fx_open2 (F : FX c x n pe ro pa lb tp rd en op ob T Lf h g) {m pl : Int} {w : Int64} {r : Int → Int64} (hu : 0 ≤ u ∧ u < n) (hv : 0 ≤ v ∧ v < n) (hi : 0 ≤ i0 ∧ i0 < cq_I g (x + 30) (6 * u + v)) (es : cq_I g (x + 29) (4 * (6 * u + v) + i0) = s) (R : FRM x s u 0 g g') (A : RD x k g g') (Q : OK2 x s m g g') (hm : 0 ≤ m ∧ cq_I g (x + 53) s + m ≤ 20) (h35 : cq_I g (x + 35) s ≠ 0) (ep : pl = cq_I g (x + 41) s + m) (ew : w = nxI (m.toNat + 1) (cq_J g (x + 34) s)) (er : ∀ i, 0 ≤ i → i < m → r i = lkC (nxI i.toNat (cq_J g (x + 34) s))) (e : ev (coR (kpW (cq_sI h (T s) 5 0) (T s + 1) (T s + 2) (T s + 3) (T s + 4) (cq_I h (T s + 1) 4) m (cq_J h (T s) 13) (cq_I h (T s) 17) r) (T s) w (pl + 1)) h') : FX c x n pe ro pa lb tp rd en op ob T Lf h' (bk x g g') ∧ evx (fun a => scl (T s) a ∨ a = pe u) h h' := by
  obtain ⟨b1, b2, b3, b4⟩ := bk_q (x := x) (g := g) (g' := g') A.x_
  have sr := (F.fo u v hu.1 hu.2 hv.1 hv.2).ss i0 hi.1 hi.2
  rw [es] at sr
  have S := sr.on (Q.c b2 b4) hm h35 ep ew er
  have n0 : cq_s h (T s) ≠ 6 := by rw [sr.s0]; decide
  have n2 : cq_s h (T s + 2) ≠ 6 := by rw [sr.s2]; decide
  have n4 : cq_s h (T s + 4) ≠ 6 := by rw [sr.s4]; decide
  have ex : evx (scl (T s)) h h' := by
    refine evx.trans ?_ e.x
    unfold coR kpW
    exact evx.sI (evx.sJ (evx.sI (evx.rJ (evx.rI (evx.rJ (evx.sI evx.refl (Or.inl rfl)) (Or.inr (Or.inr (Or.inl rfl))) n2) (Or.inr (Or.inr (Or.inr (Or.inl rfl))))) (Or.inr (Or.inr (Or.inr (Or.inr rfl)))) n4) (Or.inr (Or.inl rfl))) (Or.inl rfl) n0) (Or.inl rfl)
  refine ⟨?_, ex.mono (fun a w => Or.inl w)⟩
  refine F.upT hu hv hi es ex (fun a w => w) (fun o j w1 w2 w3 w4 => ?_) (fun j _ => b1 j) (S.ex (P := fun _ => False) e.x id id id id id (fun _ _ _ => ⟨rfl, rfl⟩))
  rw [b4]
  refine ⟨?_, R.J_ o j w1 w2 w3 w4⟩
  by_cases z : o = 65
  · rw [z]; exact b3 j
  · rw [b2 o j w1 z]
    by_cases y : o = 12 ∧ j = u
    · rw [y.1, y.2, R.i12, Int.add_zero]
    · exact R.I_ o j w1 w2 w3 w4 z y
end
/-! class and reference side by side: a letter was opened behind a TURN -/
section
variable {c x : Nat} {n : Int} {pe : Int → Nat} {ro : Int → Int → Nat} {pa lb tp rd en op ob : Nat} {T Lf : Int → Nat} {h g h' g' : cx_Q} {u v i0 s : Int} {k : Int64}
theorem kpW_z {m : cx_Q} {k b0 b1 b2 : Nat} {sz mm : Int} {o : Int64} {nr : Int} {key : Int → Int64} : cq_z (kpW m k b0 b1 b2 sz mm o nr key) = cq_z m := Eq.trans rfl rfl
theorem tsW_z {m : cx_Q} {a t q : Nat} {r y : Int64} : cq_z (tsW m a t q r y) = cq_z m := Eq.trans rfl rfl
theorem trW_z {m : cx_Q} {a q : Nat} {s : Int} {u v : Int64} {o : Option Nat} : cq_z (trW m a q s u v o) = cq_z m := Eq.trans rfl rfl
theorem coD_z {m : cx_Q} {p t : Nat} {i : Int} : cq_z (coD m p t i) = cq_z m := Eq.trans rfl rfl
theorem coR_z {m : cx_Q} {a : Nat} {v : Int64} {i : Int} : cq_z (coR m a v i) = cq_z m := Eq.trans rfl rfl
theorem coD_c {m m' : cx_Q} {p t d : Nat} {i : Int} (eI : cq_I m d = cq_I m' d) (eA : cq_A m d = cq_A m' d) : cq_I (coD m p t i) d = cq_I (coD m' p t i) d ∧ cq_A (coD m p t i) d = cq_A (coD m' p t i) d := by
  unfold coD
  refine ⟨?_, ?_⟩
  · funext j
    rw [mm_IA, mm_IA, mm_sI, mm_sI, eI]
  · funext j
    rw [mm_sA, mm_sA, mm_AI, mm_AI, eA]
theorem up12_q : DQ x u g (cq_sI g (x + 12) u (cq_I g (x + 12) u + 1)) := ⟨fun j => by rw [mm_sI, if_neg (fun q => by omega)], fun o j _ w => by rw [mm_sI, if_neg (fun q => w ⟨by omega, q.2⟩)], by rw [mm_sI, if_pos ⟨rfl, rfl⟩], fun _ _ _ => rfl⟩
theorem fx_open3 (F : FX c x n pe ro pa lb tp rd en op ob T Lf h g) {t q q2 : Nat} {n0 n1 pl : Int} {eo C R1 X2 V O v6 : Int64} {o : Option Nat} {r1 r2 : Int → Int64} (hu : 0 ≤ u ∧ u < n) (hv : 0 ≤ v ∧ v < n) (hi : 0 ≤ i0 ∧ i0 < cq_I g (x + 30) (6 * u + v)) (es : cq_I g (x + 29) (4 * (6 * u + v) + i0) = s) (R : FRM x s u 1 g g') (A : RD x k g g') (Q : OK3 x s n0 n1 eo C R1 X2 V O g g') (hn : 0 ≤ n0 ∧ 0 ≤ n1 ∧ cq_I g (x + 53) s + n0 + n1 ≤ 20) (ep : pl = n1) (e6 : v6 = nxI (n1.toNat + 1) C) (er1 : ∀ i, 0 ≤ i → i < n0 → r1 i = lkC (nxI i.toNat (cq_J g (x + 34) s))) (er2 : ∀ i, 0 ≤ i → i < n1 → r2 i = lkC (nxI i.toNat C))
    (e : ev (tsW (coD (coR (kpW (trW (kpW (cq_sI h (T s) 5 0) (T s + 1) (T s + 2) (T s + 3) (T s + 4) (cq_I h (T s + 1) 4) n0 (cq_J h (T s) 13) (cq_I h (T s) 17) r1) (T s) q (cq_I h (T s) 16) eo R1 o) (T s + 1) (T s + 2) (T s + 3) (T s + 4) (cq_I h (T s + 1) 4 + n0) n1 eo 0 r2) (T s) v6 (pl + 1)) (pe u) t (cq_I g (x + 12) u)) (T s) t q2 R1 X2) h') (st : cq_s h' t = 6) (jt0 : cq_J h' t 0 = V) (jt1 : cq_J h' t 1 = O) : FX c x n pe ro pa lb tp rd en op ob T Lf h' (bk x g g') ∧ evx (fun a => scl (T s) a ∨ a = pe u) h h' := by
  obtain ⟨b1, b2, b3, b4⟩ := bk_q (x := x) (g := g) (g' := g') A.x_
  have sr := (F.fo u v hu.1 hu.2 hv.1 hv.2).ss i0 hi.1 hi.2
  rw [es] at sr
  have sp := (F.fu u hu.1 hu.2).s0
  have S := sr.z.turn (Q.c b2 b4) hn sp ep e6 er1 er2 e st jt0 jt1
  have D := up12_q (x := x) (u := u) (g := g)
  have F1 := fx_draw D F hu (ev.refl (h := coD h (pe u) t (cq_I g (x + 12) u)))
  have es' : cq_s (tsW (coD (coR (kpW (trW (kpW (cq_sI h (T s) 5 0) (T s + 1) (T s + 2) (T s + 3) (T s + 4) (cq_I h (T s + 1) 4) n0 (cq_J h (T s) 13) (cq_I h (T s) 17) r1) (T s) q (cq_I h (T s) 16) eo R1 o) (T s + 1) (T s + 2) (T s + 3) (T s + 4) (cq_I h (T s + 1) 4 + n0) n1 eo 0 r2) (T s) v6 (pl + 1)) (pe u) t (cq_I g (x + 12) u)) (T s) t q2 R1 X2) = cq_s h := by
    rw [tsW_s, coD_s, coR_s, kpW_qs, trW_s, kpW_qs]
    exact Eq.trans rfl rfl
  have ez : cq_z (tsW (coD (coR (kpW (trW (kpW (cq_sI h (T s) 5 0) (T s + 1) (T s + 2) (T s + 3) (T s + 4) (cq_I h (T s + 1) 4) n0 (cq_J h (T s) 13) (cq_I h (T s) 17) r1) (T s) q (cq_I h (T s) 16) eo R1 o) (T s + 1) (T s + 2) (T s + 3) (T s + 4) (cq_I h (T s + 1) 4 + n0) n1 eo 0 r2) (T s) v6 (pl + 1)) (pe u) t (cq_I g (x + 12) u)) (T s) t q2 R1 X2) = cq_z h := by
    rw [tsW_z, coD_z, coR_z, kpW_z, trW_z, kpW_z]
    exact Eq.trans rfl rfl
  have oI : ∀ d, ¬ scl (T s) d → cq_I (tsW (coD (coR (kpW (trW (kpW (cq_sI h (T s) 5 0) (T s + 1) (T s + 2) (T s + 3) (T s + 4) (cq_I h (T s + 1) 4) n0 (cq_J h (T s) 13) (cq_I h (T s) 17) r1) (T s) q (cq_I h (T s) 16) eo R1 o) (T s + 1) (T s + 2) (T s + 3) (T s + 4) (cq_I h (T s + 1) 4 + n0) n1 eo 0 r2) (T s) v6 (pl + 1)) (pe u) t (cq_I g (x + 12) u)) (T s) t q2 R1 X2) d = cq_I (coD h (pe u) t (cq_I g (x + 12) u)) d ∧ cq_A (tsW (coD (coR (kpW (trW (kpW (cq_sI h (T s) 5 0) (T s + 1) (T s + 2) (T s + 3) (T s + 4) (cq_I h (T s + 1) 4) n0 (cq_J h (T s) 13) (cq_I h (T s) 17) r1) (T s) q (cq_I h (T s) 16) eo R1 o) (T s + 1) (T s + 2) (T s + 3) (T s + 4) (cq_I h (T s + 1) 4 + n0) n1 eo 0 r2) (T s) v6 (pl + 1)) (pe u) t (cq_I g (x + 12) u)) (T s) t q2 R1 X2) d = cq_A (coD h (pe u) t (cq_I g (x + 12) u)) d ∧ cq_J (tsW (coD (coR (kpW (trW (kpW (cq_sI h (T s) 5 0) (T s + 1) (T s + 2) (T s + 3) (T s + 4) (cq_I h (T s + 1) 4) n0 (cq_J h (T s) 13) (cq_I h (T s) 17) r1) (T s) q (cq_I h (T s) 16) eo R1 o) (T s + 1) (T s + 2) (T s + 3) (T s + 4) (cq_I h (T s + 1) 4 + n0) n1 eo 0 r2) (T s) v6 (pl + 1)) (pe u) t (cq_I g (x + 12) u)) (T s) t q2 R1 X2) d = cq_J (coD h (pe u) t (cq_I g (x + 12) u)) d := by
    intro d w
    have w0 : d ≠ T s := fun z => w (Or.inl z)
    have w1 : d ≠ T s + 1 := fun z => w (Or.inr (Or.inl z))
    have w2 : d ≠ T s + 2 := fun z => w (Or.inr (Or.inr (Or.inl z)))
    have w3 : d ≠ T s + 3 := fun z => w (Or.inr (Or.inr (Or.inr (Or.inl z))))
    have w4 : d ≠ T s + 4 := fun z => w (Or.inr (Or.inr (Or.inr (Or.inr z))))
    have e5 : cq_I (cq_sI h (T s) 5 0) d = cq_I h d := by
      funext j
      rw [mm_sI, if_neg (fun z => w0 z.1)]
    rw [(tsW_o w0).1, (tsW_o w0).2.1, (tsW_o w0).2.2]
    have cc := coD_c (p := pe u) (t := t) (i := cq_I g (x + 12) u) (d := d) (m := coR (kpW (trW (kpW (cq_sI h (T s) 5 0) (T s + 1) (T s + 2) (T s + 3) (T s + 4) (cq_I h (T s + 1) 4) n0 (cq_J h (T s) 13) (cq_I h (T s) 17) r1) (T s) q (cq_I h (T s) 16) eo R1 o) (T s + 1) (T s + 2) (T s + 3) (T s + 4) (cq_I h (T s + 1) 4 + n0) n1 eo 0 r2) (T s) v6 (pl + 1)) (m' := h) (by rw [(coR_o w0).1, kpW_I w1 w3, (trW_o w0).1, kpW_I w1 w3, e5]) (by rw [coR_A, kpW_qA, (trW_o w0).2.2, kpW_qA]; exact Eq.trans rfl rfl)
    refine ⟨cc.1, cc.2, ?_⟩
    rw [coD_J, coD_J, (coR_o w0).2, kpW_J w2 w4, (trW_o w0).2.1, kpW_J w2 w4]
    exact Eq.trans rfl rfl
  generalize tsW (coD (coR (kpW (trW (kpW (cq_sI h (T s) 5 0) (T s + 1) (T s + 2) (T s + 3) (T s + 4) (cq_I h (T s + 1) 4) n0 (cq_J h (T s) 13) (cq_I h (T s) 17) r1) (T s) q (cq_I h (T s) 16) eo R1 o) (T s + 1) (T s + 2) (T s + 3) (T s + 4) (cq_I h (T s + 1) 4 + n0) n1 eo 0 r2) (T s) v6 (pl + 1)) (pe u) t (cq_I g (x + 12) u)) (T s) t q2 R1 X2 = M at e es' ez oI
  have cs : cq_s (coD h (pe u) t (cq_I g (x + 12) u)) = cq_s h := coD_s
  have cz : cq_z (coD h (pe u) t (cq_I g (x + 12) u)) = cq_z h := coD_z
  have ex : evx (scl (T s)) (coD h (pe u) t (cq_I g (x + 12) u)) h' := by
    refine evx.trans (h1 := M) ⟨fun a _ => ⟨by rw [es', cs], by rw [ez, cz]⟩, fun a w => ?_, fun a w z => ⟨(oI a z).2.2, fun _ => (oI a z).1, fun _ => (oI a z).2.1⟩⟩ e.x
    refine (oI a (fun z => ?_)).2.2
    have := sr.cl z
    rw [cs] at w
    omega
  have g30 : cq_I (cq_sI g (x + 12) u (cq_I g (x + 12) u + 1)) (x + 30) (6 * u + v) = cq_I g (x + 30) (6 * u + v) := D.I_ 30 _ (by decide) (by omega)
  have g29 : cq_I (cq_sI g (x + 12) u (cq_I g (x + 12) u + 1)) (x + 29) (4 * (6 * u + v) + i0) = s := by rw [D.I_ 29 _ (by decide) (by omega)]; exact es
  have ex0 : evx (fun a => scl (T s) a ∨ a = pe u) h (coD h (pe u) t (cq_I g (x + 12) u)) := by
    unfold coD
    exact evx.sA (P := fun a => scl (T s) a ∨ a = pe u) (evx.sI (P := fun a => scl (T s) a ∨ a = pe u) evx.refl (Or.inr rfl)) (Or.inr rfl)
  refine ⟨?_, ex0.trans (ex.mono (fun a w => Or.inl w))⟩
  refine F1.upT hu hv (by rw [g30]; exact hi) g29 ex (fun a w => w) (fun o j w1 w2 w3 w4 => ?_) (fun j _ => by rw [b1, D.x_]) S
  rw [b4, D.J_ o j w1]
  refine ⟨?_, R.J_ o j w1 w2 w3 w4⟩
  by_cases z : o = 65
  · rw [z, b3, D.I_ 65 j (by decide) (by omega)]
  · rw [b2 o j w1 z]
    by_cases y : o = 12 ∧ j = u
    · rw [y.1, y.2, R.i12, D.i12]
    · rw [D.I_ o j w1 y]
      exact R.I_ o j w1 w2 w3 w4 z y
end
/-! class and reference side by side: openIn -/
section
variable {x e b : Nat} {l : Int} {h h' g : cx_Q} {P : Nat → Prop}
theorem ER.ex (R : ER x e b l h g) (ex : evx P h h') (p0 : ¬ P e) (p1 : ¬ P b) : ER x e b l h' g := by
  have eI := ex.I R.s0 rfl p0
  have eJ := ex.J R.s0 (by decide) p0
  have eA := ex.A R.s0 rfl p0
  have bI := ex.I R.sb rfl p1
  have bz := (ex.1 b (by rw [R.sb]; decide)).2
  exact ⟨ex.s R.s0 (by decide), ex.s R.sb (by decide), by rw [eA]; exact R.eb, by rw [bz]; exact R.zb, by rw [bI]; exact R.bb, R.i77, by rw [eI]; exact R.bg, by rw [eI]; exact R.fr, by rw [eI]; exact R.tt, by rw [eI, eJ]; exact R.nb, by rw [eJ]; exact R.op, by rw [eI]; exact R.pn, by rw [eI]; exact R.pl, by rw [eI]; exact R.tl, by rw [eI]; exact R.ta, R.tz, R.t1, by rw [eJ]; exact R.sm, by rw [eJ]; exact R.tg⟩
theorem ER.ox {a d : Nat} (R : ER x e b l h g) (o : ox a d h h') (sa : cq_s h a = 3) (sd : cq_s h d = 175) : ER x e b l h' g := by
  have s0 := R.s0
  have sb := R.sb
  refine R.ex (P := fun q => q = a ∨ q = d) ⟨fun q _ => ⟨by rw [o.2.1], by rw [o.2.2.1]⟩, fun q w => o.2.2.2.2.2 q (fun z => by rw [z, sa] at w; exact absurd w (by decide)) (fun z => by rw [z, sd] at w; exact absurd w (by decide)), fun q w z => ⟨o.2.2.2.2.2 q (fun y => z (Or.inl y)) (fun y => z (Or.inr y)), fun _ => o.2.2.2.2.1 q (fun y => z (Or.inl y)), fun _ => by rw [o.2.2.2.1]⟩⟩ ?_ ?_
  · intro z
    rcases z with z | z
    · rw [z, sa] at s0; exact absurd s0 (by decide)
    · rw [z, sd] at s0; exact absurd s0 (by decide)
  · intro z
    rcases z with z | z
    · rw [z, sa] at sb; exact absurd sb (by decide)
    · rw [z, sd] at sb; exact absurd sb (by decide)
end
/-- the key with which a letter is opened -/
def m_oky (g : cx_Q) (x : Nat) (s : Int) : Int64 := if m_keptAt g x s < 0 then m_okey g x s (m_tn g x s) else cq_J g (x + 56) (20 * s + m_keptAt g x s)
section
variable {Y : cx_Y} {K : Option cx_V → cx_Q → Prop} {c x : Nat} {n L Z : Int} {E : Nat → Option Int} {h0 : cx_Q} {h g g' : cx_Q} {pe : Int → Nat} {ro : Int → Int → Nat} {pa lb tp rd en op ob : Nat} {T Lf : Int → Nat}
/-- what openIn leaves, when it opened -/
def OI (c x : Nat) (n : Int) (pe : Int → Nat) (ro : Int → Int → Nat) (pa lb tp rd en op ob : Nat) (T Lf : Int → Nat) (b : Nat) (l u v i s : Int) (g h' : cx_Q) : Prop := FX c x n pe ro pa lb tp rd en op ob T Lf h' (m_front (bk x g (m_openQ g x u s)) x (6 * u + v) i) ∧ ER x en b l h' g ∧ cq_J h' op 7 = m_oky g x s
/-- carried out with a KEPT key -/
theorem oi_1 {b : Nat} {u v i0 s l : Int} {m : cx_Q} (F : FX c x n pe ro pa lb tp rd en op ob T Lf h g) (R : ER x en b l h g) (hu : 0 ≤ u ∧ u < n) (hv : 0 ≤ v ∧ v < n) (hi : 0 ≤ i0 ∧ i0 < cq_I g (x + 30) (6 * u + v)) (es : cq_I g (x + 29) (4 * (6 * u + v) + i0) = s) (kr : 0 ≤ m_keptAt g x s ∧ m_keptAt g x s < cq_I g (x + 53) s) (e : ev (kdr (cq_sI h (T s) 5 0) (T s + 1) (T s + 2) (T s + 3) (T s + 4) (m_keptAt g x s) (cq_I h (T s + 1) 4 - 1) (cq_I h (T s + 1) 4 - 1)) m) : FX c x n pe ro pa lb tp rd en op ob T Lf m (bk x g (m_openQ g x u s)) ∧ evx (fun a => scl (T s) a ∨ a = pe u) h m := by
  have sr := (F.fo u v hu.1 hu.2 hv.1 hv.2).ss i0 hi.1 hi.2
  rw [es] at sr
  have k20 := sr.k20
  have eq_ : m_openQ g x u s = m_openK g x s (m_keptAt g x s) (cq_J g (x + 56) (20 * s + m_keptAt g x s)) := by
    unfold m_openQ
    rw [if_neg (by omega)]
  obtain ⟨q1, q2, q3⟩ := open1_q (x := x) (s := s) (u := u) (g := g) (k := cq_J g (x + 56) (20 * s + m_keptAt g x s)) kr k20.2
  rw [eq_]
  exact fx_open1 F hu hv hi es q1 q2 q3 kr e
/-- on the chain -/
theorem oi_2 {b : Nat} {u v i0 s l : Int} {w : Int64} {r : Int → Int64} {m : cx_Q} (F : FX c x n pe ro pa lb tp rd en op ob T Lf h g) (R : ER x en b l h g) (hu : 0 ≤ u ∧ u < n) (hv : 0 ≤ v ∧ v < n) (hi : 0 ≤ i0 ∧ i0 < cq_I g (x + 30) (6 * u + v)) (es : cq_I g (x + 29) (4 * (6 * u + v) + i0) = s) (kr : m_keptAt g x s < 0) (t0 : m_tn g x s = 0) (hm : 0 ≤ cq_I g x 81 - cq_I g (x + 41) s ∧ cq_I g (x + 53) s + (cq_I g x 81 - cq_I g (x + 41) s) ≤ 20) (h35 : cq_I g (x + 35) s ≠ 0) (ew : w = nxI ((cq_I g x 81 - cq_I g (x + 41) s).toNat + 1) (cq_J g (x + 34) s)) (er : ∀ i, 0 ≤ i → i < cq_I g x 81 - cq_I g (x + 41) s → r i = lkC (nxI i.toNat (cq_J g (x + 34) s))) (e : ev (coR (kpW (cq_sI h (T s) 5 0) (T s + 1) (T s + 2) (T s + 3) (T s + 4) (cq_I h (T s + 1) 4) (cq_I g x 81 - cq_I g (x + 41) s) (cq_J h (T s) 13) (cq_I h (T s) 17) r) (T s) w (cq_I g x 81 + 1)) m) : FX c x n pe ro pa lb tp rd en op ob T Lf m (bk x g (m_openQ g x u s)) ∧ evx (fun a => scl (T s) a ∨ a = pe u) h m := by
  have sr := (F.fo u v hu.1 hu.2 hv.1 hv.2).ss i0 hi.1 hi.2
  rw [es] at sr
  have k20 := sr.k20
  have eq_ : m_openQ g x u s = m_oEnd g x s (m_okey g x s 0) := by
    unfold m_openQ m_oT
    rw [if_pos kr, t0, if_neg (by decide)]
  obtain ⟨q1, q2, q3⟩ := oEnd_q (x := x) (s := s) (u := u) (g := g) (k := m_okey g x s 0) ⟨k20.1, hm.1, hm.2⟩
  rw [eq_]
  exact fx_open2 F hu hv hi es q1 q2 q3 hm h35 (by omega) ew er e
/-- behind a TURN -/
theorem oi_3 {b t q q2 : Nat} {u v i0 s l : Int} {v6 : Int64} {o : Option Nat} {r1 r2 : Int → Int64} {m : cx_Q} (F : FX c x n pe ro pa lb tp rd en op ob T Lf h g) (R : ER x en b l h g) (hu : 0 ≤ u ∧ u < n) (hv : 0 ≤ v ∧ v < n) (hi : 0 ≤ i0 ∧ i0 < cq_I g (x + 30) (6 * u + v)) (es : cq_I g (x + 29) (4 * (6 * u + v) + i0) = s) (kr : m_keptAt g x s < 0) (t1 : m_tn g x s = 1) (hm : 0 ≤ m_bef g x s 1 ∧ 0 ≤ cq_I g x 81 ∧ cq_I g (x + 53) s + m_bef g x s 1 + cq_I g x 81 ≤ 20) (e6 : v6 = nxI ((cq_I g x 81).toNat + 1) (m_ch0 g x s 1)) (er1 : ∀ i, 0 ≤ i → i < m_bef g x s 1 → r1 i = lkC (nxI i.toNat (cq_J g (x + 34) s))) (er2 : ∀ i, 0 ≤ i → i < cq_I g x 81 → r2 i = lkC (nxI i.toNat (m_ch0 g x s 1)))
    (e : ev (tsW (coD (coR (kpW (trW (kpW (cq_sI h (T s) 5 0) (T s + 1) (T s + 2) (T s + 3) (T s + 4) (cq_I h (T s + 1) 4) (m_bef g x s 1) (cq_J h (T s) 13) (cq_I h (T s) 17) r1) (T s) q (cq_I h (T s) 16) (cq_J g x 79) (f_key 1 (cq_J g (x + 31) s) (m_com g x s 1)) o) (T s + 1) (T s + 2) (T s + 3) (T s + 4) (cq_I h (T s + 1) 4 + m_bef g x s 1) (cq_I g x 81) (cq_J g x 79) 0 r2) (T s) v6 (cq_I g x 81 + 1)) (pe u) t (cq_I g (x + 12) u)) (T s) t q2 (f_key 1 (cq_J g (x + 31) s) (m_com g x s 1)) (f_common (dV (cq_J g (x + 1) u) (cq_I g (x + 12) u)) (cq_J g x 79))) m) (st : cq_s m t = 6) (jt0 : cq_J m t 0 = dV (cq_J g (x + 1) u) (cq_I g (x + 12) u)) (jt1 : cq_J m t 1 = dO (cq_J g (x + 1) u) (cq_I g (x + 12) u)) : FX c x n pe ro pa lb tp rd en op ob T Lf m (bk x g (m_openQ g x u s)) ∧ evx (fun a => scl (T s) a ∨ a = pe u) h m := by
  have sr := (F.fo u v hu.1 hu.2 hv.1 hv.2).ss i0 hi.1 hi.2
  rw [es] at sr
  have k20 := sr.k20
  have eq_ : m_openQ g x u s = m_oEnd (m_oT g x u s 1) x s (m_okey g x s 1) := by
    unfold m_openQ
    rw [if_pos kr, t1]
  have ch : m_ch0 g x s 1 = f_key 2 (cq_J g (x + 31) s) (m_com g x s 1) := by
    unfold m_ch0
    rw [if_pos (by decide)]
  rw [ch] at e6 er2
  obtain ⟨q1, q2', q3⟩ := open3_q (x := x) (s := s) (u := u) (g := g) (k := m_okey g x s 1) ⟨k20.1, hm.1, hm.2.1, hm.2.2⟩
  rw [eq_]
  exact fx_open3 F hu hv hi es q1 q2' q3 ⟨hm.1, hm.2.1, hm.2.2⟩ rfl e6 er1 er2 e st jt0 jt1
end
