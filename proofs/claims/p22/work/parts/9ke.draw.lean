/-! class and reference side by side: a draw, an IDENTITY, a ONCE key, a forged number -/
/-- what the reference tells when ints of a user at these places are other: d draws, i11 isUser, i23 ONCE keys -/
def DQ (x : Nat) (u : Int) (g g' : cx_Q) : Prop := (∀ j, cq_I g' x j = cq_I g x j) ∧ (∀ o j, 1 ≤ o → ¬ (o = 12 ∧ j = u) → cq_I g' (x + o) j = cq_I g (x + o) j) ∧ (cq_I g' (x + 12) u = cq_I g (x + 12) u + 1) ∧ (∀ o j, 1 ≤ o → cq_J g' (x + o) j = cq_J g (x + o) j)
theorem DQ.x_ {x : Nat} {u : Int} {g g' : cx_Q} (F_ : DQ x u g g') : ∀ j, cq_I g' x j = cq_I g x j := F_.1
theorem DQ.I_ {x : Nat} {u : Int} {g g' : cx_Q} (F_ : DQ x u g g') : ∀ o j, 1 ≤ o → ¬ (o = 12 ∧ j = u) → cq_I g' (x + o) j = cq_I g (x + o) j := F_.2.1
theorem DQ.i12 {x : Nat} {u : Int} {g g' : cx_Q} (F_ : DQ x u g g') : cq_I g' (x + 12) u = cq_I g (x + 12) u + 1 := F_.2.2.1
theorem DQ.J_ {x : Nat} {u : Int} {g g' : cx_Q} (F_ : DQ x u g g') : ∀ o j, 1 ≤ o → cq_J g' (x + o) j = cq_J g (x + o) j := F_.2.2.2
def RQ (x : Nat) (u : Int) (g g' : cx_Q) : Prop := (∀ j, cq_I g' x j = cq_I g x j) ∧ (∀ o j, 1 ≤ o → ¬ ((o = 11 ∨ o = 12) ∧ j = u) → cq_I g' (x + o) j = cq_I g (x + o) j) ∧ (cq_I g' (x + 11) u = 1) ∧ (cq_I g' (x + 12) u = cq_I g (x + 12) u + 1) ∧ (∀ o j, 1 ≤ o → ¬ ((o = 13 ∨ o = 14) ∧ j = u) → cq_J g' (x + o) j = cq_J g (x + o) j) ∧ (cq_J g' (x + 13) u = dV (cq_J g (x + 1) u) (cq_I g (x + 12) u)) ∧ (cq_J g' (x + 14) u = dO (cq_J g (x + 1) u) (cq_I g (x + 12) u))
theorem RQ.x_ {x : Nat} {u : Int} {g g' : cx_Q} (F_ : RQ x u g g') : ∀ j, cq_I g' x j = cq_I g x j := F_.1
theorem RQ.I_ {x : Nat} {u : Int} {g g' : cx_Q} (F_ : RQ x u g g') : ∀ o j, 1 ≤ o → ¬ ((o = 11 ∨ o = 12) ∧ j = u) → cq_I g' (x + o) j = cq_I g (x + o) j := F_.2.1
theorem RQ.i11 {x : Nat} {u : Int} {g g' : cx_Q} (F_ : RQ x u g g') : cq_I g' (x + 11) u = 1 := F_.2.2.1
theorem RQ.i12 {x : Nat} {u : Int} {g g' : cx_Q} (F_ : RQ x u g g') : cq_I g' (x + 12) u = cq_I g (x + 12) u + 1 := F_.2.2.2.1
theorem RQ.J_ {x : Nat} {u : Int} {g g' : cx_Q} (F_ : RQ x u g g') : ∀ o j, 1 ≤ o → ¬ ((o = 13 ∨ o = 14) ∧ j = u) → cq_J g' (x + o) j = cq_J g (x + o) j := F_.2.2.2.2.1
theorem RQ.j13 {x : Nat} {u : Int} {g g' : cx_Q} (F_ : RQ x u g g') : cq_J g' (x + 13) u = dV (cq_J g (x + 1) u) (cq_I g (x + 12) u) := F_.2.2.2.2.2.1
theorem RQ.j14 {x : Nat} {u : Int} {g g' : cx_Q} (F_ : RQ x u g g') : cq_J g' (x + 14) u = dO (cq_J g (x + 1) u) (cq_I g (x + 12) u) := F_.2.2.2.2.2.2
def PQ (x : Nat) (u : Int) (g g' : cx_Q) : Prop := (∀ j, cq_I g' x j = cq_I g x j) ∧ (∀ o j, 1 ≤ o → ¬ ((o = 12 ∨ o = 23) ∧ j = u) → ¬ ((o = 27 ∨ o = 28) ∧ j = 61 * u + (cq_I g (x + 23) u + 1)) → cq_I g' (x + o) j = cq_I g (x + o) j) ∧ (cq_I g' (x + 12) u = cq_I g (x + 12) u + 1) ∧ (cq_I g' (x + 23) u = cq_I g (x + 23) u + 1) ∧ (cq_I g' (x + 27) (61 * u + (cq_I g (x + 23) u + 1)) = 1) ∧ (cq_I g' (x + 28) (61 * u + (cq_I g (x + 23) u + 1)) = 1) ∧ (∀ o j, 1 ≤ o → ¬ ((o = 24 ∨ o = 25) ∧ j = 61 * u + (cq_I g (x + 23) u + 1)) → cq_J g' (x + o) j = cq_J g (x + o) j) ∧ (cq_J g' (x + 24) (61 * u + (cq_I g (x + 23) u + 1)) = dV (cq_J g (x + 1) u) (cq_I g (x + 12) u)) ∧ (cq_J g' (x + 25) (61 * u + (cq_I g (x + 23) u + 1)) = dO (cq_J g (x + 1) u) (cq_I g (x + 12) u))
theorem PQ.x_ {x : Nat} {u : Int} {g g' : cx_Q} (F_ : PQ x u g g') : ∀ j, cq_I g' x j = cq_I g x j := F_.1
theorem PQ.I_ {x : Nat} {u : Int} {g g' : cx_Q} (F_ : PQ x u g g') : ∀ o j, 1 ≤ o → ¬ ((o = 12 ∨ o = 23) ∧ j = u) → ¬ ((o = 27 ∨ o = 28) ∧ j = 61 * u + (cq_I g (x + 23) u + 1)) → cq_I g' (x + o) j = cq_I g (x + o) j := F_.2.1
theorem PQ.i12 {x : Nat} {u : Int} {g g' : cx_Q} (F_ : PQ x u g g') : cq_I g' (x + 12) u = cq_I g (x + 12) u + 1 := F_.2.2.1
theorem PQ.i23 {x : Nat} {u : Int} {g g' : cx_Q} (F_ : PQ x u g g') : cq_I g' (x + 23) u = cq_I g (x + 23) u + 1 := F_.2.2.2.1
theorem PQ.i27 {x : Nat} {u : Int} {g g' : cx_Q} (F_ : PQ x u g g') : cq_I g' (x + 27) (61 * u + (cq_I g (x + 23) u + 1)) = 1 := F_.2.2.2.2.1
theorem PQ.i28 {x : Nat} {u : Int} {g g' : cx_Q} (F_ : PQ x u g g') : cq_I g' (x + 28) (61 * u + (cq_I g (x + 23) u + 1)) = 1 := F_.2.2.2.2.2.1
theorem PQ.J_ {x : Nat} {u : Int} {g g' : cx_Q} (F_ : PQ x u g g') : ∀ o j, 1 ≤ o → ¬ ((o = 24 ∨ o = 25) ∧ j = 61 * u + (cq_I g (x + 23) u + 1)) → cq_J g' (x + o) j = cq_J g (x + o) j := F_.2.2.2.2.2.2.1
theorem PQ.j24 {x : Nat} {u : Int} {g g' : cx_Q} (F_ : PQ x u g g') : cq_J g' (x + 24) (61 * u + (cq_I g (x + 23) u + 1)) = dV (cq_J g (x + 1) u) (cq_I g (x + 12) u) := F_.2.2.2.2.2.2.2.1
theorem PQ.j25 {x : Nat} {u : Int} {g g' : cx_Q} (F_ : PQ x u g g') : cq_J g' (x + 25) (61 * u + (cq_I g (x + 23) u + 1)) = dO (cq_J g (x + 1) u) (cq_I g (x + 12) u) := F_.2.2.2.2.2.2.2.2
section
variable {c x : Nat} {n : Int} {pe : Int → Nat} {ro : Int → Int → Nat} {pa lb tp rd en op ob : Nat} {T Lf : Int → Nat} {h g h' g' : cx_Q} {P : Nat → Prop} {u : Int} {t : Nat}
theorem draw_q : DQ x u g (m_draw g x u) := by
  refine ⟨fun j => ?_, fun o j ho w => ?_, ?_, fun o j ho => ?_⟩
  · unfold m_draw
    simp only [mm_sI, mm_sJ, mm_sA, mm_IJ, mm_IA, mm_JI, mm_JA, mm_AI, mm_AJ, mm_ssI, mm_ssJ, mm_ssA, mm_zI, mm_zJ, mm_zA, mm_nI, mm_nJ, mm_nA, Nat.left_eq_add, Nat.add_eq_left, Nat.add_left_cancel_iff, Nat.reduceEqDiff, Int.reduceEq, false_and, and_false, if_false, if_true, and_self, true_and, true_or, or_true, false_or, or_false]
  · unfold m_draw
    simp only [mm_sI, mm_sJ, mm_sA, mm_IJ, mm_IA, mm_JI, mm_JA, mm_AI, mm_AJ, mm_ssI, mm_ssJ, mm_ssA, mm_zI, mm_zJ, mm_zA, mm_nI, mm_nJ, mm_nA, Nat.left_eq_add, Nat.add_eq_left, Nat.add_left_cancel_iff, Nat.reduceEqDiff, Int.reduceEq, false_and, and_false, if_false, if_true, and_self, true_and, true_or, or_true, false_or, or_false]
    rw [if_neg w]
  · unfold m_draw
    simp only [mm_sI, mm_sJ, mm_sA, mm_IJ, mm_IA, mm_JI, mm_JA, mm_AI, mm_AJ, mm_ssI, mm_ssJ, mm_ssA, mm_zI, mm_zJ, mm_zA, mm_nI, mm_nJ, mm_nA, Nat.left_eq_add, Nat.add_eq_left, Nat.add_left_cancel_iff, Nat.reduceEqDiff, Int.reduceEq, false_and, and_false, if_false, if_true, and_self, true_and, true_or, or_true, false_or, or_false]
  · have o0 : ¬ o = 0 := by omega
    unfold m_draw
    simp only [mm_sI, mm_sJ, mm_sA, mm_IJ, mm_IA, mm_JI, mm_JA, mm_AI, mm_AJ, mm_ssI, mm_ssJ, mm_ssA, mm_zI, mm_zJ, mm_zA, mm_nI, mm_nJ, mm_nA, Nat.left_eq_add, Nat.add_eq_left, Nat.add_left_cancel_iff, Nat.reduceEqDiff, Int.reduceEq, false_and, and_false, if_false, if_true, and_self, true_and, true_or, or_true, false_or, or_false, o0]
theorem reg_q : RQ x u g (m_reg2 (m_reg1 g x u) x u) := by
  refine ⟨fun j => ?_, fun o j ho w => ?_, ?_, ?_, fun o j ho w => ?_, ?_, ?_⟩
  · unfold m_reg2 m_reg1 m_draw
    simp only [mm_sI, mm_sJ, mm_sA, mm_IJ, mm_IA, mm_JI, mm_JA, mm_AI, mm_AJ, mm_ssI, mm_ssJ, mm_ssA, mm_zI, mm_zJ, mm_zA, mm_nI, mm_nJ, mm_nA, Nat.left_eq_add, Nat.add_eq_left, Nat.add_left_cancel_iff, Nat.reduceEqDiff, Int.reduceEq, false_and, and_false, if_false, if_true, and_self, true_and, true_or, or_true, false_or, or_false]
  · unfold m_reg2 m_reg1 m_draw
    simp only [mm_sI, mm_sJ, mm_sA, mm_IJ, mm_IA, mm_JI, mm_JA, mm_AI, mm_AJ, mm_ssI, mm_ssJ, mm_ssA, mm_zI, mm_zJ, mm_zA, mm_nI, mm_nJ, mm_nA, Nat.left_eq_add, Nat.add_eq_left, Nat.add_left_cancel_iff, Nat.reduceEqDiff, Int.reduceEq, false_and, and_false, if_false, if_true, and_self, true_and, true_or, or_true, false_or, or_false]
    rw [if_neg (fun z => w ⟨Or.inr z.1, z.2⟩), if_neg (fun z => w ⟨Or.inl z.1, z.2⟩)]
  · unfold m_reg2 m_reg1 m_draw
    simp only [mm_sI, mm_sJ, mm_sA, mm_IJ, mm_IA, mm_JI, mm_JA, mm_AI, mm_AJ, mm_ssI, mm_ssJ, mm_ssA, mm_zI, mm_zJ, mm_zA, mm_nI, mm_nJ, mm_nA, Nat.left_eq_add, Nat.add_eq_left, Nat.add_left_cancel_iff, Nat.reduceEqDiff, Int.reduceEq, false_and, and_false, if_false, if_true, and_self, true_and, true_or, or_true, false_or, or_false]
  · unfold m_reg2 m_reg1 m_draw
    simp only [mm_sI, mm_sJ, mm_sA, mm_IJ, mm_IA, mm_JI, mm_JA, mm_AI, mm_AJ, mm_ssI, mm_ssJ, mm_ssA, mm_zI, mm_zJ, mm_zA, mm_nI, mm_nJ, mm_nA, Nat.left_eq_add, Nat.add_eq_left, Nat.add_left_cancel_iff, Nat.reduceEqDiff, Int.reduceEq, false_and, and_false, if_false, if_true, and_self, true_and, true_or, or_true, false_or, or_false]
  · have o0 : ¬ o = 0 := by omega
    unfold m_reg2 m_reg1 m_draw
    simp only [mm_sI, mm_sJ, mm_sA, mm_IJ, mm_IA, mm_JI, mm_JA, mm_AI, mm_AJ, mm_ssI, mm_ssJ, mm_ssA, mm_zI, mm_zJ, mm_zA, mm_nI, mm_nJ, mm_nA, Nat.left_eq_add, Nat.add_eq_left, Nat.add_left_cancel_iff, Nat.reduceEqDiff, Int.reduceEq, false_and, and_false, if_false, if_true, and_self, true_and, true_or, or_true, false_or, or_false, o0]
    rw [if_neg (fun z => w ⟨Or.inr z.1, z.2⟩), if_neg (fun z => w ⟨Or.inl z.1, z.2⟩)]
  · unfold m_reg2 m_reg1 m_draw dV
    simp only [mm_sI, mm_sJ, mm_sA, mm_IJ, mm_IA, mm_JI, mm_JA, mm_AI, mm_AJ, mm_ssI, mm_ssJ, mm_ssA, mm_zI, mm_zJ, mm_zA, mm_nI, mm_nJ, mm_nA, Nat.left_eq_add, Nat.add_eq_left, Nat.add_left_cancel_iff, Nat.reduceEqDiff, Int.reduceEq, false_and, and_false, if_false, if_true, and_self, true_and, true_or, or_true, false_or, or_false]
  · unfold m_reg2 m_reg1 m_draw dO dV
    simp only [mm_sI, mm_sJ, mm_sA, mm_IJ, mm_IA, mm_JI, mm_JA, mm_AI, mm_AJ, mm_ssI, mm_ssJ, mm_ssA, mm_zI, mm_zJ, mm_zA, mm_nI, mm_nJ, mm_nA, Nat.left_eq_add, Nat.add_eq_left, Nat.add_left_cancel_iff, Nat.reduceEqDiff, Int.reduceEq, false_and, and_false, if_false, if_true, and_self, true_and, true_or, or_true, false_or, or_false]
theorem pub_q : PQ x u g (m_pub1 g x u) := by
  refine ⟨fun j => ?_, fun o j ho w w2 => ?_, ?_, ?_, ?_, ?_, fun o j ho w => ?_, ?_, ?_⟩
  · unfold m_pub1 m_pubB m_pubA m_draw
    simp only [mm_sI, mm_sJ, mm_sA, mm_IJ, mm_IA, mm_JI, mm_JA, mm_AI, mm_AJ, mm_ssI, mm_ssJ, mm_ssA, mm_zI, mm_zJ, mm_zA, mm_nI, mm_nJ, mm_nA, Nat.left_eq_add, Nat.add_eq_left, Nat.add_left_cancel_iff, Nat.reduceEqDiff, Int.reduceEq, false_and, and_false, if_false, if_true, and_self, true_and, true_or, or_true, false_or, or_false]
  · unfold m_pub1 m_pubB m_pubA m_draw
    simp only [mm_sI, mm_sJ, mm_sA, mm_IJ, mm_IA, mm_JI, mm_JA, mm_AI, mm_AJ, mm_ssI, mm_ssJ, mm_ssA, mm_zI, mm_zJ, mm_zA, mm_nI, mm_nJ, mm_nA, Nat.left_eq_add, Nat.add_eq_left, Nat.add_left_cancel_iff, Nat.reduceEqDiff, Int.reduceEq, false_and, and_false, if_false, if_true, and_self, true_and, true_or, or_true, false_or, or_false]
    rw [if_neg (fun z => w2 ⟨Or.inr z.1, z.2⟩), if_neg (fun z => w2 ⟨Or.inl z.1, z.2⟩), if_neg (fun z => w ⟨Or.inl z.1, z.2⟩), if_neg (fun z => w ⟨Or.inr z.1, z.2⟩)]
  · unfold m_pub1 m_pubB m_pubA m_draw
    simp only [mm_sI, mm_sJ, mm_sA, mm_IJ, mm_IA, mm_JI, mm_JA, mm_AI, mm_AJ, mm_ssI, mm_ssJ, mm_ssA, mm_zI, mm_zJ, mm_zA, mm_nI, mm_nJ, mm_nA, Nat.left_eq_add, Nat.add_eq_left, Nat.add_left_cancel_iff, Nat.reduceEqDiff, Int.reduceEq, false_and, and_false, if_false, if_true, and_self, true_and, true_or, or_true, false_or, or_false]
  · unfold m_pub1 m_pubB m_pubA m_draw
    simp only [mm_sI, mm_sJ, mm_sA, mm_IJ, mm_IA, mm_JI, mm_JA, mm_AI, mm_AJ, mm_ssI, mm_ssJ, mm_ssA, mm_zI, mm_zJ, mm_zA, mm_nI, mm_nJ, mm_nA, Nat.left_eq_add, Nat.add_eq_left, Nat.add_left_cancel_iff, Nat.reduceEqDiff, Int.reduceEq, false_and, and_false, if_false, if_true, and_self, true_and, true_or, or_true, false_or, or_false]
  · unfold m_pub1 m_pubB m_pubA m_draw
    simp only [mm_sI, mm_sJ, mm_sA, mm_IJ, mm_IA, mm_JI, mm_JA, mm_AI, mm_AJ, mm_ssI, mm_ssJ, mm_ssA, mm_zI, mm_zJ, mm_zA, mm_nI, mm_nJ, mm_nA, Nat.left_eq_add, Nat.add_eq_left, Nat.add_left_cancel_iff, Nat.reduceEqDiff, Int.reduceEq, false_and, and_false, if_false, if_true, and_self, true_and, true_or, or_true, false_or, or_false]
  · unfold m_pub1 m_pubB m_pubA m_draw
    simp only [mm_sI, mm_sJ, mm_sA, mm_IJ, mm_IA, mm_JI, mm_JA, mm_AI, mm_AJ, mm_ssI, mm_ssJ, mm_ssA, mm_zI, mm_zJ, mm_zA, mm_nI, mm_nJ, mm_nA, Nat.left_eq_add, Nat.add_eq_left, Nat.add_left_cancel_iff, Nat.reduceEqDiff, Int.reduceEq, false_and, and_false, if_false, if_true, and_self, true_and, true_or, or_true, false_or, or_false]
  · have o0 : ¬ o = 0 := by omega
    unfold m_pub1 m_pubB m_pubA m_draw
    simp only [mm_sI, mm_sJ, mm_sA, mm_IJ, mm_IA, mm_JI, mm_JA, mm_AI, mm_AJ, mm_ssI, mm_ssJ, mm_ssA, mm_zI, mm_zJ, mm_zA, mm_nI, mm_nJ, mm_nA, Nat.left_eq_add, Nat.add_eq_left, Nat.add_left_cancel_iff, Nat.reduceEqDiff, Int.reduceEq, false_and, and_false, if_false, if_true, and_self, true_and, true_or, or_true, false_or, or_false, o0]
    rw [if_neg (fun z => w ⟨Or.inr z.1, z.2⟩), if_neg (fun z => w ⟨Or.inl z.1, z.2⟩)]
  · unfold m_pub1 m_pubB m_pubA m_draw dV
    simp only [mm_sI, mm_sJ, mm_sA, mm_IJ, mm_IA, mm_JI, mm_JA, mm_AI, mm_AJ, mm_ssI, mm_ssJ, mm_ssA, mm_zI, mm_zJ, mm_zA, mm_nI, mm_nJ, mm_nA, Nat.left_eq_add, Nat.add_eq_left, Nat.add_left_cancel_iff, Nat.reduceEqDiff, Int.reduceEq, false_and, and_false, if_false, if_true, and_self, true_and, true_or, or_true, false_or, or_false]
  · unfold m_pub1 m_pubB m_pubA m_draw dO dV
    simp only [mm_sI, mm_sJ, mm_sA, mm_IJ, mm_IA, mm_JI, mm_JA, mm_AI, mm_AJ, mm_ssI, mm_ssJ, mm_ssA, mm_zI, mm_zJ, mm_zA, mm_nI, mm_nJ, mm_nA, Nat.left_eq_add, Nat.add_eq_left, Nat.add_left_cancel_iff, Nat.reduceEqDiff, Int.reduceEq, false_and, and_false, if_false, if_true, and_self, true_and, true_or, or_true, false_or, or_false]
theorem fx_draw (Q : DQ x u g g') (F : FX c x n pe ro pa lb tp rd en op ob T Lf h g) (hu : 0 ≤ u ∧ u < n) (e : ev (coD h (pe u) t (cq_I g (x + 12) u)) h') : FX c x n pe ro pa lb tp rd en op ob T Lf h' g' := by
  have f := F.fu u hu.1 hu.2
  have ex0 : evx (fun a => a = pe u) h (coD h (pe u) t (cq_I g (x + 12) u)) := by
    unfold coD
    exact evx.sA (P := fun a => a = pe u) (evx.sI (P := fun a => a = pe u) evx.refl rfl) rfl
  have ex := ex0.trans (e.x (P := fun a => a = pe u))
  have eI : ∀ j, cq_I h' (pe u) j = if j = 1 then cq_I g (x + 12) u + 1 else cq_I h (pe u) j := fun j => by
    rw [e.I (k0 := 4) (by rw [coD_s]; exact f.s0) rfl]
    unfold coD
    simp only [mm_sI, mm_sJ, mm_sA, mm_IJ, mm_IA, mm_JI, mm_JA, mm_AI, mm_AJ, mm_ssI, mm_ssJ, mm_ssA, mm_zI, mm_zJ, mm_zA, mm_nI, mm_nJ, mm_nA, Nat.left_eq_add, Nat.add_eq_left, Nat.add_left_cancel_iff, Nat.reduceEqDiff, Int.reduceEq, false_and, and_false, if_false, if_true, and_self, true_and, true_or, or_true, false_or, or_false]
  have eIo : ∀ j, j ≠ 1 → cq_I h' (pe u) j = cq_I h (pe u) j := fun j w => by rw [eI, if_neg w]
  have eJ : cq_J h' (pe u) = cq_J h (pe u) := by rw [e.J (k0 := 4) (by rw [coD_s]; exact f.s0) (by decide), coD_J]
  have eA : ∀ j, j ≠ 2 → cq_A h' (pe u) j = cq_A h (pe u) j := fun j w => by
    rw [e.A (k0 := 4) (by rw [coD_s]; exact f.s0) rfl]
    unfold coD
    simp only [mm_sI, mm_sJ, mm_sA, mm_IJ, mm_IA, mm_JI, mm_JA, mm_AI, mm_AJ, mm_ssI, mm_ssJ, mm_ssA, mm_zI, mm_zJ, mm_zA, mm_nI, mm_nJ, mm_nA, w, Nat.left_eq_add, Nat.add_eq_left, Nat.add_left_cancel_iff, Nat.reduceEqDiff, Int.reduceEq, false_and, and_false, if_false, if_true, and_self, true_and, true_or, or_true, false_or, or_false]
  have pp : ∀ k, 1 ≤ k → ¬ pe u + k = pe u := fun k w => by omega
  refine F.upU hu ex (fun a w => Or.inl w) (fun o j h1 h2 h3 w => ⟨Q.I_ o j h1 (fun z => w (Or.inl ⟨by omega, z.2⟩)), Q.J_ o j h1⟩) (fun j _ => Q.x_ j) (eA 13 (by decide)) ?_
  have I : ∀ o j, 1 ≤ o → o ≠ 12 → cq_I g' (x + o) j = cq_I g (x + o) j := fun o j h1 h2 => Q.I_ o j h1 (fun z => h2 z.1)
  have J := Q.J_
  have I11 := I 11 u (by decide) (by decide)
  have I16 := I 16 u (by decide) (by decide)
  have I23 := I 23 u (by decide) (by decide)
  have I58 := I 58 u (by decide) (by decide)
  refine ⟨ex.s f.s0 (by decide), ex.s f.s1 (by decide), ex.s f.s2 (by decide), ex.s f.s3 (by decide), ex.s f.s4 (by decide), ex.s f.s5 (by decide), by rw [eA 8 (by decide)]; exact f.a8, by rw [eA 9 (by decide)]; exact f.a9, by rw [eA 10 (by decide)]; exact f.a10, by rw [eA 14 (by decide)]; exact f.a14, by rw [eA 15 (by decide)]; exact f.a15, by rw [J 1 u (by decide), eJ]; exact f.sd, by rw [Q.i12, eI, if_pos rfl], fun q => by rw [eA 3 (by decide)]; exact f.n0 (by rw [← I11]; exact q), fun q => ?_, by rw [J 21 u (by decide)]; exact f.sb, by rw [I16, eIo 4 (by decide)]; exact f.ln, by rw [I16]; exact f.l20, by rw [J 20 u (by decide), eJ]; exact f.lo, by rw [J 21 u (by decide), eJ]; exact f.so, by rw [J 22 u (by decide), eJ]; exact f.sp, fun k k1 k2 => ?_, by rw [I23, eIo 11 (by decide)]; exact f.on, by rw [I23]; exact f.o60, fun k k1 k2 => ?_, fun k k1 k2 => ?_, fun k k1 => ?_, by rw [I23, eIo 12 (by decide)]; exact f.ot, fun k k1 k2 => ?_, by rw [I58, eIo 16 (by decide)]; exact f.hd, by rw [I58]; exact f.h100, fun k k1 k2 => ?_⟩
  · obtain ⟨d, q1, q2, q3, q4, q5, q6, q7⟩ := f.n1 (by rw [← I11]; exact q)
    exact ⟨d, by rw [eA 3 (by decide)]; exact q1, ex.s q2 (by decide), by rw [ex.2.1 d q2, J 13 u (by decide)]; exact q3, by rw [ex.2.1 d q2, J 14 u (by decide)]; exact q4, by rw [J 13 u (by decide)]; exact q5, by rw [J 14 u (by decide)]; exact q6, by rw [J 14 u (by decide)]; exact q7⟩
  · rw [I16] at k2
    obtain ⟨d, q1, q2, q3, q4⟩ := f.lk k k1 k2
    exact ⟨d, by rw [ex.A f.s1 rfl (pp 1 (by decide))]; exact q1, ex.s q2 (by decide), by rw [ex.2.1 d q2, J 17 _ (by decide)]; exact q3, by rw [ex.2.1 d q2, J 18 _ (by decide)]; exact q4⟩
  · rw [I23] at k2
    obtain ⟨d, q1, q2, q3, q4⟩ := f.ok k k1 k2
    exact ⟨d, by rw [ex.A f.s2 rfl (pp 2 (by decide))]; exact q1, ex.s q2 (by decide), by rw [ex.2.1 d q2, J 24 _ (by decide)]; exact q3, by rw [ex.2.1 d q2, J 25 _ (by decide)]; exact q4⟩
  · rw [I23] at k2
    rw [ex.I f.s3 rfl (pp 3 (by decide)), I 28 _ (by decide) (by decide)]
    exact f.ou k k1 k2
  · rw [I23] at k1
    rw [ex.I f.s3 rfl (pp 3 (by decide))]
    exact f.oz k k1
  · rw [I23] at k2
    rw [I 27 _ (by decide) (by decide), eIo 12 (by decide)]
    exact f.od k k1 k2
  · rw [I58] at k2
    rw [ex.J f.s4 (by decide) (pp 4 (by decide)), ex.I f.s5 rfl (pp 5 (by decide)), J 60 _ (by decide), I 59 _ (by decide) (by decide)]
    exact f.he k k1 k2
theorem fx_ident (Q : RQ x u g g') (F : FX c x n pe ro pa lb tp rd en op ob T Lf h g) (hu : 0 ≤ u ∧ u < n) (e : ev (cq_sA (coD h (pe u) t (cq_I g (x + 12) u)) (pe u) 3 (some t)) h') (st : cq_s h' t = 6) (v1 : cq_J h' t 0 = dV (cq_J g (x + 1) u) (cq_I g (x + 12) u)) (v2 : cq_J h' t 1 = dO (cq_J g (x + 1) u) (cq_I g (x + 12) u)) : FX c x n pe ro pa lb tp rd en op ob T Lf h' g' := by
  have f := F.fu u hu.1 hu.2
  have es : cq_s (cq_sA (coD h (pe u) t (cq_I g (x + 12) u)) (pe u) 3 (some t)) = cq_s h := Eq.trans rfl rfl
  have ex0 : evx (fun a => a = pe u) h (cq_sA (coD h (pe u) t (cq_I g (x + 12) u)) (pe u) 3 (some t)) := by
    unfold coD
    exact evx.sA (P := fun a => a = pe u) (evx.sA (P := fun a => a = pe u) (evx.sI (P := fun a => a = pe u) evx.refl rfl) rfl) rfl
  have ex := ex0.trans (e.x (P := fun a => a = pe u))
  have eI : ∀ j, cq_I h' (pe u) j = if j = 1 then cq_I g (x + 12) u + 1 else cq_I h (pe u) j := fun j => by
    rw [e.I (k0 := 4) (by rw [es]; exact f.s0) rfl]
    unfold coD
    simp only [mm_sI, mm_sJ, mm_sA, mm_IJ, mm_IA, mm_JI, mm_JA, mm_AI, mm_AJ, mm_ssI, mm_ssJ, mm_ssA, mm_zI, mm_zJ, mm_zA, mm_nI, mm_nJ, mm_nA, Nat.left_eq_add, Nat.add_eq_left, Nat.add_left_cancel_iff, Nat.reduceEqDiff, Int.reduceEq, false_and, and_false, if_false, if_true, and_self, true_and, true_or, or_true, false_or, or_false]
  have eIo : ∀ j, j ≠ 1 → cq_I h' (pe u) j = cq_I h (pe u) j := fun j w => by rw [eI, if_neg w]
  have eJ : cq_J h' (pe u) = cq_J h (pe u) := by rw [e.J (k0 := 4) (by rw [es]; exact f.s0) (by decide), mm_JA, coD_J]
  have eA : ∀ j, j ≠ 2 → j ≠ 3 → cq_A h' (pe u) j = cq_A h (pe u) j := fun j w w3 => by
    rw [e.A (k0 := 4) (by rw [es]; exact f.s0) rfl]
    unfold coD
    simp only [mm_sI, mm_sJ, mm_sA, mm_IJ, mm_IA, mm_JI, mm_JA, mm_AI, mm_AJ, mm_ssI, mm_ssJ, mm_ssA, mm_zI, mm_zJ, mm_zA, mm_nI, mm_nJ, mm_nA, w, w3, Nat.left_eq_add, Nat.add_eq_left, Nat.add_left_cancel_iff, Nat.reduceEqDiff, Int.reduceEq, false_and, and_false, if_false, if_true, and_self, true_and, true_or, or_true, false_or, or_false]
  have e3 : cq_A h' (pe u) 3 = some t := by
    rw [e.A (k0 := 4) (by rw [es]; exact f.s0) rfl, mm_sA, if_pos ⟨rfl, rfl⟩]
  have pp : ∀ k, 1 ≤ k → ¬ pe u + k = pe u := fun k w => by omega
  refine F.upU hu ex (fun a w => Or.inl w) (fun o j h1 h2 h3 w => ⟨Q.I_ o j h1 (fun z => w (Or.inl ⟨by omega, z.2⟩)), Q.J_ o j h1 (fun z => w (Or.inl ⟨by omega, z.2⟩))⟩) (fun j _ => Q.x_ j) (eA 13 (by decide) (by decide)) ?_
  have I : ∀ o j, 1 ≤ o → o ≠ 11 → o ≠ 12 → cq_I g' (x + o) j = cq_I g (x + o) j := fun o j h1 h2 h3 => Q.I_ o j h1 (fun z => by omega)
  have J : ∀ o j, 1 ≤ o → o ≠ 13 → o ≠ 14 → cq_J g' (x + o) j = cq_J g (x + o) j := fun o j h1 h2 h3 => Q.J_ o j h1 (fun z => by omega)
  have I16 := I 16 u (by decide) (by decide) (by decide)
  have I23 := I 23 u (by decide) (by decide) (by decide)
  have I58 := I 58 u (by decide) (by decide) (by decide)
  refine ⟨ex.s f.s0 (by decide), ex.s f.s1 (by decide), ex.s f.s2 (by decide), ex.s f.s3 (by decide), ex.s f.s4 (by decide), ex.s f.s5 (by decide), by rw [eA 8 (by decide) (by decide)]; exact f.a8, by rw [eA 9 (by decide) (by decide)]; exact f.a9, by rw [eA 10 (by decide) (by decide)]; exact f.a10, by rw [eA 14 (by decide) (by decide)]; exact f.a14, by rw [eA 15 (by decide) (by decide)]; exact f.a15, by rw [J 1 u (by decide) (by decide) (by decide), eJ]; exact f.sd, by rw [Q.i12, eI, if_pos rfl], fun q => absurd q (by rw [Q.i11]; decide), fun q => ⟨t, e3, st, by rw [Q.j13]; exact v1, by rw [Q.j14]; exact v2, by rw [Q.j13]; exact dV_rg, by rw [Q.j14]; exact dO_rg.1, by rw [Q.j14]; exact dO_rg.2⟩, by rw [J 21 u (by decide) (by decide) (by decide)]; exact f.sb, by rw [I16, eIo 4 (by decide)]; exact f.ln, by rw [I16]; exact f.l20, by rw [J 20 u (by decide) (by decide) (by decide), eJ]; exact f.lo, by rw [J 21 u (by decide) (by decide) (by decide), eJ]; exact f.so, by rw [J 22 u (by decide) (by decide) (by decide), eJ]; exact f.sp, fun k k1 k2 => ?_, by rw [I23, eIo 11 (by decide)]; exact f.on, by rw [I23]; exact f.o60, fun k k1 k2 => ?_, fun k k1 k2 => ?_, fun k k1 => ?_, by rw [I23, eIo 12 (by decide)]; exact f.ot, fun k k1 k2 => ?_, by rw [I58, eIo 16 (by decide)]; exact f.hd, by rw [I58]; exact f.h100, fun k k1 k2 => ?_⟩
  · rw [I16] at k2
    obtain ⟨d, q1, q2, q3, q4⟩ := f.lk k k1 k2
    exact ⟨d, by rw [ex.A f.s1 rfl (pp 1 (by decide))]; exact q1, ex.s q2 (by decide), by rw [ex.2.1 d q2, J 17 _ (by decide) (by decide) (by decide)]; exact q3, by rw [ex.2.1 d q2, J 18 _ (by decide) (by decide) (by decide)]; exact q4⟩
  · rw [I23] at k2
    obtain ⟨d, q1, q2, q3, q4⟩ := f.ok k k1 k2
    exact ⟨d, by rw [ex.A f.s2 rfl (pp 2 (by decide))]; exact q1, ex.s q2 (by decide), by rw [ex.2.1 d q2, J 24 _ (by decide) (by decide) (by decide)]; exact q3, by rw [ex.2.1 d q2, J 25 _ (by decide) (by decide) (by decide)]; exact q4⟩
  · rw [I23] at k2
    rw [ex.I f.s3 rfl (pp 3 (by decide)), I 28 _ (by decide) (by decide) (by decide)]
    exact f.ou k k1 k2
  · rw [I23] at k1
    rw [ex.I f.s3 rfl (pp 3 (by decide))]
    exact f.oz k k1
  · rw [I23] at k2
    rw [I 27 _ (by decide) (by decide) (by decide), eIo 12 (by decide)]
    exact f.od k k1 k2
  · rw [I58] at k2
    rw [ex.J f.s4 (by decide) (pp 4 (by decide)), ex.I f.s5 rfl (pp 5 (by decide)), J 60 _ (by decide) (by decide) (by decide), I 59 _ (by decide) (by decide) (by decide)]
    exact f.he k k1 k2
theorem fx_once (Q : PQ x u g g') (F : FX c x n pe ro pa lb tp rd en op ob T Lf h g) (hu : 0 ≤ u ∧ u < n) (hm : cq_I g (x + 23) u < 60) (e : ev (cq_sA (cq_sA (cq_sI (cq_sI h (pe u) 11 (cq_I g (x + 23) u + 1)) (pe u) 1 (cq_I g (x + 12) u + 1)) (pe u) 2 (some t)) (pe u + 2) (cq_I g (x + 23) u + 1) (some t)) h') (st : cq_s h' t = 6) (v1 : cq_J h' t 0 = dV (cq_J g (x + 1) u) (cq_I g (x + 12) u)) (v2 : cq_J h' t 1 = dO (cq_J g (x + 1) u) (cq_I g (x + 12) u)) : FX c x n pe ro pa lb tp rd en op ob T Lf h' g' := by
  have f := F.fu u hu.1 hu.2
  have o60 := f.o60
  have ot := f.ot
  have n02 : ¬ pe u = pe u + 2 := by omega
  have n20 : ¬ pe u + 2 = pe u := by omega
  have es : cq_s (cq_sA (cq_sA (cq_sI (cq_sI h (pe u) 11 (cq_I g (x + 23) u + 1)) (pe u) 1 (cq_I g (x + 12) u + 1)) (pe u) 2 (some t)) (pe u + 2) (cq_I g (x + 23) u + 1) (some t)) = cq_s h := Eq.trans rfl rfl
  have ex0 : evx (fun a => a = pe u ∨ a = pe u + 2) h (cq_sA (cq_sA (cq_sI (cq_sI h (pe u) 11 (cq_I g (x + 23) u + 1)) (pe u) 1 (cq_I g (x + 12) u + 1)) (pe u) 2 (some t)) (pe u + 2) (cq_I g (x + 23) u + 1) (some t)) := (((evx.refl.sI (Or.inl rfl)).sI (Or.inl rfl)).sA (Or.inl rfl)).sA (Or.inr rfl)
  have ex := ex0.trans (e.x (P := fun a => a = pe u ∨ a = pe u + 2))
  have eI : ∀ j, cq_I h' (pe u) j = if j = 1 then cq_I g (x + 12) u + 1 else if j = 11 then cq_I g (x + 23) u + 1 else cq_I h (pe u) j := fun j => by
    rw [e.I (k0 := 4) (by rw [es]; exact f.s0) rfl]
    simp only [mm_sI, mm_sJ, mm_sA, mm_IJ, mm_IA, mm_JI, mm_JA, mm_AI, mm_AJ, mm_ssI, mm_ssJ, mm_ssA, mm_zI, mm_zJ, mm_zA, mm_nI, mm_nJ, mm_nA, n02, n20, Nat.left_eq_add, Nat.add_eq_left, Nat.add_left_cancel_iff, Nat.reduceEqDiff, Int.reduceEq, false_and, and_false, if_false, if_true, and_self, true_and, true_or, or_true, false_or, or_false]
  have eIo : ∀ j, j ≠ 1 → j ≠ 11 → cq_I h' (pe u) j = cq_I h (pe u) j := fun j w w2 => by rw [eI, if_neg w, if_neg w2]
  have eJ : cq_J h' (pe u) = cq_J h (pe u) := by rw [e.J (k0 := 4) (by rw [es]; exact f.s0) (by decide)]; rfl
  have eA : ∀ j, j ≠ 2 → cq_A h' (pe u) j = cq_A h (pe u) j := fun j w => by
    rw [e.A (k0 := 4) (by rw [es]; exact f.s0) rfl]
    simp only [mm_sI, mm_sJ, mm_sA, mm_IJ, mm_IA, mm_JI, mm_JA, mm_AI, mm_AJ, mm_ssI, mm_ssJ, mm_ssA, mm_zI, mm_zJ, mm_zA, mm_nI, mm_nJ, mm_nA, n02, w, Nat.left_eq_add, Nat.add_eq_left, Nat.add_left_cancel_iff, Nat.reduceEqDiff, Int.reduceEq, false_and, and_false, if_false, if_true, and_self, true_and, true_or, or_true, false_or, or_false]
  have e2 : ∀ j, cq_A h' (pe u + 2) j = if j = cq_I g (x + 23) u + 1 then some t else cq_A h (pe u + 2) j := fun j => by
    rw [e.A (k0 := 177) (by rw [es]; exact f.s2) rfl]
    simp only [mm_sI, mm_sJ, mm_sA, mm_IJ, mm_IA, mm_JI, mm_JA, mm_AI, mm_AJ, mm_ssI, mm_ssJ, mm_ssA, mm_zI, mm_zJ, mm_zA, mm_nI, mm_nJ, mm_nA, n20, Nat.left_eq_add, Nat.add_eq_left, Nat.add_left_cancel_iff, Nat.reduceEqDiff, Int.reduceEq, false_and, and_false, if_false, if_true, and_self, true_and, true_or, or_true, false_or, or_false]
  have pp : ∀ k, 1 ≤ k → k ≠ 2 → ¬ (fun a => a = pe u ∨ a = pe u + 2) (pe u + k) := fun k w w2 z => by dsimp only at z; omega
  refine F.upU hu ex (fun a w => w.elim Or.inl (fun z => Or.inr (Or.inr (Or.inl z)))) (fun o j h1 h2 h3 w => ⟨Q.I_ o j h1 (fun z => w (Or.inl ⟨by omega, z.2⟩)) (fun z => w (Or.inr (Or.inr (Or.inl ⟨by omega, by omega, by omega⟩)))), Q.J_ o j h1 (fun z => w (Or.inr (Or.inr (Or.inl ⟨by omega, by omega, by omega⟩))))⟩) (fun j _ => Q.x_ j) (eA 13 (by decide)) ?_
  have I : ∀ o j, 1 ≤ o → o ≠ 12 → o ≠ 23 → o ≠ 27 → o ≠ 28 → cq_I g' (x + o) j = cq_I g (x + o) j := fun o j h1 h2 h3 h4 h5 => Q.I_ o j h1 (fun z => by omega) (fun z => by omega)
  have J : ∀ o j, 1 ≤ o → o ≠ 24 → o ≠ 25 → cq_J g' (x + o) j = cq_J g (x + o) j := fun o j h1 h2 h3 => Q.J_ o j h1 (fun z => by omega)
  have I11 := I 11 u (by decide) (by decide) (by decide) (by decide) (by decide)
  have I16 := I 16 u (by decide) (by decide) (by decide) (by decide) (by decide)
  have I58 := I 58 u (by decide) (by decide) (by decide) (by decide) (by decide)
  have I23 := Q.i23
  refine ⟨ex.s f.s0 (by decide), ex.s f.s1 (by decide), ex.s f.s2 (by decide), ex.s f.s3 (by decide), ex.s f.s4 (by decide), ex.s f.s5 (by decide), by rw [eA 8 (by decide)]; exact f.a8, by rw [eA 9 (by decide)]; exact f.a9, by rw [eA 10 (by decide)]; exact f.a10, by rw [eA 14 (by decide)]; exact f.a14, by rw [eA 15 (by decide)]; exact f.a15, by rw [J 1 u (by decide) (by decide) (by decide), eJ]; exact f.sd, by rw [Q.i12, eI, if_pos rfl], fun q => by rw [eA 3 (by decide)]; exact f.n0 (by rw [← I11]; exact q), fun q => ?_, by rw [J 21 u (by decide) (by decide) (by decide)]; exact f.sb, by rw [I16, eIo 4 (by decide) (by decide)]; exact f.ln, by rw [I16]; exact f.l20, by rw [J 20 u (by decide) (by decide) (by decide), eJ]; exact f.lo, by rw [J 21 u (by decide) (by decide) (by decide), eJ]; exact f.so, by rw [J 22 u (by decide) (by decide) (by decide), eJ]; exact f.sp, fun k k1 k2 => ?_, by rw [I23, eI, if_neg (by decide), if_pos rfl], by rw [I23]; omega, fun k k1 k2 => ?_, fun k k1 k2 => ?_, fun k k1 => ?_, by rw [I23, eIo 12 (by decide) (by decide)]; omega, fun k k1 k2 => ?_, by rw [I58, eIo 16 (by decide) (by decide)]; exact f.hd, by rw [I58]; exact f.h100, fun k k1 k2 => ?_⟩
  · obtain ⟨d, q1, q2, q3, q4, q5, q6, q7⟩ := f.n1 (by rw [← I11]; exact q)
    have j13 := J 13 u (by decide) (by decide) (by decide)
    have j14 := J 14 u (by decide) (by decide) (by decide)
    exact ⟨d, by rw [eA 3 (by decide)]; exact q1, ex.s q2 (by decide), by rw [ex.2.1 d q2, j13]; exact q3, by rw [ex.2.1 d q2, j14]; exact q4, by rw [j13]; exact q5, by rw [j14]; exact q6, by rw [j14]; exact q7⟩
  · rw [I16] at k2
    obtain ⟨d, q1, q2, q3, q4⟩ := f.lk k k1 k2
    exact ⟨d, by rw [ex.A f.s1 rfl (pp 1 (by decide) (by decide))]; exact q1, ex.s q2 (by decide), by rw [ex.2.1 d q2, J 17 _ (by decide) (by decide) (by decide)]; exact q3, by rw [ex.2.1 d q2, J 18 _ (by decide) (by decide) (by decide)]; exact q4⟩
  · rw [I23] at k2
    by_cases w : k = cq_I g (x + 23) u + 1
    · rw [w]
      exact ⟨t, by rw [e2, if_pos rfl], st, by rw [Q.j24]; exact v1, by rw [Q.j25]; exact v2⟩
    · obtain ⟨d, q1, q2, q3, q4⟩ := f.ok k k1 (by omega)
      exact ⟨d, by rw [e2, if_neg w]; exact q1, ex.s q2 (by decide), by rw [ex.2.1 d q2, Q.J_ 24 _ (by decide) (fun z => by omega)]; exact q3, by rw [ex.2.1 d q2, Q.J_ 25 _ (by decide) (fun z => by omega)]; exact q4⟩
  · rw [I23] at k2
    rw [ex.I f.s3 rfl (pp 3 (by decide) (by decide))]
    by_cases w : k = cq_I g (x + 23) u + 1
    · rw [w, Q.i28, f.oz _ (by omega)]
      exact ⟨fun _ => by decide, fun _ => rfl⟩
    · rw [Q.I_ 28 _ (by decide) (fun z => by omega) (fun z => by omega)]
      exact f.ou k k1 (by omega)
  · rw [I23] at k1
    rw [ex.I f.s3 rfl (pp 3 (by decide) (by decide))]
    exact f.oz k (by omega)
  · rw [I23] at k2
    rw [eIo 12 (by decide) (by decide)]
    by_cases w : k = cq_I g (x + 23) u + 1
    · rw [w, Q.i27]
      exact ⟨fun _ => by omega, fun _ => by decide⟩
    · rw [Q.I_ 27 _ (by decide) (fun z => by omega) (fun z => by omega)]
      exact f.od k k1 (by omega)
  · rw [I58] at k2
    rw [ex.J f.s4 (by decide) (pp 4 (by decide) (by decide)), ex.I f.s5 rfl (pp 5 (by decide) (by decide)), J 60 _ (by decide) (by decide) (by decide), I 59 _ (by decide) (by decide) (by decide) (by decide) (by decide)]
    exact f.he k k1 k2
end
