/-! the reference: a letter comes -/
theorem TI.eL {F : Nat → Int → Int} {G : cx_Q → Prop} {x : Nat} {h g : cx_Q} {N O : Int} (a : TI F G x h N O) (e : eL x h g) : TI F G x g N O := by
  have e1 := (e.2.2.2.2 x 2 (fun q => by omega)).1
  have e2 := (e.2.2.2.2 x 10 (fun q => by omega)).1
  have e3 := (e.2.2.2.2 x 33 (fun q => by omega)).1
  have eo : ∀ (o : Nat) (j : Int), 1 ≤ o → cq_I g (x + o) j = cq_I h (x + o) j := fun o j q => (e.2.2.2.2 (x + o) j (fun z => by omega)).1
  have ej : ∀ j, cq_J g (x + 9) j = cq_J h (x + 9) j := fun j => (e.2.2.2.2 (x + 9) j (fun z => by omega)).2
  have ex : exT x h g := ⟨⟨by rw [e1]; exact Int.le_refl _, by rw [e2]; exact Int.le_refl _⟩, fun k o q1 q2 q3 => eo o k (by omega), fun k q1 q2 => by rw [e1] at q2; omega, fun k _ => ⟨eo 10 k (by decide), ej k⟩⟩
  refine ⟨by rw [e1]; exact a.1, by rw [e2]; exact a.2.1, by rw [e3]; exact a.2.2.1, fun o ho j => by rw [eo o j (tV_pos o ho)]; exact a.tv o ho j, ⟨fun t t' => ?_, fun t => ?_, fun o ho j => ?_, ?_⟩, fun o ho j => by rw [eo o j (tR_V o ho).2.1]; exact a.re o ho j, a.st _ _ ex a.g, a.st⟩
  · rw [e1, eo 2 t (by decide), eo 2 t' (by decide), eo 3 t (by decide), eo 3 t' (by decide), eo 4 t (by decide), eo 4 t' (by decide), eo 5 t (by decide), eo 5 t' (by decide), eo 6 t (by decide), eo 6 t' (by decide)]
    exact a.tw.1 t t'
  · rw [e1, eo 3 t (by decide), eo 4 t (by decide), eo 5 t (by decide), eo 6 t (by decide)]
    exact a.tw.2.1 t
  · rw [e1, eo o j (tV_pos o ho)]
    exact a.tw.2.2.1 o ho j
  · rw [e1, e3]
    exact a.tw.2.2.2
theorem TI_rl {F : Nat → Int → Int} {G : cx_Q → Prop} {x : Nat} {h : cx_Q} {N O l : Int} (a : TI F G x h N O) : TI F G x (m_rl h x l) N O := by
  unfold m_rl m_rl4 m_rl3 m_rl1
  repeat' (first | with_reducible assumption | with_reducible refine TI.sJ ?_ | (with_reducible refine TI.sF ?_ ?_ ?_ ?_; rotate_left; decide; decide; decide) | (with_reducible refine TI.sT ?_ ?_ ?_; rotate_left; decide; first | exact fun q => absurd q (by decide) | exact fun _ => ⟨by omega, by omega⟩))
theorem rl_62 {x : Nat} {h : cx_Q} {l j : Int} : cq_I (m_rl h x l) (x + 62) j = cq_I h (x + 62) j := by
  unfold m_rl m_rl4 m_rl3 m_rl1
  simp only [mm_sI, mm_sJ, mm_sA, mm_IJ, mm_IA, mm_JI, mm_JA, mm_AI, mm_AJ, mm_ssI, mm_ssJ, mm_ssA, mm_zI, mm_zJ, mm_zA, mm_nI, mm_nJ, mm_nA, Nat.left_eq_add, Nat.add_eq_left, Nat.add_left_cancel_iff, Nat.reduceEqDiff, Int.reduceEq, false_and, and_false, if_false, if_true, and_self, true_and, true_or, or_true, false_or, or_false]
section
variable {x : Nat} {n L Q D : Int} {U V : Int → Int} {h0 h : cx_Q}
theorem rg_ite {c : Prop} [Decidable c] {a b lo hi : Int} (ha : lo ≤ a ∧ a ≤ hi) (hb : lo ≤ b ∧ b ≤ hi) : lo ≤ (if c then a else b) ∧ (if c then a else b) ≤ hi := by
  split
  · exact ha
  · exact hb
theorem m_tg_rg {l : Int} {k : Int64} : 0 ≤ m_tg h x l k ∧ m_tg h x l k ≤ 4 := by
  unfold m_tg
  split <;> decide
theorem m_openA_rg {l s : Int} : 0 ≤ m_openA h x l s ∧ m_openA h x l s ≤ 100 := by
  have q := fun k => m_tg_rg (h := h) (x := x) (l := l) (k := k)
  unfold m_openA m_oA
  refine rg_ite ?_ ?_
  · refine rg_ite ⟨by decide, by decide⟩ (rg_ite ⟨by decide, by decide⟩ (rg_ite ⟨by decide, by decide⟩ ?_))
    have := q (m_okey h x s (m_tn h x s))
    exact ⟨this.1, Int.le_trans this.2 (by decide)⟩
  · have := q (cq_J h (x + 56) (20 * s + m_keptAt h x s))
    exact ⟨this.1, Int.le_trans this.2 (by decide)⟩
theorem m_clA_rg {l r : Int} : 0 ≤ m_clA h x l r ∧ m_clA h x l r ≤ 100 := by
  unfold m_clA
  exact rg_ite ⟨by decide, by decide⟩ (rg_ite m_openA_rg ⟨by decide, by decide⟩)
theorem m_cfA_rg {l u r : Int} : 0 ≤ m_cfA h x l u r ∧ m_cfA h x l u r ≤ 100 := by
  unfold m_cfA m_cfA0 m_cfA1 m_cfA2
  refine rg_ite (rg_ite ⟨by decide, by decide⟩ (rg_ite ⟨by decide, by decide⟩ (rg_ite ⟨by decide, by decide⟩ (rg_ite ⟨by decide, by decide⟩ (rg_ite ⟨by decide, by decide⟩ ?_))))) m_openA_rg
  have := m_tg_rg (h := h) (x := x) (l := l) (k := m_cfK h x u (m_bytes h x 19 2).toInt32.toInt (m_cfR h x u (m_bytes h x 19 2).toInt32.toInt (m_bytes h x 21 2).toInt32.toInt (m_bytes h x 3 8) (m_bytes h x 11 8)))
  exact ⟨this.1, Int.le_trans this.2 (by decide)⟩
theorem front_x {r i j : Int} : cq_I (m_front h x r i) x j = cq_I h x j := by
  unfold m_front
  rw [mm_sI, if_neg (fun e => by omega), m_sh_x]
theorem clQ_84 {l u r : Int} : cq_I (m_clQ h x l u r) x 84 = cq_I h x 84 := by
  unfold m_clQ
  rw [front_x]
  exact openQ_x (by decide)
theorem cfD_84 {u s ln on : Int} {e : Int64} : cq_I (m_cfD h x u s ln on e) x 84 = cq_I h x 84 := by
  unfold m_cfD m_cfN
  split
  · simp only [mm_sI, mm_sJ, mm_sA, mm_IJ, mm_IA, mm_JI, mm_JA, mm_AI, mm_AJ, mm_ssI, mm_ssJ, mm_ssA, mm_zI, mm_zJ, mm_zA, mm_nI, mm_nJ, mm_nA, Nat.left_eq_add, Nat.add_eq_left, Nat.add_left_cancel_iff, Nat.reduceEqDiff, Int.reduceEq, false_and, and_false, if_false, if_true, and_self, true_and, true_or, or_true, false_or, or_false]
  · simp only [mm_sI, mm_sJ, mm_sA, mm_IJ, mm_IA, mm_JI, mm_JA, mm_AI, mm_AJ, mm_ssI, mm_ssJ, mm_ssA, mm_zI, mm_zJ, mm_zA, mm_nI, mm_nJ, mm_nA, Nat.left_eq_add, Nat.add_eq_left, Nat.add_left_cancel_iff, Nat.reduceEqDiff, Int.reduceEq, false_and, and_false, if_false, if_true, and_self, true_and, true_or, or_true, false_or, or_false]
theorem cfG_84 {u r ln on : Int} {e root : Int64} : cq_I (m_cfG h x u r ln on e root) x 84 = cq_I h x 84 := by
  unfold m_cfG
  rw [cfS_x, mm_IJ, clear_x, m_newS_x]
theorem cfQ_84 {u v : Int} : cq_I (m_cfQ h x u v) x 84 = cq_I h x 84 := by
  unfold m_cfQ m_cfQ1
  split
  · unfold m_cfQ0
    rw [cfD_84]
    exact (openQ_x (by decide)).trans cfG_84
  · rw [front_x]
    exact openQ_x (by decide)
end
