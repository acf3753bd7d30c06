/-! class and reference side by side behind k calls, by value -/
section
variable {x : Nat} {h k : cx_Q} {n u v w l p m : Int}
theorem reg_x63 : cq_I (m_register h x u) x 63 = cq_I h x 63 := by
  unfold m_register m_lend m_lend3 m_lend2 m_lend1 m_reg2 m_reg1
  simp only [m_draw_I, mm_sI, mm_sJ, mm_sA, mm_IJ, mm_IA, mm_JI, mm_JA, mm_AI, mm_AJ, mm_ssI, mm_ssJ, mm_ssA, mm_zI, mm_zJ, mm_zA, mm_nI, mm_nJ, mm_nA, Nat.left_eq_add, Nat.add_eq_left, Nat.add_left_cancel_iff, Nat.reduceEqDiff, Int.reduceEq, false_and, and_false, if_false, if_true, and_self, true_and, true_or, or_true, false_or, or_false]
theorem lend_x63 : cq_I (m_lend h x u) x 63 = cq_I h x 63 := by
  unfold m_lend m_lend3 m_lend2 m_lend1
  simp only [m_draw_I, mm_sI, mm_sJ, mm_sA, mm_IJ, mm_IA, mm_JI, mm_JA, mm_AI, mm_AJ, mm_ssI, mm_ssJ, mm_ssA, mm_zI, mm_zJ, mm_zA, mm_nI, mm_nJ, mm_nA, Nat.left_eq_add, Nat.add_eq_left, Nat.add_left_cancel_iff, Nat.reduceEqDiff, Int.reduceEq, false_and, and_false, if_false, if_true, and_self, true_and, true_or, or_true, false_or, or_false]
theorem pub_x63 : ∀ {r : Nat} {h : cx_Q}, cq_I (m_pub x u r h) x 63 = cq_I h x 63
  | 0, h => by rw [m_pub]
  | r + 1, h => by rw [m_pub, pub_x63, m_pub1_x]
theorem begin_x63 : cq_I (m_begin h x u v) x 63 = cq_I h x 63 + 1 := by
  unfold m_begin m_bn2 m_turn3 m_turnS m_bn1
  simp only [mm_sI, mm_sJ, mm_sA, mm_IJ, mm_IA, mm_JI, mm_JA, mm_AI, mm_AJ, mm_ssI, mm_ssJ, mm_ssA, mm_zI, mm_zJ, mm_zA, mm_nI, mm_nJ, mm_nA, Nat.left_eq_add, Nat.add_eq_left, Nat.add_left_cancel_iff, Nat.reduceEqDiff, Int.reduceEq, false_and, and_false, if_false, if_true, and_self, true_and, true_or, or_true, false_or, or_false, m_draw_I, clear_x, m_newS_x]
  unfold m_bnC
  simp only [m_draw_I, mm_sI, mm_sJ, mm_sA, mm_IJ, mm_IA, mm_JI, mm_JA, mm_AI, mm_AJ, mm_ssI, mm_ssJ, mm_ssA, mm_zI, mm_zJ, mm_zA, mm_nI, mm_nJ, mm_nA, Nat.left_eq_add, Nat.add_eq_left, Nat.add_left_cancel_iff, Nat.reduceEqDiff, Int.reduceEq, false_and, and_false, if_false, if_true, and_self, true_and, true_or, or_true, false_or, or_false]
theorem q63_reg : cq_I (qReg h x n u) x 63 ≤ cq_I h x 63 + 1 := by
  unfold qReg
  split
  · split
    · rw [reg_x63]; omega
    · omega
  · omega
theorem q63_rot : cq_I (qRot h x n u) x 63 ≤ cq_I h x 63 + 1 := by
  unfold qRot
  split
  · split
    · omega
    · split
      · omega
      · rw [lend_x63]; omega
  · omega
theorem q63_pub : cq_I (qPub h x n u w) x 63 ≤ cq_I h x 63 + 1 := by
  unfold qPub
  split
  · split
    · omega
    · split
      · omega
      · rw [pub_x63]; omega
  · omega
theorem q63_frg {a : Int64} : cq_I (qFrg h x n u a) x 63 ≤ cq_I h x 63 + 1 := by
  unfold qFrg
  split
  · rw [mm_IJ]; omega
  · omega
theorem q63_beg : cq_I (qBeg h x n u v) x 63 ≤ cq_I h x 63 + 1 := by
  unfold qBeg
  split
  · split
    · omega
    · split
      · rw [begin_x63]; omega
      · rw [bn0_x]; omega
  · omega
theorem q63_for : cq_I (qFor h x n u v) x 63 ≤ cq_I h x 63 + 1 := by
  unfold qFor
  split
  · rw [mm_sI, if_neg (by omega)]; omega
  · omega
theorem q63_end : cq_I (qEnd h x m) x 63 ≤ cq_I h x 63 + 1 := by
  unfold qEnd
  split
  · rw [mm_sI, if_neg (by omega)]; omega
  · omega
theorem q63_fd {a b c d e : Int} : cq_I (qFd h x a b c d e) x 63 ≤ cq_I h x 63 + 1 := by
  unfold qFd
  split
  · omega
  · rw [(m_fd_q (x := x) 20).2.2.1 x 63 (by omega) (by omega)]; omega
theorem q63_spo : cq_I (qSpo h x l p m) x 63 ≤ cq_I h x 63 + 1 := by
  unfold qSpo
  split
  · rw [mm_sI, if_neg (by omega)]; omega
  · omega
theorem q63_cop : cq_I (qCop h x l) x 63 ≤ cq_I h x 63 + 1 := by
  unfold qCop
  split
  · split
    · omega
    · unfold m_copy
      rw [mm_sI, if_neg (by omega), mm_sI, if_neg (by omega), mm_sI, if_neg (by omega), m_cp_I (by omega)]; omega
  · omega
theorem q63_lok : cq_I (qLok h x n u) x 63 ≤ cq_I h x 63 + 1 := by
  unfold qLok
  split
  · rw [mm_sI, if_neg (by omega)]; omega
  · omega
theorem q63_com : cq_I (CMQ h x l u) x 63 = cq_I h x 63 := by
  have eLs := rl_eL (x := x) (g := h) (l := l)
  have r63 : cq_I (m_rl h x l) x 63 = cq_I h x 63 := (eLs.2.2.2.2 x 63 (by omega)).1
  unfold CMQ
  rw [mm_sI, if_neg (by omega)]
  unfold CMQ0
  generalize m_rl h x l = g at r63 ⊢
  split
  · unfold m_cfQ m_cfQ1
    split
    · unfold m_cfQ0
      generalize m_cfR g x u _ _ _ _ = root
      have e1 : ∀ {ln on : Int} {e : Int64} {q : cx_Q} {s : Int}, cq_I (m_cfD q x u s ln on e) x 63 = cq_I q x 63 := fun {ln on e q s} => by
        unfold m_cfD m_cfN
        split
        · simp only [mm_sI, mm_sJ, mm_sA, mm_IJ, mm_IA, mm_JI, mm_JA, mm_AI, mm_AJ, mm_ssI, mm_ssJ, mm_ssA, mm_zI, mm_zJ, mm_zA, mm_nI, mm_nJ, mm_nA, Nat.left_eq_add, Nat.add_eq_left, Nat.add_left_cancel_iff, Nat.reduceEqDiff, Int.reduceEq, false_and, and_false, if_false, if_true, and_self, true_and, true_or, or_true, false_or, or_false]
        · simp only [mm_sI, mm_sJ, mm_sA, mm_IJ, mm_IA, mm_JI, mm_JA, mm_AI, mm_AJ, mm_ssI, mm_ssJ, mm_ssA, mm_zI, mm_zJ, mm_zA, mm_nI, mm_nJ, mm_nA, Nat.left_eq_add, Nat.add_eq_left, Nat.add_left_cancel_iff, Nat.reduceEqDiff, Int.reduceEq, false_and, and_false, if_false, if_true, and_self, true_and, true_or, or_true, false_or, or_false]
      rw [e1, openQ_x (by decide)]
      unfold m_cfG
      rw [cfS_x, mm_IJ, clear_x, m_newS_x, r63]
    · rw [front_x, openQ_x (by decide), r63]
  · unfold m_clQ
    rw [front_x, openQ_x (by decide), r63]
theorem q63_wr {g' : cx_Q} (R : rWr h x n u v g') : cq_I g' x 63 ≤ cq_I h x 63 + 1 := by
  unfold rWr at R
  by_cases q : ((0 ≤ u ∧ u < n) ∧ (0 ≤ v ∧ v < n) ∧ u ≠ v) ∧ cq_I h x 68 ≠ 0 ∧ ¬ (cq_I h (x + 11) u = 0 ∨ cq_I h (x + 11) v = 0) ∧ cq_I h x 72 ≠ 80
  · obtain ⟨a1, a2⟩ := R.1 q
    by_cases r : cq_I h (x + 30) (6 * u + v) = 0
    · by_cases s : m_seal h x v
      · obtain ⟨g1, e, W⟩ := (a1 r).2 s
        have w := WQ.x_ W 63 (by decide) (by decide) (by decide) (by decide) (by decide) (by decide)
        rw [w, e.xI (by decide) (by decide) (by decide), begin_x63]
        omega
      · have e := (a1 r).1 s
        rw [e.xI (by decide) (by decide) (by decide), bn0_x]
        omega
    · have w := WQ.x_ (a2 r) 63 (by decide) (by decide) (by decide) (by decide) (by decide) (by decide)
      rw [w]
      omega
  · rw [(R.2 q).xI (by decide) (by decide) (by decide)]
    omega
theorem ov_of {h1 : cx_Q} (W : FR h h1) (S : rS h x) : h1 = ov x h h1 := by
  have q : ∀ a, x ≤ a ∧ a ≤ x + 65 → cq_I h1 a = cq_I h a ∧ cq_J h1 a = cq_J h a := fun a w => by
    have := (W.2 a (S.isR w)).2
    exact ⟨this.2.2.1, this.2.2.2.1⟩
  refine qext rfl rfl rfl (fun a r => ?_) (fun a r => ?_) (fun a r => rfl)
  · rw [ov_a]
    by_cases w : x ≤ a ∧ a ≤ x + 65
    · rw [if_pos w, (q a w).1]
    · rw [if_neg w]
  · rw [ov_b]
    by_cases w : x ≤ a ∧ a ≤ x + 65
    · rw [if_pos w, (q a w).2]
    · rw [if_neg w]
end
section
variable {c x p : Nat} {n N L L1 Z k : Int} {U V : Int → Int} {E : Nat → Option Int} {h g h1 h2 gq k1 : cx_Q} {pe : Int → Nat} {ro : Int → Int → Nat} {pa lb tp rd en op ob : Nat} {T Lf : Int → Nat}
theorem FX.o_ (F : FX c x n pe ro pa lb tp rd en op ob T Lf h g) : FX c x n pe ro pa lb tp rd en op ob T Lf h (ov x g k1) := by
  have r : eqR x (fun _ _ => False) g (ov x g k1) := fun o j _ w _ _ => ⟨by rw [ov_I w], by rw [ov_J w]⟩
  exact F.upS (P := fun _ => False) evx.refl (fun _ _ => False) r (fun _ z => z.elim) (fun _ _ z => z.elim) rfl rfl (by rw [ov_I0]) (by rw [ov_I0]) (F.fs.ex (P := fun _ => False) evx.refl id id id (fun j z => by rw [ov_I0]) (fun j => by rw [ov_I (by decide)]) (fun j => by rw [ov_I (by decide)]))
theorem FX.uo (F : FX c x n pe ro pa lb tp rd en op ob T Lf h (ov x g k1)) : FX c x n pe ro pa lb tp rd en op ob T Lf h g := by
  have := F.o_ (k1 := g)
  rw [ov_ov, ov_id] at this
  exact this
/-- behind k calls, by value -/
def LF (p c x : Nat) (n N : Int) (pe : Int → Nat) (ro : Int → Int → Nat) (pa lb tp rd en op ob : Nat) (k : Int) (h : cx_Q) : Prop := ∃ (Z : Int) (E : Nat → Option Int) (L1 : Int) (T Lf : Int → Nat) (L : Int) (U V : Int → Int), CI c n L1 Z E h [] h ∧ Z ≤ 100 * k ∧ RI x n L U V k h h ∧ (2 ≤ n ∧ n ≤ 6) ∧ (0 ≤ L ∧ L ≤ k) ∧ (∀ u, 0 ≤ V u ∧ V u ≤ 20) ∧ (∀ u, U u = 0 → V u = 0) ∧ (cq_s h p = 98 ∧ cq_z h p = N) ∧ FX c x n pe ro pa lb tp rd en op ob T Lf h h ∧ cq_I h x 63 ≤ k
theorem LF.mk (G : CI c n L1 Z E h [] h1) (hZ : Z ≤ 100 * (k + 1)) (R : RI x n L U V (k + 1) h1 h2) (hn : 2 ≤ n ∧ n ≤ 6) (hL : 0 ≤ L ∧ L ≤ k + 1) (hV : ∀ u, 0 ≤ V u ∧ V u ≤ 20) (hU : ∀ u, U u = 0 → V u = 0) (S : rS h1 x) (hp : cq_s h1 p = 98 ∧ cq_z h1 p = N) (F : FX c x n pe ro pa lb tp rd en op ob T Lf h1 h2) (b63 : cq_I h2 x 63 ≤ k + 1) : LF p c x n N pe ro pa lb tp rd en op ob (k + 1) h2 := by
  have W := R.1.1
  have H2 := G.wz W S
  refine ⟨Z, E, L1, T, Lf, L, U, V, H2, hZ, R.fr ⟨Nat.le_refl _, fun a q => ⟨?_, rfl, rfl, rfl, rfl, rfl⟩⟩, hn, hL, hV, hU, ?_, F.wz W S, b63⟩
  · by_cases z : h2.1 ≤ a
    · exact absurd (H2.al a z) (isR_own q).2
    · omega
  · rw [W.2.1, W.2.2.1]; exact hp
/-- from what both calls told -/
theorem LF.st {Q : cx_Q} (b63 : cq_I h x 63 ≤ k) (G : CI c n L1 Z E h [] h1) (hZ : Z ≤ 100 * (k + 1)) (R : RI x n L U V (k + 1) h1 h2) (hn : 2 ≤ n ∧ n ≤ 6) (hL : 0 ≤ L ∧ L ≤ k + 1) (hV : ∀ u, 0 ≤ V u ∧ V u ≤ 20) (hU : ∀ u, U u = 0 → V u = 0) (S : rS h1 x) (hp : cq_s h1 p = 98 ∧ cq_z h1 p = N) (F : FX c x n pe ro pa lb tp rd en op ob T Lf h1 Q) (e : eT x (ov x Q k1) h2) (q63 : cq_I Q x 63 ≤ cq_I h x 63 + 1) : LF p c x n N pe ro pa lb tp rd en op ob (k + 1) h2 := by
  refine LF.mk G hZ R hn hL hV hU S hp (F.o_.eT e) ?_
  rw [e.xI (by decide) (by decide) (by decide), ov_I0]
  omega
theorem LF.up (X : LF p c x n N pe ro pa lb tp rd en op ob k h) (hk : 0 ≤ k) : LF p c x n N pe ro pa lb tp rd en op ob (k + 1) h := by
  obtain ⟨Z, E, L1, T, Lf, L, U, V, H, hZ, R, hn, hL, hV, hU, hp, F, b⟩ := X
  exact ⟨Z, E, L1, T, Lf, L, U, V, H, by omega, R.up, hn, by omega, hV, hU, hp, F, by omega⟩
end
