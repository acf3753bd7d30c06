/-! the reference, exactly: the memory in which the first letter of a SESSION is opened -/
def GQ (x : Nat) (u w s ln : Int) (e root : Int64) (g g' : cx_Q) : Prop := (∀ j, cq_I g' x j = cq_I g x j) ∧ (∀ j, cq_J g' x j = cq_J g x j) ∧ (∀ o j, 1 ≤ o → ¬ (o = 30 ∧ j = w) → ¬ (o = 29 ∧ 4 * w ≤ j ∧ j < 4 * w + 4) → ¬ (((31 ≤ o ∧ o ≤ 47) ∨ o = 53) ∧ j = s) → cq_I g' (x + o) j = cq_I g (x + o) j) ∧ (∀ o j, 1 ≤ o → ¬ ((31 ≤ o ∧ o ≤ 47) ∧ j = s) → cq_J g' (x + o) j = cq_J g (x + o) j) ∧ (NQ x w s g g') ∧ (cq_I g' (x + 35) s = 0) ∧ (cq_I g' (x + 39) s = 0) ∧ (cq_I g' (x + 40) s = 0) ∧ (cq_I g' (x + 41) s = 0) ∧ (cq_I g' (x + 44) s = 0) ∧ (cq_I g' (x + 53) s = 0) ∧ (cq_J g' (x + 31) s = root) ∧ (cq_J g' (x + 36) s = cq_J g (x + 17) (21 * u + ln)) ∧ (cq_J g' (x + 37) s = cq_J g (x + 18) (21 * u + ln)) ∧ (cq_J g' (x + 38) s = Int64.ofInt 0) ∧ (cq_J g' (x + 45) s = e)
theorem GQ.x_ {x : Nat} {u w s ln : Int} {e root : Int64} {g g' : cx_Q} (F_ : GQ x u w s ln e root g g') : ∀ j, cq_I g' x j = cq_I g x j := F_.1
theorem GQ.xJ {x : Nat} {u w s ln : Int} {e root : Int64} {g g' : cx_Q} (F_ : GQ x u w s ln e root g g') : ∀ j, cq_J g' x j = cq_J g x j := F_.2.1
theorem GQ.I_ {x : Nat} {u w s ln : Int} {e root : Int64} {g g' : cx_Q} (F_ : GQ x u w s ln e root g g') : ∀ o j, 1 ≤ o → ¬ (o = 30 ∧ j = w) → ¬ (o = 29 ∧ 4 * w ≤ j ∧ j < 4 * w + 4) → ¬ (((31 ≤ o ∧ o ≤ 47) ∨ o = 53) ∧ j = s) → cq_I g' (x + o) j = cq_I g (x + o) j := F_.2.2.1
theorem GQ.J_ {x : Nat} {u w s ln : Int} {e root : Int64} {g g' : cx_Q} (F_ : GQ x u w s ln e root g g') : ∀ o j, 1 ≤ o → ¬ ((31 ≤ o ∧ o ≤ 47) ∧ j = s) → cq_J g' (x + o) j = cq_J g (x + o) j := F_.2.2.2.1
theorem GQ.nq {x : Nat} {u w s ln : Int} {e root : Int64} {g g' : cx_Q} (F_ : GQ x u w s ln e root g g') : NQ x w s g g' := F_.2.2.2.2.1
theorem GQ.i35 {x : Nat} {u w s ln : Int} {e root : Int64} {g g' : cx_Q} (F_ : GQ x u w s ln e root g g') : cq_I g' (x + 35) s = 0 := F_.2.2.2.2.2.1
theorem GQ.i39 {x : Nat} {u w s ln : Int} {e root : Int64} {g g' : cx_Q} (F_ : GQ x u w s ln e root g g') : cq_I g' (x + 39) s = 0 := F_.2.2.2.2.2.2.1
theorem GQ.i40 {x : Nat} {u w s ln : Int} {e root : Int64} {g g' : cx_Q} (F_ : GQ x u w s ln e root g g') : cq_I g' (x + 40) s = 0 := F_.2.2.2.2.2.2.2.1
theorem GQ.i41 {x : Nat} {u w s ln : Int} {e root : Int64} {g g' : cx_Q} (F_ : GQ x u w s ln e root g g') : cq_I g' (x + 41) s = 0 := F_.2.2.2.2.2.2.2.2.1
theorem GQ.i44 {x : Nat} {u w s ln : Int} {e root : Int64} {g g' : cx_Q} (F_ : GQ x u w s ln e root g g') : cq_I g' (x + 44) s = 0 := F_.2.2.2.2.2.2.2.2.2.1
theorem GQ.i53 {x : Nat} {u w s ln : Int} {e root : Int64} {g g' : cx_Q} (F_ : GQ x u w s ln e root g g') : cq_I g' (x + 53) s = 0 := F_.2.2.2.2.2.2.2.2.2.2.1
theorem GQ.j31 {x : Nat} {u w s ln : Int} {e root : Int64} {g g' : cx_Q} (F_ : GQ x u w s ln e root g g') : cq_J g' (x + 31) s = root := F_.2.2.2.2.2.2.2.2.2.2.2.1
theorem GQ.j36 {x : Nat} {u w s ln : Int} {e root : Int64} {g g' : cx_Q} (F_ : GQ x u w s ln e root g g') : cq_J g' (x + 36) s = cq_J g (x + 17) (21 * u + ln) := F_.2.2.2.2.2.2.2.2.2.2.2.2.1
theorem GQ.j37 {x : Nat} {u w s ln : Int} {e root : Int64} {g g' : cx_Q} (F_ : GQ x u w s ln e root g g') : cq_J g' (x + 37) s = cq_J g (x + 18) (21 * u + ln) := F_.2.2.2.2.2.2.2.2.2.2.2.2.2.1
theorem GQ.j38 {x : Nat} {u w s ln : Int} {e root : Int64} {g g' : cx_Q} (F_ : GQ x u w s ln e root g g') : cq_J g' (x + 38) s = Int64.ofInt 0 := F_.2.2.2.2.2.2.2.2.2.2.2.2.2.2.1
theorem GQ.j45 {x : Nat} {u w s ln : Int} {e root : Int64} {g g' : cx_Q} (F_ : GQ x u w s ln e root g g') : cq_J g' (x + 45) s = e := F_.2.2.2.2.2.2.2.2.2.2.2.2.2.2.2
section
variable {x : Nat} {g G : cx_Q} {u w s ln on l : Int} {e root : Int64}
theorem cfG_q (h4 : 0 ≤ cq_I g (x + 30) w ∧ cq_I g (x + 30) w ≤ 4) : GQ x u w (m_slotN g x w) ln e root g (m_cfG g x u w ln on e root) := by
  obtain ⟨q1, q2, q3⟩ := newS_q (x := x) (g := g) (w := w) h4
  unfold m_cfG
  generalize m_newS g x w = m at q1 q2 q3 ⊢
  generalize m_slotN g x w = s at q1 ⊢
  have mx : ∀ j, cq_I m x j = cq_I g x j := fun j => q2 _ _ (by omega) (by omega)
  refine ⟨fun j => ?_, fun j => ?_, fun o j ho w2 w3 w4 => ?_, fun o j ho w5 => ?_, ⟨?_, fun i i0 i1 => ?_⟩, ?_, ?_, ?_, ?_, ?_, ?_, ?_, ?_, ?_, ?_, ?_⟩
  · unfold m_cfS m_clear
    simp only [mm_sI, mm_sJ, mm_sA, mm_IJ, mm_IA, mm_JI, mm_JA, mm_AI, mm_AJ, mm_ssI, mm_ssJ, mm_ssA, mm_zI, mm_zJ, mm_zA, mm_nI, mm_nJ, mm_nA, Nat.left_eq_add, Nat.add_eq_left, Nat.add_left_cancel_iff, Nat.reduceEqDiff, Int.reduceEq, false_and, and_false, if_false, if_true, and_self, true_and, true_or, or_true, false_or, or_false]
    exact mx j
  · unfold m_cfS m_clear
    simp only [mm_sI, mm_sJ, mm_sA, mm_IJ, mm_IA, mm_JI, mm_JA, mm_AI, mm_AJ, mm_ssI, mm_ssJ, mm_ssA, mm_zI, mm_zJ, mm_zA, mm_nI, mm_nJ, mm_nA, Nat.left_eq_add, Nat.add_eq_left, Nat.add_left_cancel_iff, Nat.reduceEqDiff, Int.reduceEq, false_and, and_false, if_false, if_true, and_self, true_and, true_or, or_true, false_or, or_false]
    rw [q3]
  · have e : ∀ o', (31 ≤ o' ∧ o' ≤ 47) ∨ o' = 53 → ¬ (o = o' ∧ j = s) := fun o' z y => w4 ⟨by omega, y.2⟩
    unfold m_cfS m_clear
    simp only [mm_sI, mm_sJ, mm_sA, mm_IJ, mm_IA, mm_JI, mm_JA, mm_AI, mm_AJ, mm_ssI, mm_ssJ, mm_ssA, mm_zI, mm_zJ, mm_zA, mm_nI, mm_nJ, mm_nA, Nat.left_eq_add, Nat.add_eq_left, Nat.add_left_cancel_iff, Nat.reduceEqDiff, Int.reduceEq, false_and, and_false, if_false, if_true, and_self, true_and, true_or, or_true, false_or, or_false, e 33 (by omega), e 35 (by omega), e 39 (by omega), e 40 (by omega), e 41 (by omega), e 42 (by omega), e 44 (by omega), e 46 (by omega), e 47 (by omega), e 53 (by omega)]
    exact q2 _ _ (fun z => w2 ⟨by omega, z.2⟩) (fun z => w3 ⟨by omega, z.2⟩)
  · have e : ∀ o', (31 ≤ o' ∧ o' ≤ 47) → ¬ (o = o' ∧ j = s) := fun o' z y => w5 ⟨by omega, y.2⟩
    have o0 : ¬ o = 0 := by omega
    unfold m_cfS m_clear
    simp only [mm_sI, mm_sJ, mm_sA, mm_IJ, mm_IA, mm_JI, mm_JA, mm_AI, mm_AJ, mm_ssI, mm_ssJ, mm_ssA, mm_zI, mm_zJ, mm_zA, mm_nI, mm_nJ, mm_nA, Nat.left_eq_add, Nat.add_eq_left, Nat.add_left_cancel_iff, Nat.reduceEqDiff, Int.reduceEq, false_and, and_false, if_false, if_true, and_self, true_and, true_or, or_true, false_or, or_false, o0, e 31 (by omega), e 36 (by omega), e 37 (by omega), e 38 (by omega), e 45 (by omega)]
    rw [q3]
  · unfold m_cfS m_clear
    simp only [mm_sI, mm_sJ, mm_sA, mm_IJ, mm_IA, mm_JI, mm_JA, mm_AI, mm_AJ, mm_ssI, mm_ssJ, mm_ssA, mm_zI, mm_zJ, mm_zA, mm_nI, mm_nJ, mm_nA, Nat.left_eq_add, Nat.add_eq_left, Nat.add_left_cancel_iff, Nat.reduceEqDiff, Int.reduceEq, false_and, and_false, if_false, if_true, and_self, true_and, true_or, or_true, false_or, or_false]
    exact q1.r30
  · unfold m_cfS m_clear
    simp only [mm_sI, mm_sJ, mm_sA, mm_IJ, mm_IA, mm_JI, mm_JA, mm_AI, mm_AJ, mm_ssI, mm_ssJ, mm_ssA, mm_zI, mm_zJ, mm_zA, mm_nI, mm_nJ, mm_nA, Nat.left_eq_add, Nat.add_eq_left, Nat.add_left_cancel_iff, Nat.reduceEqDiff, Int.reduceEq, false_and, and_false, if_false, if_true, and_self, true_and, true_or, or_true, false_or, or_false]
    exact q1.r29 i i0 i1
  all_goals unfold m_cfS m_clear
  all_goals simp only [mm_sI, mm_sJ, mm_sA, mm_IJ, mm_IA, mm_JI, mm_JA, mm_AI, mm_AJ, mm_ssI, mm_ssJ, mm_ssA, mm_zI, mm_zJ, mm_zA, mm_nI, mm_nJ, mm_nA, Nat.left_eq_add, Nat.add_eq_left, Nat.add_left_cancel_iff, Nat.reduceEqDiff, Int.reduceEq, false_and, and_false, if_false, if_true, and_self, true_and, true_or, or_true, false_or, or_false]
  all_goals rw [q3]
theorem ER.gq {en b : Nat} {h : cx_Q} (R : ER x en b l h g) (Q : GQ x u w s ln e root g G) : ER x en b l h G := by
  have e62 : cq_I G (x + 62) = cq_I g (x + 62) := funext fun j => Q.I_ 62 j (by decide) (by omega) (by omega) (by omega)
  have eb : ∀ p m, m_bytes G x p m = m_bytes g x p m := fun p m => by
    unfold m_bytes
    rw [e62, Q.x_]
  exact ⟨R.s0, R.sb, R.eb, by rw [Q.x_]; exact R.zb, by rw [Q.x_, e62]; exact R.bb, by rw [Q.x_]; exact R.i77, by rw [e62]; exact R.bg, by rw [e62]; exact R.fr, by rw [e62]; exact R.tt, by rw [e62, eb, eb, eb, eb]; exact R.nb, by rw [Q.xJ]; exact R.op, by rw [Q.x_]; exact R.pn, by rw [Q.x_]; exact R.pl, by rw [Q.x_]; exact R.tl, by rw [Q.x_]; exact R.ta, by rw [Q.x_, Q.x_, Q.x_]; exact R.tz, by rw [Q.x_]; exact R.t1, by rw [e62, Q.x_]; exact R.sm, by rw [eb, Q.x_]; exact R.tg⟩
theorem cfG_v (Q : GQ x u w s ln e root g G) : m_keptAt G x s = -2 ∧ m_tn G x s = 1 ∧ m_bef G x s 1 = 0 ∧ m_beh G x s 1 = cq_I g x 81 ∧ m_com G x s 1 = f_common (cq_J g (x + 17) (21 * u + ln)) (cq_J g x 79) ∧ m_ch0 G x s 1 = m_cfC g x u ln root ∧ m_okey G x s 1 = m_cfK g x u ln root := by
  have ek : m_keptAt G x s = -2 := by
    unfold m_keptAt
    rw [Q.i53]
    rfl
  have et : m_tn G x s = 1 := by
    unfold m_tn
    rw [if_pos (Or.inl Q.i39)]
  have eb : m_bef G x s 1 = 0 := by
    unfold m_bef
    rw [if_neg (fun z => z.2.1 Q.i35)]
  have eh : m_beh G x s 1 = cq_I g x 81 := by
    unfold m_beh
    rw [if_pos (by decide), Q.x_]
  have ec : m_com G x s 1 = f_common (cq_J g (x + 17) (21 * u + ln)) (cq_J g x 79) := by
    unfold m_com
    rw [if_pos (by decide), Q.j36, Q.xJ]
  have e0 : m_ch0 G x s 1 = m_cfC g x u ln root := by
    unfold m_ch0 m_cfC
    rw [if_pos (by decide), ec, Q.j31]
  refine ⟨ek, et, eb, eh, ec, e0, ?_⟩
  unfold m_okey m_cfK
  rw [eh, e0]
theorem cfG_A (Q : GQ x u w s ln e root g G) : m_openA G x l s = if 10 < cq_I g x 81 then 5 else m_tg g x l (m_cfK g x u ln root) := by
  obtain ⟨ek, et, eb, eh, _, _, ey⟩ := cfG_v Q
  have e62 : cq_I G (x + 62) = cq_I g (x + 62) := funext fun j => Q.I_ 62 j (by decide) (by omega) (by omega) (by omega)
  have eg : m_tg G x l (m_cfK g x u ln root) = m_tg g x l (m_cfK g x u ln root) := by
    unfold m_tg m_bytes
    rw [e62, Q.x_, Q.x_]
  unfold m_openA
  rw [ek, if_pos (by decide), et]
  unfold m_oA
  rw [if_neg (fun z => absurd z.1 (by decide)), eb, eh, Q.i53, ey, eg]
  by_cases c1 : 10 < cq_I g x 81
  · rw [if_pos c1, if_pos (by omega)]
  · rw [if_neg c1, if_neg (by omega), if_neg (fun z => absurd z.1 (by decide))]
theorem cfG_Q (Q : GQ x u w s ln e root g G) (h81 : 0 ≤ cq_I g x 81 ∧ cq_I g x 81 ≤ 10) : FRM x s u 1 G (m_openQ G x u s) ∧ RD x (m_cfK g x u ln root) g (m_openQ G x u s) ∧ OK3 x s 0 (cq_I g x 81) (cq_J g x 79) (m_cfC g x u ln root) (f_key 1 root (f_common (cq_J g (x + 17) (21 * u + ln)) (cq_J g x 79))) (f_common (dV (cq_J g (x + 1) u) (cq_I g (x + 12) u)) (cq_J g x 79)) (dV (cq_J g (x + 1) u) (cq_I g (x + 12) u)) (dO (cq_J g (x + 1) u) (cq_I g (x + 12) u)) G (m_openQ G x u s) := by
  obtain ⟨ek, et, eb, eh, ec, e0, ey⟩ := cfG_v Q
  have e62 : ∀ j, cq_I G (x + 62) j = cq_I g (x + 62) j := fun j => Q.I_ 62 j (by decide) (by omega) (by omega) (by omega)
  have eq_ : m_openQ G x u s = m_oEnd (m_oT G x u s 1) x s (m_cfK g x u ln root) := by
    unfold m_openQ
    rw [ek, if_pos (by decide), et, ey]
  have c1 : cq_J G (x + 1) u = cq_J g (x + 1) u := Q.J_ 1 u (by decide) (by omega)
  have c12 : cq_I G (x + 12) u = cq_I g (x + 12) u := Q.I_ 12 u (by decide) (by omega) (by omega) (by omega)
  have i53 := Q.i53
  have x81 := Q.x_ 81
  have e2 : f_key 2 root (f_common (cq_J g (x + 17) (21 * u + ln)) (cq_J g x 79)) = m_cfC g x u ln root := by
    unfold m_cfC
    rfl
  obtain ⟨A, B, C⟩ := open3_q (x := x) (s := s) (u := u) (g := G) (k := m_cfK g x u ln root) (by rw [i53, eb, x81]; omega)
  rw [eb, ec, x81, Q.xJ, Q.j31, c1, c12, e2] at C
  rw [← eq_] at A B C
  generalize m_openQ G x u s = gq at A B C ⊢
  exact ⟨A, ⟨fun j w => by rw [B.x_ j w, Q.x_], by rw [B.x75, Q.x_], fun i i0 i1 => by rw [B.r_ i i0 (by rw [Q.x_]; exact i1), Q.x_, Q.x_, e62]⟩, C⟩
theorem bk_sI {m : cx_Q} {a : Nat} {j v : Int} (h1 : a ≠ x + 65) (h2 : ¬ (a = x ∧ j = 75)) : bk x g (cq_sI m a j v) = cq_sI (bk x g m) a j v := by
  unfold bk
  refine qext rfl rfl rfl (fun q r => ?_) (fun q r => rfl) (fun q r => rfl)
  rw [mm_sI, rr_I, rr_I]
  by_cases z : q = x + 65
  · rw [if_pos z, if_pos z, if_neg (fun y => h1 (y.1.symm.trans z))]
  · rw [if_neg z, if_neg z, mm_sI, mm_sI, mm_sI]
    by_cases y : q = x ∧ r = 75
    · rw [if_pos y, if_pos y, if_neg (fun y2 => h2 ⟨y2.1.symm.trans y.1, y2.2.symm.trans y.2⟩)]
    · rw [if_neg y, if_neg y]
theorem bk_sJ {m : cx_Q} {a : Nat} {j : Int} {v : Int64} : bk x g (cq_sJ m a j v) = cq_sJ (bk x g m) a j v := by
  unfold bk
  exact qext rfl rfl rfl (fun q r => rfl) (fun q r => rfl) (fun q r => rfl)
theorem sI_idm {m : cx_Q} {a : Nat} {j v : Int} (e : cq_I m a j = v) : cq_sI m a j v = m := by
  refine qext rfl rfl rfl (fun q r => ?_) (fun q r => rfl) (fun q r => rfl)
  rw [mm_sI]
  by_cases y : q = a ∧ r = j
  · rw [if_pos y, y.1, y.2, e]
  · rw [if_neg y]
theorem sI_cm {m : cx_Q} {a b : Nat} {j k v w : Int} (ne : a ≠ b) : cq_sI (cq_sI m a j v) b k w = cq_sI (cq_sI m b k w) a j v := by
  refine qext rfl rfl rfl (fun q r => ?_) (fun q r => rfl) (fun q r => rfl)
  rw [mm_sI, mm_sI, mm_sI, mm_sI]
  by_cases y : q = b ∧ r = k
  · rw [if_pos y, if_neg (fun z => ne (z.1.symm.trans y.1)), if_pos y]
  · rw [if_neg y, if_neg y]
theorem sI_cJ {m : cx_Q} {a b : Nat} {j k v : Int} {w : Int64} : cq_sJ (cq_sI m a j v) b k w = cq_sI (cq_sJ m b k w) a j v := qext rfl rfl rfl (fun q r => rfl) (fun q r => rfl) (fun q r => rfl)
/-- the first letter is noted: the reference's order and the class's -/
theorem cfD_bk {gq : cx_Q} (i43 : cq_I gq (x + 43) s = 0) (x85 : cq_I gq x 85 = cq_I g x 85) : cq_sI (sn (if on = 0 then bk x g gq else cq_sI (bk x g gq) (x + 28) (61 * u + on) 0) x u ln e) x 85 (cq_I g x 85 + 1) = bk x g (m_cfD gq x u s ln on e) := by
  have e58 : cq_I (bk x g gq) (x + 58) u = cq_I gq (x + 58) u := by
    unfold bk
    rw [rr_I, if_neg (by omega), mm_sI, if_neg (by omega)]
  have eN : bk x g (m_cfN gq x u s ln e) = cq_sI (sn (bk x g gq) x u ln e) x 85 (cq_I g x 85 + 1) := by
    unfold m_cfN sn
    rw [e58, x85, sI_idm i43]
    generalize cq_I gq (x + 58) u = k
    generalize cq_I g x 85 + 1 = k2
    rw [bk_sI (by omega) (by omega), bk_sI (by omega) (by omega), bk_sJ, bk_sI (by omega) (by omega)]
  by_cases w : on = 0
  · rw [if_pos w]
    unfold m_cfD
    rw [if_pos w, eN]
  · rw [if_neg w]
    unfold m_cfD
    rw [if_neg w, bk_sI (by omega) (by omega), eN]
    have e58' : cq_I (cq_sI (bk x g gq) (x + 28) (61 * u + on) 0) (x + 58) u = cq_I (bk x g gq) (x + 58) u := by rw [mm_sI, if_neg (by omega)]
    unfold sn
    rw [e58']
    generalize cq_I (bk x g gq) (x + 58) u = k
    generalize cq_I g x 85 + 1 = k2
    generalize bk x g gq = m
    rw [sI_cm (a := x + 28) (b := x + 59) (by omega), sI_cJ, sI_cm (a := x + 28) (b := x + 58) (by omega), sI_cm (a := x + 28) (b := x) (by omega)]
end
