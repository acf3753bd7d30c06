/-! a SESSION is BEGUN -/
theorem eT_sh {x : Nat} {r : Int} : ∀ {n : Nat} {h h' : cx_Q}, eT x h h' → eT x (m_sh x r n h) (m_sh x r n h')
  | 0, h, h', a => by rw [m_sh_0, m_sh_0]; exact a
  | n + 1, h, h', a => by
    rw [m_sh_s, m_sh_s, a.fI (o := 29) (by decide) (by decide)]
    exact eT_sh (eT.sI a)
theorem m_sh_rS {x : Nat} {r : Int} : ∀ {n : Nat} {h : cx_Q}, rS h x → rS (m_sh x r n h) x
  | 0, h, a => by rw [m_sh_0]; exact a
  | n + 1, h, a => by
    rw [m_sh_s]
    exact m_sh_rS (rS.sI a)
theorem m_sh_TI {x : Nat} {r N O : Int} : ∀ {n : Nat} {h : cx_Q}, TI x h N O → TI x (m_sh x r n h) N O
  | 0, h, a => by rw [m_sh_0]; exact a
  | n + 1, h, a => by
    rw [m_sh_s]
    exact m_sh_TI (TI.sT a (by decide) (fun q => absurd q (by decide)))
theorem m_sh_dI {x : Nat} {r D : Int} : ∀ {n : Nat} {h : cx_Q}, dI x h D → dI x (m_sh x r n h) D
  | 0, h, a => by rw [m_sh_0]; exact a
  | n + 1, h, a => by
    rw [m_sh_s]
    exact m_sh_dI (dI.sI a (by decide))
theorem eT_slotN {x : Nat} {r : Int} {h h' : cx_Q} (a : eT x h h') : m_slotN h' x r = m_slotN h x r := by
  unfold m_slotN
  rw [a.fI (o := 30) (by decide) (by decide), a.fI (o := 29) (by decide) (by decide)]
theorem eT_new1 {x : Nat} {r : Int} {h h' : cx_Q} (a : eT x h h') : eT x (m_new1 h x r) (m_new1 h' x r) := by
  unfold m_new1
  rw [a.fI (o := 30) (by decide) (by decide)]
  split
  · exact a
  · exact eT.sI a
theorem eT_newS {x : Nat} {r : Int} {h h' : cx_Q} (a : eT x h h') : eT x (m_newS h x r) (m_newS h' x r) := by
  unfold m_newS
  rw [eT_slotN a, (eT_new1 (r := r) a).fI (o := 30) (by decide) (by decide)]
  exact eT.sI (eT_sh (eT_new1 a))
theorem m_new1_rS {x : Nat} {r : Int} {h : cx_Q} (a : rS h x) : rS (m_new1 h x r) x := by
  unfold m_new1
  split
  · exact a
  · exact rS.sI a
theorem m_newS_rS {x : Nat} {r : Int} {h : cx_Q} (a : rS h x) : rS (m_newS h x r) x := by
  unfold m_newS
  exact rS.sI (m_sh_rS (m_new1_rS a))
theorem m_newS_TI {x : Nat} {r N O : Int} {h : cx_Q} (a : TI x h N O) : TI x (m_newS h x r) N O := by
  unfold m_newS
  refine TI.sT (m_sh_TI ?_) (by decide) (fun q => absurd q (by decide))
  unfold m_new1
  split
  · exact a
  · exact TI.sT a (by decide) (fun q => absurd q (by decide))
theorem m_newS_dI {x : Nat} {r D : Int} {h : cx_Q} (a : dI x h D) : dI x (m_newS h x r) D := by
  unfold m_newS
  refine dI.sI (m_sh_dI ?_) (by decide)
  unfold m_new1
  split
  · exact a
  · exact dI.sI a (by decide)
theorem eT_clear {x : Nat} {s : Int} {h h' : cx_Q} (a : eT x h h') : eT x (m_clear h x s) (m_clear h' x s) := by
  unfold m_clear
  repeat' (first | with_reducible exact eT.refl _ _ | with_reducible assumption | (with_reducible refine eT.tI ?_ ?_; rotate_left; first | exact isT_a (by decide) | exact isT_f (by decide)) | (with_reducible refine eT.tJ ?_ ?_; rotate_left; first | exact isT_a (by decide) | exact isT_f (by decide)) | with_reducible refine eT.sI ?_ | with_reducible refine eT.sJ ?_)
theorem m_clear_rS {x : Nat} {s : Int} {h : cx_Q} (a : rS h x) : rS (m_clear h x s) x := by
  unfold m_clear
  exact rS.sI (rS.sI (rS.sI (rS.sI (rS.sJ (rS.sI (rS.sI (rS.sI a)))))))
theorem m_clear_TI {x : Nat} {s N O : Int} {h : cx_Q} (a : TI x h N O) : TI x (m_clear h x s) N O := by
  unfold m_clear
  repeat' (first | with_reducible assumption | with_reducible refine TI.sJ ?_ | (with_reducible refine TI.s2 ?_ ?_ ?_; rotate_left; omega; omega) | (with_reducible refine TI.s10 ?_ ?_ ?_; rotate_left; omega; omega) | (with_reducible refine TI.s33 ?_ ?_ ?_; rotate_left; omega; omega) | (with_reducible refine TI.sF ?_ ?_ ?_ ?_; rotate_left; decide; decide; decide) | (with_reducible refine TI.sT ?_ ?_ ?_; rotate_left; decide; first | exact fun q => absurd q (by decide) | exact fun _ => ⟨by omega, by omega⟩))
theorem m_clear_dI {x : Nat} {s D : Int} {h : cx_Q} (a : dI x h D) : dI x (m_clear h x s) D := by
  unfold m_clear
  exact dI.sI (dI.sI (dI.sI (dI.sI (dI.sJ (dI.sI (dI.sI (dI.sI a (by decide)) (by decide)) (by decide))) (by decide)) (by decide)) (by decide)) (by decide)
theorem bn_d {Y : cx_Y} (hY : cY Y) {K : Option cx_V → cx_Q → Prop} {gm g : cx_Q} {x : Nat} {s N O : Int} {o1 o2 o3 o4 o5 o6 o7 o8 o9 o10 o11 o12 o13 o14 o15 o16 o17 o18 o19 o20 o21 o22 o23 o24 : Option cx_V} (hG : rS gm x) (hE : eT x gm g) (hT : TI x g N O) (hN : N ≤ 16900) (hO : O ≤ 1990) (hs : 0 ≤ s ∧ s < 144)
    (hK : ∀ h', eT x (m_turnS (m_turn3 gm x s) x s) h' → TI x h' (N + 3) O → K (some (.inl 1)) h') : cw Y mi_X11_beginNow K 338 [some (.inr (.inr (some x))), o1, o2, o3, o4, o5, o6, o7, o8, o9, o10, o11, o12, o13, o14, o15, o16, o17, o18, o19, o20, o21, o22, o23, o24, some (.inl s)] [] g 0 0 := by
  have hS1 := hE.rS hG
  have tt := hT.2.2.1
  refine bx_X11_beginNow_338 hY (pf1_ok hY) ?_
  simp only [wp_iconst, wp_bipush, wp_sipush, wp_ldc, wp_ldc2_w, wp_lconst0, wp_lconst1, wp_aconst_null, wp_iload_0, wp_istore_0, wp_iload_1, wp_istore_1, wp_iload_2, wp_istore_2, wp_iload_3, wp_istore_3, wp_iload, wp_istore, wp_lload_0, wp_lstore_0, wp_lload_1, wp_lstore_1, wp_lload_2, wp_lstore_2, wp_lload_3, wp_lstore_3, wp_lload, wp_lstore, wp_aload_0, wp_astore_0, wp_aload_1, wp_astore_1, wp_aload_2, wp_astore_2, wp_aload_3, wp_astore_3, wp_aload, wp_astore, wp_iinc, wp_iadd, wp_isub, wp_imul, wp_iand, wp_ior, wp_ixor, wp_ishl, wp_ishr, wp_iushr, wp_irem, wp_ladd, wp_lsub, wp_lmul, wp_land, wp_lor, wp_lxor, wp_lshl, wp_lshr, wp_lushr, wp_lrem, wp_lcmp, wp_i2l, wp_l2i, wp_dupI, wp_dupA, wp_dup2J, wp_dup2IA, wp_popI, wp_popA, wp_pop2, wp_goto, wp_if_eq, wp_icmp_eq, wp_if_ne, wp_icmp_ne, wp_if_lt, wp_icmp_lt, wp_if_ge, wp_icmp_ge, wp_if_gt, wp_icmp_gt, wp_if_le, wp_icmp_le, wp_ifnull, wp_ifnonnull, wp_acmp_eq, wp_acmp_ne, wp_tableswitch, wp_get0, wp_put0, wp_get1, wp_put1, wp_get2, wp_put2, wp_get3, wp_put3, wp_new, wp_newarray, wp_anewarray, wp_alen, wp_iaload, wp_laload, wp_baload, wp_aaload, wp_iastore, wp_lastore, wp_bastore, wp_aastore, wp_return, wp_ireturnI, wp_ireturnZ, wp_lreturn, wp_areturnO, wp_areturnA, wp_max, wp_min, wp_obj, wp_virt, wp_nil, ld_I0, ld_Is, ld_J0, ld_Js, ld_A0, ld_As, ha_0, ha_s, cx_put1, cx_put2, cx_dl, cx_tgt, true_and, and_true, Nat.reduceAdd, Nat.reduceSub, Int.reduceAdd, Int.reduceNeg, Int.reduceToNat, Int.reduceSub, Int.cast_ofNat_Int, List.take_succ_cons, List.take_zero, List.drop_succ_cons, List.drop_zero, List.take_nil, List.drop_nil, Option.toList_some, Option.toList_none, List.cons_append, List.nil_append, wp_spec, ne_eq, Nat.reduceEqDiff, not_false_eq_true, true_or, or_true, rA_sOwn hS1, rs_sOwn hS1, rz_sOwn hS1, ra_141, rA_sOwnOpen hS1, rs_sOwnOpen hS1, rz_sOwnOpen hS1, ra_142, rA_tOwn hS1, rs_tOwn hS1, rz_tOwn hS1, ra_157, (hS1).1, eT.xJ hE (j := 31) (by decide) (by decide) (by decide), eT.xJ hE (j := 32) (by decide) (by decide) (by decide), mm_sI, mm_sJ, mm_sA, mm_IJ, mm_IA, mm_JI, mm_JA, mm_AI, mm_AJ, mm_ssI, mm_ssJ, mm_ssA, mm_zI, mm_zJ, mm_zA, mm_nI, mm_nJ, mm_nA, Nat.left_eq_add, Nat.add_eq_left, Nat.add_left_cancel_iff, Nat.reduceEqDiff, Int.reduceEq, false_and, and_false, if_false, if_true, and_self, true_and, true_or, or_true, false_or, or_false]
  (repeat' (with_reducible (first | refine And.intro ?_ ?_ | intro _)))
  all_goals (try omega)
  have hE2 : eT x (m_turn3 gm x s) (cq_sI (cq_sJ (cq_sJ g (x + 36) s (cq_J gm x 31)) (x + 37) s (cq_J gm x 32)) (x + 52) s (cq_I g x 33)) := by
    unfold m_turn3
    repeat' (first | with_reducible exact eT.refl _ _ | with_reducible assumption | (with_reducible refine eT.tI ?_ ?_; rotate_left; first | exact isT_a (by decide) | exact isT_f (by decide)) | (with_reducible refine eT.tJ ?_ ?_; rotate_left; first | exact isT_a (by decide) | exact isT_f (by decide)) | with_reducible refine eT.sI ?_ | with_reducible refine eT.sJ ?_)
  have hT2 : TI x (cq_sI (cq_sJ (cq_sJ g (x + 36) s (cq_J gm x 31)) (x + 37) s (cq_J gm x 32)) (x + 52) s (cq_I g x 33)) N O := by
    repeat' (first | with_reducible assumption | with_reducible refine TI.sJ ?_ | (with_reducible refine TI.s2 ?_ ?_ ?_; rotate_left; omega; omega) | (with_reducible refine TI.s10 ?_ ?_ ?_; rotate_left; omega; omega) | (with_reducible refine TI.s33 ?_ ?_ ?_; rotate_left; omega; omega) | (with_reducible refine TI.sF ?_ ?_ ?_ ?_; rotate_left; decide; decide; decide) | (with_reducible refine TI.sT ?_ ?_ ?_; rotate_left; decide; first | exact fun q => absurd q (by decide) | exact fun _ => ⟨by omega, by omega⟩))
  refine cl_X11_turnSending (Nat.le_of_ble_eq_true rfl) hS1.1 (Nat.le_refl _) (Nat.le_refl _) (c_X11_turnSending hY (rS.sI (rS.sJ (rS.sJ hS1))) hT2 hN hO hs ?_)
  intro h' hE3 hT3
  refine bx_X11_beginNow_377 hY (pf1_ok hY) ?_
  simp only [wp_iconst, wp_bipush, wp_sipush, wp_ldc, wp_ldc2_w, wp_lconst0, wp_lconst1, wp_aconst_null, wp_iload_0, wp_istore_0, wp_iload_1, wp_istore_1, wp_iload_2, wp_istore_2, wp_iload_3, wp_istore_3, wp_iload, wp_istore, wp_lload_0, wp_lstore_0, wp_lload_1, wp_lstore_1, wp_lload_2, wp_lstore_2, wp_lload_3, wp_lstore_3, wp_lload, wp_lstore, wp_aload_0, wp_astore_0, wp_aload_1, wp_astore_1, wp_aload_2, wp_astore_2, wp_aload_3, wp_astore_3, wp_aload, wp_astore, wp_iinc, wp_iadd, wp_isub, wp_imul, wp_iand, wp_ior, wp_ixor, wp_ishl, wp_ishr, wp_iushr, wp_irem, wp_ladd, wp_lsub, wp_lmul, wp_land, wp_lor, wp_lxor, wp_lshl, wp_lshr, wp_lushr, wp_lrem, wp_lcmp, wp_i2l, wp_l2i, wp_dupI, wp_dupA, wp_dup2J, wp_dup2IA, wp_popI, wp_popA, wp_pop2, wp_goto, wp_if_eq, wp_icmp_eq, wp_if_ne, wp_icmp_ne, wp_if_lt, wp_icmp_lt, wp_if_ge, wp_icmp_ge, wp_if_gt, wp_icmp_gt, wp_if_le, wp_icmp_le, wp_ifnull, wp_ifnonnull, wp_acmp_eq, wp_acmp_ne, wp_tableswitch, wp_get0, wp_put0, wp_get1, wp_put1, wp_get2, wp_put2, wp_get3, wp_put3, wp_new, wp_newarray, wp_anewarray, wp_alen, wp_iaload, wp_laload, wp_baload, wp_aaload, wp_iastore, wp_lastore, wp_bastore, wp_aastore, wp_return, wp_ireturnI, wp_ireturnZ, wp_lreturn, wp_areturnO, wp_areturnA, wp_max, wp_min, wp_obj, wp_virt, wp_nil, ld_I0, ld_Is, ld_J0, ld_Js, ld_A0, ld_As, ha_0, ha_s, cx_put1, cx_put2, cx_dl, cx_tgt, true_and, and_true, Nat.reduceAdd, Nat.reduceSub, Int.reduceAdd, Int.reduceNeg, Int.reduceToNat, Int.reduceSub, Int.cast_ofNat_Int, List.take_succ_cons, List.take_zero, List.drop_succ_cons, List.drop_zero, List.take_nil, List.drop_nil, Option.toList_some, Option.toList_none, List.cons_append, List.nil_append, wp_spec, ne_eq, Nat.reduceEqDiff, not_false_eq_true, true_or, or_true]
  exact hK h' ((eT_turnS hE2).trans hE3) hT3
def m_bn1 (h : cx_Q) (x : Nat) (s v k : Int) (R ot eO : Int64) : cx_Q := cq_sI (cq_sI (cq_sJ (cq_sI (cq_sI (cq_sI (cq_sJ (cq_sJ h (x + 31) s R) (x + 38) s ot) (x + 39) s 1) (x + 43) s 1) (x + 44) s 1) (x + 45) s eO) (x + 46) s (cq_I h (x + 16) v)) (x + 47) s k
theorem m_bn1_rS {x : Nat} {s v k : Int} {R ot eO : Int64} {h : cx_Q} (a : rS h x) : rS (m_bn1 h x s v k R ot eO) x := by
  unfold m_bn1
  exact rS.sI (rS.sI (rS.sJ (rS.sI (rS.sI (rS.sI (rS.sJ (rS.sJ a)))))))
theorem m_bn1_dI {x : Nat} {s v k D : Int} {R ot eO : Int64} {h : cx_Q} (a : dI x h D) : dI x (m_bn1 h x s v k R ot eO) D := by
  unfold m_bn1
  exact dI.sI (dI.sI (dI.sJ (dI.sI (dI.sI (dI.sI (dI.sJ (dI.sJ a)) (by decide)) (by decide)) (by decide))) (by decide)) (by decide)
theorem bn_c {Y : cx_Y} (hY : cY Y) {K : Option cx_V → cx_Q → Prop} {gm g : cx_Q} {x : Nat} {s u v k ta tb tc td N O Dd : Int} {ot eO A B C D : Int64} {o4 o7 o8 o11 o20 : Option cx_V} (hG : rS gm x) (hE : eT x gm g) (hT : TI x g N O) (hN : N ≤ 16890) (hO : O ≤ 1980) (hs : 0 ≤ s ∧ s < 144) (hu : 0 ≤ u ∧ u < 6) (hv : 0 ≤ v ∧ v < 6) (hd : dI x gm Dd) (hD : Dd ≤ 900000) (hta : 0 ≤ ta ∧ ta ≤ 16999) (htb : 0 ≤ tb ∧ tb ≤ 16999) (htc : 0 ≤ tc ∧ tc ≤ 16999) (htd : 0 ≤ td ∧ td ≤ 16999)
    (hK : ∀ h', eT x (m_turnS (m_turn3 (m_draw (m_bn1 gm x s v k (f_sum A B C D) ot eO) x u) x s) x s) h' → TI x h' (N + 5) (O + 1) → K (some (.inl 1)) h') : cw Y mi_X11_beginNow K 218 [some (.inr (.inr (some x))), some (.inl u), some (.inl v), some (.inl k), o4, some (.inr (.inl ot)), none, o7, o8, some (.inr (.inl eO)), none, o11, some (.inr (.inl A)), none, some (.inr (.inl B)), none, some (.inr (.inl C)), none, some (.inr (.inl D)), none, o20, some (.inl ta), some (.inl tb), some (.inl tc), some (.inl td), some (.inl s)] [] g 0 0 := by
  have hS1 := hE.rS hG
  refine bx_X11_beginNow_218 hY (pf1_ok hY) ?_
  simp only [wp_iconst, wp_bipush, wp_sipush, wp_ldc, wp_ldc2_w, wp_lconst0, wp_lconst1, wp_aconst_null, wp_iload_0, wp_istore_0, wp_iload_1, wp_istore_1, wp_iload_2, wp_istore_2, wp_iload_3, wp_istore_3, wp_iload, wp_istore, wp_lload_0, wp_lstore_0, wp_lload_1, wp_lstore_1, wp_lload_2, wp_lstore_2, wp_lload_3, wp_lstore_3, wp_lload, wp_lstore, wp_aload_0, wp_astore_0, wp_aload_1, wp_astore_1, wp_aload_2, wp_astore_2, wp_aload_3, wp_astore_3, wp_aload, wp_astore, wp_iinc, wp_iadd, wp_isub, wp_imul, wp_iand, wp_ior, wp_ixor, wp_ishl, wp_ishr, wp_iushr, wp_irem, wp_ladd, wp_lsub, wp_lmul, wp_land, wp_lor, wp_lxor, wp_lshl, wp_lshr, wp_lushr, wp_lrem, wp_lcmp, wp_i2l, wp_l2i, wp_dupI, wp_dupA, wp_dup2J, wp_dup2IA, wp_popI, wp_popA, wp_pop2, wp_goto, wp_if_eq, wp_icmp_eq, wp_if_ne, wp_icmp_ne, wp_if_lt, wp_icmp_lt, wp_if_ge, wp_icmp_ge, wp_if_gt, wp_icmp_gt, wp_if_le, wp_icmp_le, wp_ifnull, wp_ifnonnull, wp_acmp_eq, wp_acmp_ne, wp_tableswitch, wp_get0, wp_put0, wp_get1, wp_put1, wp_get2, wp_put2, wp_get3, wp_put3, wp_new, wp_newarray, wp_anewarray, wp_alen, wp_iaload, wp_laload, wp_baload, wp_aaload, wp_iastore, wp_lastore, wp_bastore, wp_aastore, wp_return, wp_ireturnI, wp_ireturnZ, wp_lreturn, wp_areturnO, wp_areturnA, wp_max, wp_min, wp_obj, wp_virt, wp_nil, ld_I0, ld_Is, ld_J0, ld_Js, ld_A0, ld_As, ha_0, ha_s, cx_put1, cx_put2, cx_dl, cx_tgt, true_and, and_true, Nat.reduceAdd, Nat.reduceSub, Int.reduceAdd, Int.reduceNeg, Int.reduceToNat, Int.reduceSub, Int.cast_ofNat_Int, List.take_succ_cons, List.take_zero, List.drop_succ_cons, List.drop_zero, List.take_nil, List.drop_nil, Option.toList_some, Option.toList_none, List.cons_append, List.nil_append, wp_spec, ne_eq, Nat.reduceEqDiff, not_false_eq_true, true_or, or_true, wf_X11_mix, wf_X11_key, wf_X11_times, wf_X11_timesQ, wf_X11_power, wf_X11_common, wf_X11_modQ, wf_X11_asSecret, wf_X11_sumOf, cx_sz, cx_c2, cond_true, cond_false, Nat.reduceLeDiff, rA_sRoot hS1, rs_sRoot hS1, rz_sRoot hS1, ra_136, rA_tRoot hS1, rs_tRoot hS1, rz_tRoot hS1, ra_153, (hS1).1, mm_sI, mm_sJ, mm_sA, mm_IJ, mm_IA, mm_JI, mm_JA, mm_AI, mm_AJ, mm_ssI, mm_ssJ, mm_ssA, mm_zI, mm_zJ, mm_zA, mm_nI, mm_nJ, mm_nA, Nat.left_eq_add, Nat.add_eq_left, Nat.add_left_cancel_iff, Nat.reduceEqDiff, Int.reduceEq, false_and, and_false, if_false, if_true, and_self, true_and, true_or, or_true, false_or, or_false]
  (repeat' (with_reducible (first | refine And.intro ?_ ?_ | intro _)))
  all_goals (try omega)
  have hT1 : TI x (cq_sJ g (x + 31) s (f_sum A B C D)) N O := TI.sJ hT
  refine cl_X11_term (Nat.le_of_ble_eq_true rfl) hS1.1 (Nat.le_refl _) (Nat.le_refl _) (c_X11_term hY (rS.sJ hS1) hT1 (by omega) hta htb htc htd ?_)
  intro t g1 a1 a2 hE1 hT2
  have hS2 := hE1.rS (rS.sJ hS1)
  have hE2 : eT x (cq_sJ gm (x + 31) s (f_sum A B C D)) g1 := (eT.sJ hE).trans hE1
  have e16 : cq_I g1 (x + 16) = cq_I gm (x + 16) := by
    rw [hE2.fI (o := 16) (by decide) (by decide), mm_IJ]
  refine bx_X11_beginNow_255 hY (pf1_ok hY) ?_
  simp only [wp_iconst, wp_bipush, wp_sipush, wp_ldc, wp_ldc2_w, wp_lconst0, wp_lconst1, wp_aconst_null, wp_iload_0, wp_istore_0, wp_iload_1, wp_istore_1, wp_iload_2, wp_istore_2, wp_iload_3, wp_istore_3, wp_iload, wp_istore, wp_lload_0, wp_lstore_0, wp_lload_1, wp_lstore_1, wp_lload_2, wp_lstore_2, wp_lload_3, wp_lstore_3, wp_lload, wp_lstore, wp_aload_0, wp_astore_0, wp_aload_1, wp_astore_1, wp_aload_2, wp_astore_2, wp_aload_3, wp_astore_3, wp_aload, wp_astore, wp_iinc, wp_iadd, wp_isub, wp_imul, wp_iand, wp_ior, wp_ixor, wp_ishl, wp_ishr, wp_iushr, wp_irem, wp_ladd, wp_lsub, wp_lmul, wp_land, wp_lor, wp_lxor, wp_lshl, wp_lshr, wp_lushr, wp_lrem, wp_lcmp, wp_i2l, wp_l2i, wp_dupI, wp_dupA, wp_dup2J, wp_dup2IA, wp_popI, wp_popA, wp_pop2, wp_goto, wp_if_eq, wp_icmp_eq, wp_if_ne, wp_icmp_ne, wp_if_lt, wp_icmp_lt, wp_if_ge, wp_icmp_ge, wp_if_gt, wp_icmp_gt, wp_if_le, wp_icmp_le, wp_ifnull, wp_ifnonnull, wp_acmp_eq, wp_acmp_ne, wp_tableswitch, wp_get0, wp_put0, wp_get1, wp_put1, wp_get2, wp_put2, wp_get3, wp_put3, wp_new, wp_newarray, wp_anewarray, wp_alen, wp_iaload, wp_laload, wp_baload, wp_aaload, wp_iastore, wp_lastore, wp_bastore, wp_aastore, wp_return, wp_ireturnI, wp_ireturnZ, wp_lreturn, wp_areturnO, wp_areturnA, wp_max, wp_min, wp_obj, wp_virt, wp_nil, ld_I0, ld_Is, ld_J0, ld_Js, ld_A0, ld_As, ha_0, ha_s, cx_put1, cx_put2, cx_dl, cx_tgt, true_and, and_true, Nat.reduceAdd, Nat.reduceSub, Int.reduceAdd, Int.reduceNeg, Int.reduceToNat, Int.reduceSub, Int.cast_ofNat_Int, List.take_succ_cons, List.take_zero, List.drop_succ_cons, List.drop_zero, List.take_nil, List.drop_nil, Option.toList_some, Option.toList_none, List.cons_append, List.nil_append, wp_spec, ne_eq, Nat.reduceEqDiff, not_false_eq_true, true_or, or_true, rA_tRoot hS2, rs_tRoot hS2, rz_tRoot hS2, ra_153, rA_tFirst hS2, rs_tFirst hS2, rz_tFirst hS2, ra_154, rA_sOther hS2, rs_sOther hS2, rz_sOther hS2, ra_143, rA_hasOther hS2, rs_hasOther hS2, rz_hasOther hS2, ra_144, rA_goesWith hS2, rs_goesWith hS2, rz_goesWith hS2, ra_148, rA_isBegun hS2, rs_isBegun hS2, rz_isBegun hS2, ra_149, rA_sE hS2, rs_sE hS2, rz_sE hS2, ra_150, rA_sLent hS2, rs_sLent hS2, rz_sLent hS2, ra_151, rA_lents hS2, rs_lents hS2, rz_lents hS2, ra_121, rA_sOnce hS2, rs_sOnce hS2, rz_sOnce hS2, ra_152, (hS2).1, e16, mm_sI, mm_sJ, mm_sA, mm_IJ, mm_IA, mm_JI, mm_JA, mm_AI, mm_AJ, mm_ssI, mm_ssJ, mm_ssA, mm_zI, mm_zJ, mm_zA, mm_nI, mm_nJ, mm_nA, Nat.left_eq_add, Nat.add_eq_left, Nat.add_left_cancel_iff, Nat.reduceEqDiff, Int.reduceEq, false_and, and_false, if_false, if_true, and_self, true_and, true_or, or_true, false_or, or_false]
  (repeat' (with_reducible (first | refine And.intro ?_ ?_ | intro _)))
  all_goals (try omega)
  have hE3 : eT x (m_bn1 gm x s v k (f_sum A B C D) ot eO) (cq_sI (cq_sI (cq_sJ (cq_sI (cq_sI (cq_sI (cq_sJ (cq_sI (cq_sI g1 (x + 48) s t) (x + 49) s t) (x + 38) s ot) (x + 39) s 1) (x + 43) s 1) (x + 44) s 1) (x + 45) s eO) (x + 46) s (cq_I gm (x + 16) v)) (x + 47) s k) := by
    unfold m_bn1
    repeat' (first | with_reducible exact eT.refl _ _ | with_reducible assumption | (with_reducible refine eT.tI ?_ ?_; rotate_left; first | exact isT_a (by decide) | exact isT_f (by decide)) | (with_reducible refine eT.tJ ?_ ?_; rotate_left; first | exact isT_a (by decide) | exact isT_f (by decide)) | with_reducible refine eT.sI ?_ | with_reducible refine eT.sJ ?_)
  have hT3 : TI x (cq_sI (cq_sI (cq_sJ (cq_sI (cq_sI (cq_sI (cq_sJ (cq_sI (cq_sI g1 (x + 48) s t) (x + 49) s t) (x + 38) s ot) (x + 39) s 1) (x + 43) s 1) (x + 44) s 1) (x + 45) s eO) (x + 46) s (cq_I gm (x + 16) v)) (x + 47) s k) (N + 1) O := by
    repeat' (first | with_reducible assumption | with_reducible refine TI.sJ ?_ | (with_reducible refine TI.s2 ?_ ?_ ?_; rotate_left; omega; omega) | (with_reducible refine TI.s10 ?_ ?_ ?_; rotate_left; omega; omega) | (with_reducible refine TI.s33 ?_ ?_ ?_; rotate_left; omega; omega) | (with_reducible refine TI.sF ?_ ?_ ?_ ?_; rotate_left; decide; decide; decide) | (with_reducible refine TI.sT ?_ ?_ ?_; rotate_left; decide; first | exact fun q => absurd q (by decide) | exact fun _ => ⟨by omega, by omega⟩))
  have hd3 := (m_bn1_dI (s := s) (v := v) (k := k) (R := f_sum A B C D) (ot := ot) (eO := eO) hd).eT hE3 u
  have hS3 : rS (cq_sI (cq_sI (cq_sJ (cq_sI (cq_sI (cq_sI (cq_sJ (cq_sI (cq_sI g1 (x + 48) s t) (x + 49) s t) (x + 38) s ot) (x + 39) s 1) (x + 43) s 1) (x + 44) s 1) (x + 45) s eO) (x + 46) s (cq_I gm (x + 16) v)) (x + 47) s k) x := hE3.rS (m_bn1_rS hG)
  generalize (cq_sI (cq_sI (cq_sJ (cq_sI (cq_sI (cq_sI (cq_sJ (cq_sI (cq_sI g1 (x + 48) s t) (x + 49) s t) (x + 38) s ot) (x + 39) s 1) (x + 43) s 1) (x + 44) s 1) (x + 45) s eO) (x + 46) s (cq_I gm (x + 16) v)) (x + 47) s k) = g2 at hE3 hT3 hd3 hS3 ⊢
  refine cl_X11_drawTerm (Nat.le_of_ble_eq_true rfl) hS3.1 (Nat.le_refl _) (Nat.le_refl _) (c_X11_drawTerm hY hS3 hT3 (by omega) (by omega) hu (by omega) ?_)
  intro g3 hE4 hT4
  have q1 : N + 1 + 1 = N + 2 := by omega
  rw [q1] at hT4
  refine bn_d hY (rS_draw (m_bn1_rS hG)) ((eT_draw hE3).trans hE4) hT4 (by omega) (by omega) hs ?_
  intro h' w1 w2
  have q2 : N + 2 + 3 = N + 5 := by omega
  rw [q2] at w2
  exact hK h' w1 w2
def m_bn2 (h : cx_Q) (x : Nat) (u v k : Int) (R ot eO : Int64) : cx_Q := m_turnS (m_turn3 (m_draw (m_bn1 (m_clear (m_newS h x (6 * u + v)) x (m_slotN h x (6 * u + v))) x (m_slotN h x (6 * u + v)) v k R ot eO) x u) x (m_slotN h x (6 * u + v))) x (m_slotN h x (6 * u + v))
theorem bn_b {Y : cx_Y} (hY : cY Y) {K : Option cx_V → cx_Q → Prop} {gm g : cx_Q} {x : Nat} {u v k ta tb tc td N O Dd : Int} {ot eO A B C D : Int64} {o4 o7 o8 o11 o20 : Option cx_V} (hG : rS gm x) (hE : eT x gm g) (hT : TI x g N O) (hN : N ≤ 16890) (hO : O ≤ 1980) (hu : 0 ≤ u ∧ u < 6) (hv : 0 ≤ v ∧ v < 6) (hr : ∀ j, 0 ≤ cq_I gm (x + 30) j ∧ cq_I gm (x + 30) j ≤ 4) (hor : ∀ j, 0 ≤ cq_I gm (x + 29) j ∧ cq_I gm (x + 29) j ≤ 143) (hd : dI x gm Dd) (hD : Dd ≤ 900000) (hta : 0 ≤ ta ∧ ta ≤ 16999) (htb : 0 ≤ tb ∧ tb ≤ 16999) (htc : 0 ≤ tc ∧ tc ≤ 16999) (htd : 0 ≤ td ∧ td ≤ 16999)
    (hK : ∀ h', eT x (m_bn2 gm x u v k (f_sum A B C D) ot eO) h' → TI x h' (N + 5) (O + 1) → K (some (.inl 1)) h') : cw Y mi_X11_beginNow K 202 [some (.inr (.inr (some x))), some (.inl u), some (.inl v), some (.inl k), o4, some (.inr (.inl ot)), none, o7, o8, some (.inr (.inl eO)), none, o11, some (.inr (.inl A)), none, some (.inr (.inl B)), none, some (.inr (.inl C)), none, some (.inr (.inl D)), none, o20, some (.inl ta), some (.inl tb), some (.inl tc), none, none] [.inl td] g 0 0 := by
  have hS1 := hE.rS hG
  have hsl := m_slotN_rg (h := gm) (x := x) (r := 6 * u + v) (by omega) (hr _) hor
  refine bx_X11_beginNow_202 hY (pf1_ok hY) ?_
  simp only [wp_iconst, wp_bipush, wp_sipush, wp_ldc, wp_ldc2_w, wp_lconst0, wp_lconst1, wp_aconst_null, wp_iload_0, wp_istore_0, wp_iload_1, wp_istore_1, wp_iload_2, wp_istore_2, wp_iload_3, wp_istore_3, wp_iload, wp_istore, wp_lload_0, wp_lstore_0, wp_lload_1, wp_lstore_1, wp_lload_2, wp_lstore_2, wp_lload_3, wp_lstore_3, wp_lload, wp_lstore, wp_aload_0, wp_astore_0, wp_aload_1, wp_astore_1, wp_aload_2, wp_astore_2, wp_aload_3, wp_astore_3, wp_aload, wp_astore, wp_iinc, wp_iadd, wp_isub, wp_imul, wp_iand, wp_ior, wp_ixor, wp_ishl, wp_ishr, wp_iushr, wp_irem, wp_ladd, wp_lsub, wp_lmul, wp_land, wp_lor, wp_lxor, wp_lshl, wp_lshr, wp_lushr, wp_lrem, wp_lcmp, wp_i2l, wp_l2i, wp_dupI, wp_dupA, wp_dup2J, wp_dup2IA, wp_popI, wp_popA, wp_pop2, wp_goto, wp_if_eq, wp_icmp_eq, wp_if_ne, wp_icmp_ne, wp_if_lt, wp_icmp_lt, wp_if_ge, wp_icmp_ge, wp_if_gt, wp_icmp_gt, wp_if_le, wp_icmp_le, wp_ifnull, wp_ifnonnull, wp_acmp_eq, wp_acmp_ne, wp_tableswitch, wp_get0, wp_put0, wp_get1, wp_put1, wp_get2, wp_put2, wp_get3, wp_put3, wp_new, wp_newarray, wp_anewarray, wp_alen, wp_iaload, wp_laload, wp_baload, wp_aaload, wp_iastore, wp_lastore, wp_bastore, wp_aastore, wp_return, wp_ireturnI, wp_ireturnZ, wp_lreturn, wp_areturnO, wp_areturnA, wp_max, wp_min, wp_obj, wp_virt, wp_nil, ld_I0, ld_Is, ld_J0, ld_Js, ld_A0, ld_As, ha_0, ha_s, cx_put1, cx_put2, cx_dl, cx_tgt, true_and, and_true, Nat.reduceAdd, Nat.reduceSub, Int.reduceAdd, Int.reduceNeg, Int.reduceToNat, Int.reduceSub, Int.cast_ofNat_Int, List.take_succ_cons, List.take_zero, List.drop_succ_cons, List.drop_zero, List.take_nil, List.drop_nil, Option.toList_some, Option.toList_none, List.cons_append, List.nil_append, wp_spec, ne_eq, Nat.reduceEqDiff, not_false_eq_true, true_or, or_true]
  refine cl_X11_newSession (Nat.le_of_ble_eq_true rfl) hS1.1 (Nat.le_refl _) (Nat.le_refl _) (c_X11_newSession hY hS1 hu hv (by rw [hE.fI (o := 30) (by decide) (by decide)]; exact hr _) ?_)
  rw [eT_slotN hE]
  have hS2 : rS (m_newS g x (6 * u + v)) x := m_newS_rS hS1
  refine bx_X11_beginNow_210 hY (pf1_ok hY) ?_
  simp only [wp_iconst, wp_bipush, wp_sipush, wp_ldc, wp_ldc2_w, wp_lconst0, wp_lconst1, wp_aconst_null, wp_iload_0, wp_istore_0, wp_iload_1, wp_istore_1, wp_iload_2, wp_istore_2, wp_iload_3, wp_istore_3, wp_iload, wp_istore, wp_lload_0, wp_lstore_0, wp_lload_1, wp_lstore_1, wp_lload_2, wp_lstore_2, wp_lload_3, wp_lstore_3, wp_lload, wp_lstore, wp_aload_0, wp_astore_0, wp_aload_1, wp_astore_1, wp_aload_2, wp_astore_2, wp_aload_3, wp_astore_3, wp_aload, wp_astore, wp_iinc, wp_iadd, wp_isub, wp_imul, wp_iand, wp_ior, wp_ixor, wp_ishl, wp_ishr, wp_iushr, wp_irem, wp_ladd, wp_lsub, wp_lmul, wp_land, wp_lor, wp_lxor, wp_lshl, wp_lshr, wp_lushr, wp_lrem, wp_lcmp, wp_i2l, wp_l2i, wp_dupI, wp_dupA, wp_dup2J, wp_dup2IA, wp_popI, wp_popA, wp_pop2, wp_goto, wp_if_eq, wp_icmp_eq, wp_if_ne, wp_icmp_ne, wp_if_lt, wp_icmp_lt, wp_if_ge, wp_icmp_ge, wp_if_gt, wp_icmp_gt, wp_if_le, wp_icmp_le, wp_ifnull, wp_ifnonnull, wp_acmp_eq, wp_acmp_ne, wp_tableswitch, wp_get0, wp_put0, wp_get1, wp_put1, wp_get2, wp_put2, wp_get3, wp_put3, wp_new, wp_newarray, wp_anewarray, wp_alen, wp_iaload, wp_laload, wp_baload, wp_aaload, wp_iastore, wp_lastore, wp_bastore, wp_aastore, wp_return, wp_ireturnI, wp_ireturnZ, wp_lreturn, wp_areturnO, wp_areturnA, wp_max, wp_min, wp_obj, wp_virt, wp_nil, ld_I0, ld_Is, ld_J0, ld_Js, ld_A0, ld_As, ha_0, ha_s, cx_put1, cx_put2, cx_dl, cx_tgt, true_and, and_true, Nat.reduceAdd, Nat.reduceSub, Int.reduceAdd, Int.reduceNeg, Int.reduceToNat, Int.reduceSub, Int.cast_ofNat_Int, List.take_succ_cons, List.take_zero, List.drop_succ_cons, List.drop_zero, List.take_nil, List.drop_nil, Option.toList_some, Option.toList_none, List.cons_append, List.nil_append, wp_spec, ne_eq, Nat.reduceEqDiff, not_false_eq_true, true_or, or_true]
  refine cl_X11_clear (Nat.le_of_ble_eq_true rfl) hS2.1 (Nat.le_refl _) (Nat.le_refl _) (c_X11_clear hY hS2 (by omega) ?_)
  unfold m_bn2 at hK
  exact bn_c hY (m_clear_rS (m_newS_rS hG)) (eT_clear (eT_newS hE)) (m_clear_TI (m_newS_TI hT)) hN hO (by omega) hu hv (m_clear_dI (m_newS_dI hd)) hD hta htb htc htd hK
