/-! a letter is opened in a SESSION: no KEPT key -/
theorem m_keep_41 {x : Nat} {s : Int} : ∀ {n : Nat} {h : cx_Q}, cq_I (m_keep x s n h) (x + 41) s = cq_I h (x + 41) s + n
  | 0, h => by rw [m_keep_0]; omega
  | n + 1, h => by rw [m_keep_s, m_keep_41 (n := n), m_keep1_41]; omega
theorem m_keep_53 {x : Nat} {s : Int} : ∀ {n : Nat} {h : cx_Q}, cq_I (m_keep x s n h) (x + 53) s = cq_I h (x + 53) s + n
  | 0, h => by rw [m_keep_0]; omega
  | n + 1, h => by rw [m_keep_s, m_keep_53 (n := n), m_keep1_53]; omega
theorem m_step_x {h : cx_Q} {x : Nat} {s j : Int} : cq_I (m_step h x s) x j = cq_I h x j := by
  unfold m_step
  simp only [mm_sI, mm_sJ, mm_sA, mm_IJ, mm_IA, mm_JI, mm_JA, mm_AI, mm_AJ, mm_ssI, mm_ssJ, mm_ssA, mm_zI, mm_zJ, mm_zA, mm_nI, mm_nJ, mm_nA, Nat.left_eq_add, Nat.add_eq_left, Nat.add_left_cancel_iff, Nat.reduceEqDiff, Int.reduceEq, false_and, and_false, if_false, if_true, and_self, true_and, true_or, or_true, false_or, or_false]
theorem rS_step {h : cx_Q} {x : Nat} {s : Int} (H : rS h x) : rS (m_step h x s) x := H
theorem dI_keep {x : Nat} {s D : Int} {n : Nat} {h : cx_Q} (H : dI x h D) : dI x (m_keep x s n h) D := by
  unfold m_keep
  refine itd_inv (P := fun g => dI x g D) (fun i g q => ?_) _ _ H
  show dI x (m_keep1 g x s) D
  unfold m_keep1 m_step m_keepB m_keepA
  exact dI.sI (dI.sJ (dI.sI (dI.sJ (dI.sI (dI.sJ q) (by decide))) (by decide))) (by decide)
theorem eT_turn {x : Nat} {h h' : cx_Q} {u s : Int} {X : Int64} (a : eT x h h') : eT x (m_turn h x u s X) (m_turn h' x u s X) := by
  have a1 : eT x (m_turn1 h x s) (m_turn1 h' x s) := by
    unfold m_turn1
    rw [a.fI (o := 40) (by decide) (by decide), a.xJ (j := 79) (by decide) (by decide) (by decide)]
    exact eT.sI (eT.sJ (eT.sI (eT.sI (eT.sI a))))
  have a2 : eT x (m_turn2 (m_turn1 h x s) x s X) (m_turn2 (m_turn1 h' x s) x s X) := by
    unfold m_turn2
    rw [a1.fJ (o := 31) (by decide) (by decide)]
    exact eT.sJ (eT.sI (eT.sJ a1))
  have a3 := eT_draw (u := u) a2
  have a4 : eT x (m_turn3 (m_draw (m_turn2 (m_turn1 h x s) x s X) x u) x s) (m_turn3 (m_draw (m_turn2 (m_turn1 h' x s) x s X) x u) x s) := by
    unfold m_turn3
    rw [a3.xJ (j := 31) (by decide) (by decide) (by decide), a3.xJ (j := 32) (by decide) (by decide) (by decide)]
    exact eT.sJ (eT.sJ a3)
  unfold m_turn
  exact eT_turnS a4
theorem rS_turn {x : Nat} {h : cx_Q} {u s : Int} {X : Int64} (H : rS h x) : rS (m_turn h x u s X) x := by
  unfold m_turn
  refine rS_turnS ?_
  unfold m_turn3
  refine rS.sJ (rS.sJ (rS_draw ?_))
  unfold m_turn2 m_turn1
  exact rS.sJ (rS.sI (rS.sJ (rS.sI (rS.sJ (rS.sI (rS.sI (rS.sI H)))))))
theorem m_turn_I {x : Nat} {h : cx_Q} {u s : Int} {X : Int64} {i : Nat} {j : Int} : cq_I (m_turn h x u s X) i j = if i = x + 33 ∧ j = s then 1 else if i = x + 12 ∧ j = u then cq_I h (x + 12) u + 1 else if i = x + 35 ∧ j = s then 1 else cq_I (m_turn1 h x s) i j := by
  unfold m_turn m_turnS m_turn3
  simp only [mm_sI, mm_sJ, mm_sA, mm_IJ, mm_IA, mm_JI, mm_JA, mm_AI, mm_AJ, mm_ssI, mm_ssJ, mm_ssA, mm_zI, mm_zJ, mm_zA, mm_nI, mm_nJ, mm_nA, m_draw_I]
  unfold m_turn2 m_turn1
  simp only [mm_sI, mm_sJ, mm_sA, mm_IJ, mm_IA, mm_JI, mm_JA, mm_AI, mm_AJ, mm_ssI, mm_ssJ, mm_ssA, mm_zI, mm_zJ, mm_zA, mm_nI, mm_nJ, mm_nA, Nat.left_eq_add, Nat.add_eq_left, Nat.add_left_cancel_iff, Nat.reduceEqDiff, Int.reduceEq, false_and, and_false, if_false, if_true, and_self, true_and, true_or, or_true, false_or, or_false]
theorem m_turn_x {x : Nat} {h : cx_Q} {u s : Int} {X : Int64} {j : Int} : cq_I (m_turn h x u s X) x j = cq_I h x j := by
  rw [m_turn_I]
  unfold m_turn1
  simp only [mm_sI, mm_sJ, mm_sA, mm_IJ, mm_IA, mm_JI, mm_JA, mm_AI, mm_AJ, mm_ssI, mm_ssJ, mm_ssA, mm_zI, mm_zJ, mm_zA, mm_nI, mm_nJ, mm_nA, Nat.left_eq_add, Nat.add_eq_left, Nat.add_left_cancel_iff, Nat.reduceEqDiff, Int.reduceEq, false_and, and_false, if_false, if_true, and_self, true_and, true_or, or_true, false_or, or_false]
theorem m_turn_41 {x : Nat} {h : cx_Q} {u s : Int} {X : Int64} : cq_I (m_turn h x u s X) (x + 41) s = 0 := by
  rw [m_turn_I]
  unfold m_turn1
  simp only [mm_sI, mm_sJ, mm_sA, mm_IJ, mm_IA, mm_JI, mm_JA, mm_AI, mm_AJ, mm_ssI, mm_ssJ, mm_ssA, mm_zI, mm_zJ, mm_zA, mm_nI, mm_nJ, mm_nA, Nat.left_eq_add, Nat.add_eq_left, Nat.add_left_cancel_iff, Nat.reduceEqDiff, Int.reduceEq, false_and, and_false, if_false, if_true, and_self, true_and, true_or, or_true, false_or, or_false]
theorem m_turn_53 {x : Nat} {h : cx_Q} {u s j : Int} {X : Int64} : cq_I (m_turn h x u s X) (x + 53) j = cq_I h (x + 53) j := by
  rw [m_turn_I]
  unfold m_turn1
  simp only [mm_sI, mm_sJ, mm_sA, mm_IJ, mm_IA, mm_JI, mm_JA, mm_AI, mm_AJ, mm_ssI, mm_ssJ, mm_ssA, mm_zI, mm_zJ, mm_zA, mm_nI, mm_nJ, mm_nA, Nat.left_eq_add, Nat.add_eq_left, Nat.add_left_cancel_iff, Nat.reduceEqDiff, Int.reduceEq, false_and, and_false, if_false, if_true, and_self, true_and, true_or, or_true, false_or, or_false]
/-- the end of an opening: keys KEPT up to the letter's place, one step, the TEXT -/
def m_oEnd (g : cx_Q) (x : Nat) (s : Int) (k : Int64) : cx_Q := cq_sI (m_readText (m_step (m_keep x s (cq_I g x 81 - cq_I g (x + 41) s).toNat g) x s) x k) (x + 43) s 0
theorem open_e {Y : cx_Y} (hY : cY Y) {K : Option cx_V → cx_Q → Prop} {gm g : cx_Q} {x : Nat} {l u s N O : Int} {k : Int64} {o4 o5 o6 o7 o8 o9 o10 o11 o14 : Option cx_V} (hG : rS gm x) (hE : eT x gm g) (hT : TI x g N O) (hN : N ≤ 16850) (hR : rdI x gm l) (hs : 0 ≤ s ∧ s < 144)
    (hr : 0 ≤ cq_I gm (x + 41) s ∧ cq_I gm (x + 41) s ≤ 70000) (hk : 0 ≤ cq_I gm (x + 53) s) (hkp : cq_I gm (x + 53) s ≤ 20) (hp : cq_I gm (x + 53) s + (cq_I gm x 81 - cq_I gm (x + 41) s) ≤ 20)
    (hK : ∀ h', eT x (m_oEnd gm x s k) h' → TI x h' (N + 42) O → K (some (.inl 0)) h') :
    cw Y mi_X11_open K 354 [some (.inr (.inr (some x))), some (.inl l), some (.inl u), some (.inl s), o4, o5, o6, o7, o8, o9, o10, o11, some (.inr (.inl k)), none, o14] [] g 0 0 := by
  obtain ⟨r1, r2, r3, r4, r5, r6, r7, r8⟩ := hR
  have hSg := hE.rS hG
  have e41 : cq_I g (x + 41) = cq_I gm (x + 41) := hE.fI (o := 41) (by decide) (by decide)
  have e53 : cq_I g (x + 53) = cq_I gm (x + 53) := hE.fI (o := 53) (by decide) (by decide)
  refine bx_X11_open_354 hY (pf1_ok hY) ?_
  simp only [wp_iconst, wp_bipush, wp_sipush, wp_ldc, wp_ldc2_w, wp_lconst0, wp_lconst1, wp_aconst_null, wp_iload_0, wp_istore_0, wp_iload_1, wp_istore_1, wp_iload_2, wp_istore_2, wp_iload_3, wp_istore_3, wp_iload, wp_istore, wp_lload_0, wp_lstore_0, wp_lload_1, wp_lstore_1, wp_lload_2, wp_lstore_2, wp_lload_3, wp_lstore_3, wp_lload, wp_lstore, wp_aload_0, wp_astore_0, wp_aload_1, wp_astore_1, wp_aload_2, wp_astore_2, wp_aload_3, wp_astore_3, wp_aload, wp_astore, wp_iinc, wp_iadd, wp_isub, wp_imul, wp_iand, wp_ior, wp_ixor, wp_ishl, wp_ishr, wp_iushr, wp_irem, wp_ladd, wp_lsub, wp_lmul, wp_land, wp_lor, wp_lxor, wp_lshl, wp_lshr, wp_lushr, wp_lrem, wp_lcmp, wp_i2l, wp_l2i, wp_dupI, wp_dupA, wp_dup2J, wp_dup2IA, wp_popI, wp_popA, wp_pop2, wp_goto, wp_if_eq, wp_icmp_eq, wp_if_ne, wp_icmp_ne, wp_if_lt, wp_icmp_lt, wp_if_ge, wp_icmp_ge, wp_if_gt, wp_icmp_gt, wp_if_le, wp_icmp_le, wp_ifnull, wp_ifnonnull, wp_acmp_eq, wp_acmp_ne, wp_tableswitch, wp_get0, wp_put0, wp_get1, wp_put1, wp_get2, wp_put2, wp_get3, wp_put3, wp_new, wp_newarray, wp_anewarray, wp_alen, wp_iaload, wp_laload, wp_baload, wp_aaload, wp_iastore, wp_lastore, wp_bastore, wp_aastore, wp_return, wp_ireturnI, wp_ireturnZ, wp_lreturn, wp_areturnO, wp_areturnA, wp_max, wp_min, wp_obj, wp_virt, wp_nil, ld_I0, ld_Is, ld_J0, ld_Js, ld_A0, ld_As, ha_0, ha_s, cx_put1, cx_put2, cx_dl, cx_tgt, true_and, and_true, Nat.reduceAdd, Nat.reduceSub, Int.reduceAdd, Int.reduceNeg, Int.reduceToNat, Int.reduceSub, Int.cast_ofNat_Int, List.take_succ_cons, List.take_zero, List.drop_succ_cons, List.drop_zero, List.take_nil, List.drop_nil, Option.toList_some, Option.toList_none, List.cons_append, List.nil_append, wp_spec, ne_eq, Nat.reduceEqDiff, not_false_eq_true, true_or, or_true, hSg.1, eT.xI hE (j := 81) (by decide) (by decide) (by decide)]
  refine cl_X11_keepUpTo (Nat.le_of_ble_eq_true rfl) hSg.1 (Nat.le_refl _) (Nat.le_refl _) (c_X11_keepUpTo hY hSg hT (by omega) hs ?_ ?_ ?_ ?_ ?_)
  · rw [e41]; omega
  · rw [e53]; omega
  · rw [e53]; omega
  · rw [e53, e41]; omega
  rw [e41]
  intro g1 hE1 hT1
  have hM := (eT_keep (s := s) (n := (cq_I gm x 81 - cq_I gm (x + 41) s).toNat) hE).trans hE1
  have hSm : rS (m_keep x s (cq_I gm x 81 - cq_I gm (x + 41) s).toNat gm) x := rS_keep hG
  have hS1 := hM.rS hSm
  have k41 := m_keep_41 (x := x) (s := s) (n := (cq_I gm x 81 - cq_I gm (x + 41) s).toNat) (h := gm)
  have kx : ∀ j : Int, cq_I (m_keep x s (cq_I gm x 81 - cq_I gm (x + 41) s).toNat gm) x j = cq_I gm x j := fun j => m_keep_x
  have hfin := hK
  unfold m_oEnd at hfin
  generalize m_keep x s (cq_I gm x 81 - cq_I gm (x + 41) s).toNat gm = km at hM hSm k41 kx hfin
  have tt := hT1.2.2.2 51 (by decide) s
  refine bx_X11_open_363 hY (pf1_ok hY) ?_
  simp only [wp_iconst, wp_bipush, wp_sipush, wp_ldc, wp_ldc2_w, wp_lconst0, wp_lconst1, wp_aconst_null, wp_iload_0, wp_istore_0, wp_iload_1, wp_istore_1, wp_iload_2, wp_istore_2, wp_iload_3, wp_istore_3, wp_iload, wp_istore, wp_lload_0, wp_lstore_0, wp_lload_1, wp_lstore_1, wp_lload_2, wp_lstore_2, wp_lload_3, wp_lstore_3, wp_lload, wp_lstore, wp_aload_0, wp_astore_0, wp_aload_1, wp_astore_1, wp_aload_2, wp_astore_2, wp_aload_3, wp_astore_3, wp_aload, wp_astore, wp_iinc, wp_iadd, wp_isub, wp_imul, wp_iand, wp_ior, wp_ixor, wp_ishl, wp_ishr, wp_iushr, wp_irem, wp_ladd, wp_lsub, wp_lmul, wp_land, wp_lor, wp_lxor, wp_lshl, wp_lshr, wp_lushr, wp_lrem, wp_lcmp, wp_i2l, wp_l2i, wp_dupI, wp_dupA, wp_dup2J, wp_dup2IA, wp_popI, wp_popA, wp_pop2, wp_goto, wp_if_eq, wp_icmp_eq, wp_if_ne, wp_icmp_ne, wp_if_lt, wp_icmp_lt, wp_if_ge, wp_icmp_ge, wp_if_gt, wp_icmp_gt, wp_if_le, wp_icmp_le, wp_ifnull, wp_ifnonnull, wp_acmp_eq, wp_acmp_ne, wp_tableswitch, wp_get0, wp_put0, wp_get1, wp_put1, wp_get2, wp_put2, wp_get3, wp_put3, wp_new, wp_newarray, wp_anewarray, wp_alen, wp_iaload, wp_laload, wp_baload, wp_aaload, wp_iastore, wp_lastore, wp_bastore, wp_aastore, wp_return, wp_ireturnI, wp_ireturnZ, wp_lreturn, wp_areturnO, wp_areturnA, wp_max, wp_min, wp_obj, wp_virt, wp_nil, ld_I0, ld_Is, ld_J0, ld_Js, ld_A0, ld_As, ha_0, ha_s, cx_put1, cx_put2, cx_dl, cx_tgt, true_and, and_true, Nat.reduceAdd, Nat.reduceSub, Int.reduceAdd, Int.reduceNeg, Int.reduceToNat, Int.reduceSub, Int.cast_ofNat_Int, List.take_succ_cons, List.take_zero, List.drop_succ_cons, List.drop_zero, List.take_nil, List.drop_nil, Option.toList_some, Option.toList_none, List.cons_append, List.nil_append, wp_spec, ne_eq, Nat.reduceEqDiff, not_false_eq_true, true_or, or_true, rA_tRecv hS1, rs_tRecv hS1, rz_tRecv hS1, ra_156, (hS1).1]
  refine ⟨by omega, ?_⟩
  refine cl_X11_term (Nat.le_of_ble_eq_true rfl) hS1.1 (Nat.le_refl _) (Nat.le_refl _) (c_X11_term hY hS1 hT1 (by omega) tt (by omega) (by omega) (by omega) ?_)
  intro t g2 t1 t2 hE2 hT2
  have hM2 := hM.trans hE2
  have hS2 := hM2.rS hSm
  refine bx_X11_open_378 hY (pf1_ok hY) ?_
  simp only [wp_iconst, wp_bipush, wp_sipush, wp_ldc, wp_ldc2_w, wp_lconst0, wp_lconst1, wp_aconst_null, wp_iload_0, wp_istore_0, wp_iload_1, wp_istore_1, wp_iload_2, wp_istore_2, wp_iload_3, wp_istore_3, wp_iload, wp_istore, wp_lload_0, wp_lstore_0, wp_lload_1, wp_lstore_1, wp_lload_2, wp_lstore_2, wp_lload_3, wp_lstore_3, wp_lload, wp_lstore, wp_aload_0, wp_astore_0, wp_aload_1, wp_astore_1, wp_aload_2, wp_astore_2, wp_aload_3, wp_astore_3, wp_aload, wp_astore, wp_iinc, wp_iadd, wp_isub, wp_imul, wp_iand, wp_ior, wp_ixor, wp_ishl, wp_ishr, wp_iushr, wp_irem, wp_ladd, wp_lsub, wp_lmul, wp_land, wp_lor, wp_lxor, wp_lshl, wp_lshr, wp_lushr, wp_lrem, wp_lcmp, wp_i2l, wp_l2i, wp_dupI, wp_dupA, wp_dup2J, wp_dup2IA, wp_popI, wp_popA, wp_pop2, wp_goto, wp_if_eq, wp_icmp_eq, wp_if_ne, wp_icmp_ne, wp_if_lt, wp_icmp_lt, wp_if_ge, wp_icmp_ge, wp_if_gt, wp_icmp_gt, wp_if_le, wp_icmp_le, wp_ifnull, wp_ifnonnull, wp_acmp_eq, wp_acmp_ne, wp_tableswitch, wp_get0, wp_put0, wp_get1, wp_put1, wp_get2, wp_put2, wp_get3, wp_put3, wp_new, wp_newarray, wp_anewarray, wp_alen, wp_iaload, wp_laload, wp_baload, wp_aaload, wp_iastore, wp_lastore, wp_bastore, wp_aastore, wp_return, wp_ireturnI, wp_ireturnZ, wp_lreturn, wp_areturnO, wp_areturnA, wp_max, wp_min, wp_obj, wp_virt, wp_nil, ld_I0, ld_Is, ld_J0, ld_Js, ld_A0, ld_As, ha_0, ha_s, cx_put1, cx_put2, cx_dl, cx_tgt, true_and, and_true, Nat.reduceAdd, Nat.reduceSub, Int.reduceAdd, Int.reduceNeg, Int.reduceToNat, Int.reduceSub, Int.cast_ofNat_Int, List.take_succ_cons, List.take_zero, List.drop_succ_cons, List.drop_zero, List.take_nil, List.drop_nil, Option.toList_some, Option.toList_none, List.cons_append, List.nil_append, wp_spec, ne_eq, Nat.reduceEqDiff, not_false_eq_true, true_or, or_true]
  refine cl_X11_stepReceiving (Nat.le_of_ble_eq_true rfl) hS2.1 (Nat.le_refl _) (Nat.le_refl _) (c_X11_stepReceiving hY hS2 hT2 (by omega) hs ?_ ?_)
  · rw [hM2.fI (o := 41) (by decide) (by decide)]; omega
  intro g3 hE3 hT3
  have hM3 := (eT_step (s := s) hM2).trans hE3
  have hS3 := hM3.rS (rS_step hSm)
  have sx : ∀ j : Int, j ≠ 2 → j ≠ 10 → j ≠ 33 → cq_I g3 x j = cq_I gm x j := fun j q1 q2 q3 => by rw [hM3.xI q1 q2 q3, m_step_x, kx]
  have s77 := sx 77 (by decide) (by decide) (by decide)
  have s82 := sx 82 (by decide) (by decide) (by decide)
  have s83 := sx 83 (by decide) (by decide) (by decide)
  refine bx_X11_open_385 hY (pf1_ok hY) ?_
  simp only [wp_iconst, wp_bipush, wp_sipush, wp_ldc, wp_ldc2_w, wp_lconst0, wp_lconst1, wp_aconst_null, wp_iload_0, wp_istore_0, wp_iload_1, wp_istore_1, wp_iload_2, wp_istore_2, wp_iload_3, wp_istore_3, wp_iload, wp_istore, wp_lload_0, wp_lstore_0, wp_lload_1, wp_lstore_1, wp_lload_2, wp_lstore_2, wp_lload_3, wp_lstore_3, wp_lload, wp_lstore, wp_aload_0, wp_astore_0, wp_aload_1, wp_astore_1, wp_aload_2, wp_astore_2, wp_aload_3, wp_astore_3, wp_aload, wp_astore, wp_iinc, wp_iadd, wp_isub, wp_imul, wp_iand, wp_ior, wp_ixor, wp_ishl, wp_ishr, wp_iushr, wp_irem, wp_ladd, wp_lsub, wp_lmul, wp_land, wp_lor, wp_lxor, wp_lshl, wp_lshr, wp_lushr, wp_lrem, wp_lcmp, wp_i2l, wp_l2i, wp_dupI, wp_dupA, wp_dup2J, wp_dup2IA, wp_popI, wp_popA, wp_pop2, wp_goto, wp_if_eq, wp_icmp_eq, wp_if_ne, wp_icmp_ne, wp_if_lt, wp_icmp_lt, wp_if_ge, wp_icmp_ge, wp_if_gt, wp_icmp_gt, wp_if_le, wp_icmp_le, wp_ifnull, wp_ifnonnull, wp_acmp_eq, wp_acmp_ne, wp_tableswitch, wp_get0, wp_put0, wp_get1, wp_put1, wp_get2, wp_put2, wp_get3, wp_put3, wp_new, wp_newarray, wp_anewarray, wp_alen, wp_iaload, wp_laload, wp_baload, wp_aaload, wp_iastore, wp_lastore, wp_bastore, wp_aastore, wp_return, wp_ireturnI, wp_ireturnZ, wp_lreturn, wp_areturnO, wp_areturnA, wp_max, wp_min, wp_obj, wp_virt, wp_nil, ld_I0, ld_Is, ld_J0, ld_Js, ld_A0, ld_As, ha_0, ha_s, cx_put1, cx_put2, cx_dl, cx_tgt, true_and, and_true, Nat.reduceAdd, Nat.reduceSub, Int.reduceAdd, Int.reduceNeg, Int.reduceToNat, Int.reduceSub, Int.cast_ofNat_Int, List.take_succ_cons, List.take_zero, List.drop_succ_cons, List.drop_zero, List.take_nil, List.drop_nil, Option.toList_some, Option.toList_none, List.cons_append, List.nil_append, wp_spec, ne_eq, Nat.reduceEqDiff, not_false_eq_true, true_or, or_true]
  refine cl_X11_readText (Nat.le_of_ble_eq_true rfl) hS3.1 (Nat.le_refl _) (Nat.le_refl _) (c_X11_readText hY hS3 (by omega) (by omega) ?_)
  have hS4 : rS (m_readText g3 x k) x := rS_readText hS3
  have hT4 := TI_readText (k := k) hT3
  have hM4 := eT_readText (k := k) hM3
  generalize m_readText g3 x k = g4 at hS4 hT4 hM4
  refine bx_X11_open_391 hY (pf1_ok hY) ?_
  simp only [wp_iconst, wp_bipush, wp_sipush, wp_ldc, wp_ldc2_w, wp_lconst0, wp_lconst1, wp_aconst_null, wp_iload_0, wp_istore_0, wp_iload_1, wp_istore_1, wp_iload_2, wp_istore_2, wp_iload_3, wp_istore_3, wp_iload, wp_istore, wp_lload_0, wp_lstore_0, wp_lload_1, wp_lstore_1, wp_lload_2, wp_lstore_2, wp_lload_3, wp_lstore_3, wp_lload, wp_lstore, wp_aload_0, wp_astore_0, wp_aload_1, wp_astore_1, wp_aload_2, wp_astore_2, wp_aload_3, wp_astore_3, wp_aload, wp_astore, wp_iinc, wp_iadd, wp_isub, wp_imul, wp_iand, wp_ior, wp_ixor, wp_ishl, wp_ishr, wp_iushr, wp_irem, wp_ladd, wp_lsub, wp_lmul, wp_land, wp_lor, wp_lxor, wp_lshl, wp_lshr, wp_lushr, wp_lrem, wp_lcmp, wp_i2l, wp_l2i, wp_dupI, wp_dupA, wp_dup2J, wp_dup2IA, wp_popI, wp_popA, wp_pop2, wp_goto, wp_if_eq, wp_icmp_eq, wp_if_ne, wp_icmp_ne, wp_if_lt, wp_icmp_lt, wp_if_ge, wp_icmp_ge, wp_if_gt, wp_icmp_gt, wp_if_le, wp_icmp_le, wp_ifnull, wp_ifnonnull, wp_acmp_eq, wp_acmp_ne, wp_tableswitch, wp_get0, wp_put0, wp_get1, wp_put1, wp_get2, wp_put2, wp_get3, wp_put3, wp_new, wp_newarray, wp_anewarray, wp_alen, wp_iaload, wp_laload, wp_baload, wp_aaload, wp_iastore, wp_lastore, wp_bastore, wp_aastore, wp_return, wp_ireturnI, wp_ireturnZ, wp_lreturn, wp_areturnO, wp_areturnA, wp_max, wp_min, wp_obj, wp_virt, wp_nil, ld_I0, ld_Is, ld_J0, ld_Js, ld_A0, ld_As, ha_0, ha_s, cx_put1, cx_put2, cx_dl, cx_tgt, true_and, and_true, Nat.reduceAdd, Nat.reduceSub, Int.reduceAdd, Int.reduceNeg, Int.reduceToNat, Int.reduceSub, Int.cast_ofNat_Int, List.take_succ_cons, List.take_zero, List.drop_succ_cons, List.drop_zero, List.take_nil, List.drop_nil, Option.toList_some, Option.toList_none, List.cons_append, List.nil_append, wp_spec, ne_eq, Nat.reduceEqDiff, not_false_eq_true, true_or, or_true, rA_goesWith hS4, rs_goesWith hS4, rz_goesWith hS4, ra_148, (hS4).1]
  (repeat' (with_reducible (first | refine And.intro ?_ ?_ | intro _)))
  all_goals (try omega)
  have a1 : N + 40 + 1 + 1 = N + 42 := by omega
  rw [a1] at hT4
  refine hfin _ (eT.sI hM4) ?_
  repeat' (first | with_reducible assumption | with_reducible refine TI.sJ ?_ | (with_reducible refine TI.s2 ?_ ?_ ?_; rotate_left; omega; omega) | (with_reducible refine TI.s10 ?_ ?_ ?_; rotate_left; omega; omega) | (with_reducible refine TI.s33 ?_ ?_ ?_; rotate_left; omega; omega) | (with_reducible refine TI.sF ?_ ?_ ?_ ?_; rotate_left; decide; decide; decide) | (with_reducible refine TI.sT ?_ ?_ ?_; rotate_left; decide; first | exact fun q => absurd q (by decide) | exact fun _ => ⟨by omega, by omega⟩))
