/-! a SESSION is TURNED by a letter -/
theorem eT_turnS {x : Nat} {h h' : cx_Q} {s : Int} (a : eT x h h') : eT x (m_turnS h x s) (m_turnS h' x s) := by
  unfold m_turnS
  rw [a.fJ (o := 31) (by decide) (by decide), a.fJ (o := 36) (by decide) (by decide), a.fJ (o := 38) (by decide) (by decide)]
  exact eT.sJ (eT.sI (eT.sJ a))
theorem rS_turnS {x : Nat} {h : cx_Q} {s : Int} (H : rS h x) : rS (m_turnS h x s) x := by
  unfold m_turnS
  exact rS.sJ (rS.sI (rS.sJ H))
def m_turn1 (h : cx_Q) (x : Nat) (s : Int) : cx_Q := cq_sI (cq_sJ (cq_sI (cq_sI (cq_sI h (x + 42) s (cq_I h (x + 40) s)) (x + 40) s 0) (x + 41) s 0) (x + 38) s (cq_J h x 79)) (x + 39) s 1
def m_turn2 (h : cx_Q) (x : Nat) (s : Int) (X : Int64) : cx_Q := cq_sJ (cq_sI (cq_sJ h (x + 34) s (f_key 2 (cq_J h (x + 31) s) X)) (x + 35) s 1) (x + 31) s (f_key 1 (cq_J h (x + 31) s) X)
def m_turn3 (h : cx_Q) (x : Nat) (s : Int) : cx_Q := cq_sJ (cq_sJ h (x + 36) s (cq_J h x 31)) (x + 37) s (cq_J h x 32)
def m_turn (h : cx_Q) (x : Nat) (u s : Int) (X : Int64) : cx_Q := m_turnS (m_turn3 (m_draw (m_turn2 (m_turn1 h x s) x s X) x u) x s) x s
theorem turn_c {F : Nat → Int → Int} {G : cx_Q → Prop} {Y : cx_Y} (hY : cY Y) {K : Option cx_V → cx_Q → Prop} {gm g : cx_Q} {x : Nat} {u s N O : Int} {X : Int64} {o5 : Option cx_V} (hG : rS gm x) (hE : eT x gm g) (hT : TI F G x g N O) (hN : N ≤ 16900) (hO : O ≤ 1990) (hs : 0 ≤ s ∧ s < 144)
    (hK : ∀ (h' : cx_Q) (tC tR : Int), eT x (m_turnS (m_turn3 gm x s) x s) h' → TI (upF (upF (upF F 52 s (cq_I g x 33)) 50 s tC) 48 s tR) (fun q => G q ∧ tnT x q (cq_I g x 10) (cq_I g x 33) (F 48 s) (cq_J gm (x + 38) s) tC tR) x h' (N + 3) O → cq_I h' x 10 = cq_I g x 10 → K none h') : cw Y mi_X11_turn K 151 [some (.inr (.inr (some x))), some (.inl u), some (.inl s), some (.inr (.inl X)), none, o5] [] g 0 0 := by
  have hS1 := hE.rS hG
  have tt := hT.2.2.1
  refine bx_X11_turn_151 hY (pf1_ok hY) ?_
  simp only [wp_iconst, wp_bipush, wp_sipush, wp_ldc, wp_ldc2_w, wp_lconst0, wp_lconst1, wp_aconst_null, wp_iload_0, wp_istore_0, wp_iload_1, wp_istore_1, wp_iload_2, wp_istore_2, wp_iload_3, wp_istore_3, wp_iload, wp_istore, wp_lload_0, wp_lstore_0, wp_lload_1, wp_lstore_1, wp_lload_2, wp_lstore_2, wp_lload_3, wp_lstore_3, wp_lload, wp_lstore, wp_aload_0, wp_astore_0, wp_aload_1, wp_astore_1, wp_aload_2, wp_astore_2, wp_aload_3, wp_astore_3, wp_aload, wp_astore, wp_iinc, wp_iadd, wp_isub, wp_imul, wp_iand, wp_ior, wp_ixor, wp_ishl, wp_ishr, wp_iushr, wp_irem, wp_ladd, wp_lsub, wp_lmul, wp_land, wp_lor, wp_lxor, wp_lshl, wp_lshr, wp_lushr, wp_lrem, wp_lcmp, wp_i2l, wp_l2i, wp_dupI, wp_dupA, wp_dup2J, wp_dup2IA, wp_popI, wp_popA, wp_pop2, wp_goto, wp_if_eq, wp_icmp_eq, wp_if_ne, wp_icmp_ne, wp_if_lt, wp_icmp_lt, wp_if_ge, wp_icmp_ge, wp_if_gt, wp_icmp_gt, wp_if_le, wp_icmp_le, wp_ifnull, wp_ifnonnull, wp_acmp_eq, wp_acmp_ne, wp_tableswitch, wp_get0, wp_put0, wp_get1, wp_put1, wp_get2, wp_put2, wp_get3, wp_put3, wp_new, wp_newarray, wp_anewarray, wp_alen, wp_iaload, wp_laload, wp_baload, wp_aaload, wp_iastore, wp_lastore, wp_bastore, wp_aastore, wp_return, wp_ireturnI, wp_ireturnZ, wp_lreturn, wp_areturnO, wp_areturnA, wp_max, wp_min, wp_obj, wp_virt, wp_nil, ld_I0, ld_Is, ld_J0, ld_Js, ld_A0, ld_As, ha_0, ha_s, cx_put1, cx_put2, cx_dl, cx_tgt, true_and, and_true, Nat.reduceAdd, Nat.reduceSub, Int.reduceAdd, Int.reduceNeg, Int.reduceToNat, Int.reduceSub, Int.cast_ofNat_Int, List.take_succ_cons, List.take_zero, List.drop_succ_cons, List.drop_zero, List.take_nil, List.drop_nil, Option.toList_some, Option.toList_none, List.cons_append, List.nil_append, wp_spec, ne_eq, Nat.reduceEqDiff, not_false_eq_true, true_or, or_true, rA_sOwn hS1, rs_sOwn hS1, rz_sOwn hS1, ra_141, rA_sOwnOpen hS1, rs_sOwnOpen hS1, rz_sOwnOpen hS1, ra_142, rA_tOwn hS1, rs_tOwn hS1, rz_tOwn hS1, ra_157, (hS1).1, eT.xJ hE (j := 31) (by decide) (by decide) (by decide), eT.xJ hE (j := 32) (by decide) (by decide) (by decide), mm_sI, mm_sJ, mm_sA, mm_IJ, mm_IA, mm_JI, mm_JA, mm_AI, mm_AJ, mm_ssI, mm_ssJ, mm_ssA, mm_zI, mm_zJ, mm_zA, mm_nI, mm_nJ, mm_nA, Nat.left_eq_add, Nat.add_eq_left, Nat.add_left_cancel_iff, Nat.reduceEqDiff, Int.reduceEq, false_and, and_false, if_false, if_true, and_self, true_and, true_or, or_true, false_or, or_false]
  (repeat' (with_reducible (first | refine And.intro ?_ ?_ | intro _)))
  all_goals (try omega)
  have hE2 : eT x (m_turn3 gm x s) (cq_sI (cq_sJ (cq_sJ g (x + 36) s (cq_J gm x 31)) (x + 37) s (cq_J gm x 32)) (x + 52) s (cq_I g x 33)) := by
    unfold m_turn3
    repeat' (first | with_reducible exact eT.refl _ _ | with_reducible assumption | (with_reducible refine eT.tI ?_ ?_; rotate_left; first | exact isT_a (by decide) | exact isT_f (by decide)) | (with_reducible refine eT.tJ ?_ ?_; rotate_left; first | exact isT_a (by decide) | exact isT_f (by decide)) | with_reducible refine eT.sI ?_ | with_reducible refine eT.sJ ?_)
  have hT2 := TI.sR (o := 52) (j := s) (v := cq_I g x 33) (TI.sJ (i := x + 37) (k := s) (v := cq_J gm x 32) (TI.sJ (i := x + 36) (k := s) (v := cq_J gm x 31) hT)) (by decide) tt hT.tw.2.2.2
  have m10 : cq_I (cq_sI (cq_sJ (cq_sJ g (x + 36) s (cq_J gm x 31)) (x + 37) s (cq_J gm x 32)) (x + 52) s (cq_I g x 33)) x 10 = cq_I g x 10 := by rw [mm_sI, if_neg (fun e => by omega), mm_IJ, mm_IJ]
  have m38 : cq_J (cq_sI (cq_sJ (cq_sJ g (x + 36) s (cq_J gm x 31)) (x + 37) s (cq_J gm x 32)) (x + 52) s (cq_I g x 33)) (x + 38) s = cq_J gm (x + 38) s := by
    rw [mm_JI, mm_sJ, if_neg (fun e => by omega), mm_sJ, if_neg (fun e => by omega), hE.fJ (o := 38) (by decide) (by decide)]
  refine cl_X11_turnSending (Nat.le_of_ble_eq_true rfl) hS1.1 (Nat.le_refl _) (Nat.le_refl _) (c_X11_turnSending hY (rS.sI (rS.sJ (rS.sJ hS1))) hT2 hN hO hs ?_)
  intro h' tC tR hE3 hT3 o10
  have u52 : upF F 52 s (cq_I g x 33) 52 s = cq_I g x 33 := if_pos ⟨rfl, rfl⟩
  have u48 : upF F 52 s (cq_I g x 33) 48 s = F 48 s := if_neg (fun e => absurd e.1 (by decide))
  rw [m10, m38, u52, u48] at hT3
  rw [m10] at o10
  refine bx_X11_turn_186 hY (pf1_ok hY) ?_
  simp only [wp_iconst, wp_bipush, wp_sipush, wp_ldc, wp_ldc2_w, wp_lconst0, wp_lconst1, wp_aconst_null, wp_iload_0, wp_istore_0, wp_iload_1, wp_istore_1, wp_iload_2, wp_istore_2, wp_iload_3, wp_istore_3, wp_iload, wp_istore, wp_lload_0, wp_lstore_0, wp_lload_1, wp_lstore_1, wp_lload_2, wp_lstore_2, wp_lload_3, wp_lstore_3, wp_lload, wp_lstore, wp_aload_0, wp_astore_0, wp_aload_1, wp_astore_1, wp_aload_2, wp_astore_2, wp_aload_3, wp_astore_3, wp_aload, wp_astore, wp_iinc, wp_iadd, wp_isub, wp_imul, wp_iand, wp_ior, wp_ixor, wp_ishl, wp_ishr, wp_iushr, wp_irem, wp_ladd, wp_lsub, wp_lmul, wp_land, wp_lor, wp_lxor, wp_lshl, wp_lshr, wp_lushr, wp_lrem, wp_lcmp, wp_i2l, wp_l2i, wp_dupI, wp_dupA, wp_dup2J, wp_dup2IA, wp_popI, wp_popA, wp_pop2, wp_goto, wp_if_eq, wp_icmp_eq, wp_if_ne, wp_icmp_ne, wp_if_lt, wp_icmp_lt, wp_if_ge, wp_icmp_ge, wp_if_gt, wp_icmp_gt, wp_if_le, wp_icmp_le, wp_ifnull, wp_ifnonnull, wp_acmp_eq, wp_acmp_ne, wp_tableswitch, wp_get0, wp_put0, wp_get1, wp_put1, wp_get2, wp_put2, wp_get3, wp_put3, wp_new, wp_newarray, wp_anewarray, wp_alen, wp_iaload, wp_laload, wp_baload, wp_aaload, wp_iastore, wp_lastore, wp_bastore, wp_aastore, wp_return, wp_ireturnI, wp_ireturnZ, wp_lreturn, wp_areturnO, wp_areturnA, wp_max, wp_min, wp_obj, wp_virt, wp_nil, ld_I0, ld_Is, ld_J0, ld_Js, ld_A0, ld_As, ha_0, ha_s, cx_put1, cx_put2, cx_dl, cx_tgt, true_and, and_true, Nat.reduceAdd, Nat.reduceSub, Int.reduceAdd, Int.reduceNeg, Int.reduceToNat, Int.reduceSub, Int.cast_ofNat_Int, List.take_succ_cons, List.take_zero, List.drop_succ_cons, List.drop_zero, List.take_nil, List.drop_nil, Option.toList_some, Option.toList_none, List.cons_append, List.nil_append, wp_spec, ne_eq, Nat.reduceEqDiff, not_false_eq_true, true_or, or_true]
  exact hK h' tC tR ((eT_turnS hE2).trans hE3) (hT3.w (fun z => ⟨z.1, z.2⟩) (sta_and hT.st sta_tn)) o10
theorem turn_b {F : Nat → Int → Int} {G : cx_Q → Prop} {Y : cx_Y} (hY : cY Y) {K : Option cx_V → cx_Q → Prop} {gm g : cx_Q} {x : Nat} {u s t N O D : Int} {X : Int64} (hG : rS gm x) (hE : eT x gm g) (hT : TI F G x g N O) (hN : N ≤ 16890) (hO : O ≤ 1980) (hs : 0 ≤ s ∧ s < 144) (hu : 0 ≤ u ∧ u < 6) (hd : dI x gm D) (hD : D ≤ 900000) (ht : 0 ≤ t ∧ t ≤ 16999) (hl : t < cq_I g x 2)
    (hK : ∀ (h' : cx_Q) (tC tR T tC' tR' : Int), eT x (m_turnS (m_turn3 (m_draw (m_turn2 gm x s X) x u) x s) x s) h' → TI (upF (upF (upF (upF (upF F 51 s tC) 48 s tR) 52 s T) 50 s tC') 48 s tR') (fun q => ((G q ∧ (tmT x q tC 5 (F 48 s) t 0 0 ∧ tmT x q tR 4 (F 48 s) t 0 0)) ∧ drT x q T (cq_I g x 10) (cq_J (m_draw (m_turn2 gm x s X) x u) x 32)) ∧ tnT x q (cq_I g x 10 + 1) T tR (cq_J gm (x + 38) s) tC' tR') x h' (N + 6) (O + 1) → cq_I g x 2 ≤ T → cq_I h' x 10 = cq_I g x 10 + 1 → K none h') (o5 : Option cx_V) : cw Y mi_X11_turn K 61 [some (.inr (.inr (some x))), some (.inl u), some (.inl s), some (.inr (.inl X)), none, o5] [.inl t] g 0 0 := by
  have hS1 := hE.rS hG
  have t48 := hT.tl 48 (by decide) s
  have r48 := hT.re 48 (by decide) s
  have h0 := hT.1
  have hTm := hT.more (G' := fun q => cq_I g x 2 ≤ cq_I q x 2) (Int.le_refl _) sta_le2
  refine bx_X11_turn_61 hY (pf1_ok hY) ?_
  simp only [wp_iconst, wp_bipush, wp_sipush, wp_ldc, wp_ldc2_w, wp_lconst0, wp_lconst1, wp_aconst_null, wp_iload_0, wp_istore_0, wp_iload_1, wp_istore_1, wp_iload_2, wp_istore_2, wp_iload_3, wp_istore_3, wp_iload, wp_istore, wp_lload_0, wp_lstore_0, wp_lload_1, wp_lstore_1, wp_lload_2, wp_lstore_2, wp_lload_3, wp_lstore_3, wp_lload, wp_lstore, wp_aload_0, wp_astore_0, wp_aload_1, wp_astore_1, wp_aload_2, wp_astore_2, wp_aload_3, wp_astore_3, wp_aload, wp_astore, wp_iinc, wp_iadd, wp_isub, wp_imul, wp_iand, wp_ior, wp_ixor, wp_ishl, wp_ishr, wp_iushr, wp_irem, wp_ladd, wp_lsub, wp_lmul, wp_land, wp_lor, wp_lxor, wp_lshl, wp_lshr, wp_lushr, wp_lrem, wp_lcmp, wp_i2l, wp_l2i, wp_dupI, wp_dupA, wp_dup2J, wp_dup2IA, wp_popI, wp_popA, wp_pop2, wp_goto, wp_if_eq, wp_icmp_eq, wp_if_ne, wp_icmp_ne, wp_if_lt, wp_icmp_lt, wp_if_ge, wp_icmp_ge, wp_if_gt, wp_icmp_gt, wp_if_le, wp_icmp_le, wp_ifnull, wp_ifnonnull, wp_acmp_eq, wp_acmp_ne, wp_tableswitch, wp_get0, wp_put0, wp_get1, wp_put1, wp_get2, wp_put2, wp_get3, wp_put3, wp_new, wp_newarray, wp_anewarray, wp_alen, wp_iaload, wp_laload, wp_baload, wp_aaload, wp_iastore, wp_lastore, wp_bastore, wp_aastore, wp_return, wp_ireturnI, wp_ireturnZ, wp_lreturn, wp_areturnO, wp_areturnA, wp_max, wp_min, wp_obj, wp_virt, wp_nil, ld_I0, ld_Is, ld_J0, ld_Js, ld_A0, ld_As, ha_0, ha_s, cx_put1, cx_put2, cx_dl, cx_tgt, true_and, and_true, Nat.reduceAdd, Nat.reduceSub, Int.reduceAdd, Int.reduceNeg, Int.reduceToNat, Int.reduceSub, Int.cast_ofNat_Int, List.take_succ_cons, List.take_zero, List.drop_succ_cons, List.drop_zero, List.take_nil, List.drop_nil, Option.toList_some, Option.toList_none, List.cons_append, List.nil_append, wp_spec, ne_eq, Nat.reduceEqDiff, not_false_eq_true, true_or, or_true, wf_X11_mix, wf_X11_key, wf_X11_times, wf_X11_timesQ, wf_X11_power, wf_X11_common, wf_X11_modQ, wf_X11_asSecret, wf_X11_sumOf, cx_sz, cx_c2, cond_true, cond_false, Nat.reduceLeDiff, rA_sRecv hS1, rs_sRecv hS1, rz_sRecv hS1, ra_139, rA_sRoot hS1, rs_sRoot hS1, rz_sRoot hS1, ra_136, rA_hasRecv hS1, rs_hasRecv hS1, rz_hasRecv hS1, ra_140, rA_tRecv hS1, rs_tRecv hS1, rz_tRecv hS1, ra_156, rA_tRoot hS1, rs_tRoot hS1, rz_tRoot hS1, ra_153, (hS1).1, eT.fJ hE (o := 31) (by decide) (by decide), mm_sI, mm_sJ, mm_sA, mm_IJ, mm_IA, mm_JI, mm_JA, mm_AI, mm_AJ, mm_ssI, mm_ssJ, mm_ssA, mm_zI, mm_zJ, mm_zA, mm_nI, mm_nJ, mm_nA, Nat.left_eq_add, Nat.add_eq_left, Nat.add_left_cancel_iff, Nat.reduceEqDiff, Int.reduceEq, false_and, and_false, if_false, if_true, and_self, true_and, true_or, or_true, false_or, or_false]
  (repeat' (with_reducible (first | refine And.intro ?_ ?_ | intro _)))
  all_goals (try omega)
  have hE2 : eT x (cq_sI (cq_sJ gm (x + 34) s (f_key 2 (cq_J gm (x + 31) s) X)) (x + 35) s 1) (cq_sI (cq_sJ g (x + 34) s (f_key 2 (cq_J gm (x + 31) s) X)) (x + 35) s 1) := eT.sI (eT.sJ hE)
  have hT2 := TI.sT (o := 35) (j := s) (v := 1) (TI.sJ (i := x + 34) (k := s) (v := f_key 2 (cq_J gm (x + 31) s) X) hTm) (by decide) (fun q => absurd q (by decide))
  have m2 : cq_I (cq_sI (cq_sJ g (x + 34) s (f_key 2 (cq_J gm (x + 31) s) X)) (x + 35) s 1) x 2 = cq_I g x 2 := by rw [mm_sI, if_neg (fun e => by omega), mm_IJ]
  have m10 : cq_I (cq_sI (cq_sJ g (x + 34) s (f_key 2 (cq_J gm (x + 31) s) X)) (x + 35) s 1) x 10 = cq_I g x 10 := by rw [mm_sI, if_neg (fun e => by omega), mm_IJ]
  refine cl_X11_term (Nat.le_of_ble_eq_true rfl) hS1.1 (Nat.le_refl _) (Nat.le_refl _) (c_X11_term hY (rS.sI (rS.sJ hS1)) hT2 (by omega) (by rw [m2]; exact t48) (by rw [m2]; omega) (by rw [m2]; omega) (by rw [m2]; omega) ?_)
  intro t2 g2 c1 c2 hE3 hT3 o10b _
  have lt2 : t2 < cq_I g2 x 2 := hT3.g.2.1.2
  have ex2 : cq_I g x 2 ≤ cq_I g2 x 2 := hT3.g.1.2
  have h03 := hT3.1
  have r48b := hT3.re 48 (by decide) s
  have hS3 := hE3.rS (rS.sI (rS.sJ hS1))
  have hE4 := hE2.trans hE3
  have t48b := hT3.tl 48 (by decide) s
  refine bx_X11_turn_107 hY (pf1_ok hY) ?_
  simp only [wp_iconst, wp_bipush, wp_sipush, wp_ldc, wp_ldc2_w, wp_lconst0, wp_lconst1, wp_aconst_null, wp_iload_0, wp_istore_0, wp_iload_1, wp_istore_1, wp_iload_2, wp_istore_2, wp_iload_3, wp_istore_3, wp_iload, wp_istore, wp_lload_0, wp_lstore_0, wp_lload_1, wp_lstore_1, wp_lload_2, wp_lstore_2, wp_lload_3, wp_lstore_3, wp_lload, wp_lstore, wp_aload_0, wp_astore_0, wp_aload_1, wp_astore_1, wp_aload_2, wp_astore_2, wp_aload_3, wp_astore_3, wp_aload, wp_astore, wp_iinc, wp_iadd, wp_isub, wp_imul, wp_iand, wp_ior, wp_ixor, wp_ishl, wp_ishr, wp_iushr, wp_irem, wp_ladd, wp_lsub, wp_lmul, wp_land, wp_lor, wp_lxor, wp_lshl, wp_lshr, wp_lushr, wp_lrem, wp_lcmp, wp_i2l, wp_l2i, wp_dupI, wp_dupA, wp_dup2J, wp_dup2IA, wp_popI, wp_popA, wp_pop2, wp_goto, wp_if_eq, wp_icmp_eq, wp_if_ne, wp_icmp_ne, wp_if_lt, wp_icmp_lt, wp_if_ge, wp_icmp_ge, wp_if_gt, wp_icmp_gt, wp_if_le, wp_icmp_le, wp_ifnull, wp_ifnonnull, wp_acmp_eq, wp_acmp_ne, wp_tableswitch, wp_get0, wp_put0, wp_get1, wp_put1, wp_get2, wp_put2, wp_get3, wp_put3, wp_new, wp_newarray, wp_anewarray, wp_alen, wp_iaload, wp_laload, wp_baload, wp_aaload, wp_iastore, wp_lastore, wp_bastore, wp_aastore, wp_return, wp_ireturnI, wp_ireturnZ, wp_lreturn, wp_areturnO, wp_areturnA, wp_max, wp_min, wp_obj, wp_virt, wp_nil, ld_I0, ld_Is, ld_J0, ld_Js, ld_A0, ld_As, ha_0, ha_s, cx_put1, cx_put2, cx_dl, cx_tgt, true_and, and_true, Nat.reduceAdd, Nat.reduceSub, Int.reduceAdd, Int.reduceNeg, Int.reduceToNat, Int.reduceSub, Int.cast_ofNat_Int, List.take_succ_cons, List.take_zero, List.drop_succ_cons, List.drop_zero, List.take_nil, List.drop_nil, Option.toList_some, Option.toList_none, List.cons_append, List.nil_append, wp_spec, ne_eq, Nat.reduceEqDiff, not_false_eq_true, true_or, or_true, rA_tRecv hS3, rs_tRecv hS3, rz_tRecv hS3, ra_156, rA_tRoot hS3, rs_tRoot hS3, rz_tRoot hS3, ra_153, (hS3).1, mm_sI, mm_sJ, mm_sA, mm_IJ, mm_IA, mm_JI, mm_JA, mm_AI, mm_AJ, mm_ssI, mm_ssJ, mm_ssA, mm_zI, mm_zJ, mm_zA, mm_nI, mm_nJ, mm_nA, Nat.left_eq_add, Nat.add_eq_left, Nat.add_left_cancel_iff, Nat.reduceEqDiff, Int.reduceEq, false_and, and_false, if_false, if_true, and_self, true_and, true_or, or_true, false_or, or_false]
  (repeat' (with_reducible (first | refine And.intro ?_ ?_ | intro _)))
  all_goals (try omega)
  have hT4 := TI.sR (o := 51) (j := s) (v := t2) hT3 (by decide) ⟨c1, c2⟩ lt2
  have n2 : cq_I (cq_sI g2 (x + 51) s t2) x 2 = cq_I g2 x 2 := by rw [mm_sI, if_neg (fun e => by omega)]
  have n10 : cq_I (cq_sI g2 (x + 51) s t2) x 10 = cq_I g2 x 10 := by rw [mm_sI, if_neg (fun e => by omega)]
  refine cl_X11_term (Nat.le_of_ble_eq_true rfl) hS3.1 (Nat.le_refl _) (Nat.le_refl _) (c_X11_term hY (rS.sI hS3) hT4 (by omega) (by rw [n2]; exact t48b) (by rw [n2]; omega) (by rw [n2]; omega) (by rw [n2]; omega) ?_)
  intro t3 g3 d1 d2 hE5 hT5 o10c _
  have lt3 : t3 < cq_I g3 x 2 := hT5.g.2.1.2
  have ex3 : cq_I g x 2 ≤ cq_I g3 x 2 := hT5.g.1.1.2
  have hS5 := hE5.rS (rS.sI hS3)
  have hE6 : eT x (cq_sI (cq_sJ gm (x + 34) s (f_key 2 (cq_J gm (x + 31) s) X)) (x + 35) s 1) g3 := (eT.tI hE4 (isT_a (by decide))).trans hE5
  have e31 : cq_J g3 (x + 31) = cq_J gm (x + 31) := by
    rw [hE6.fJ (o := 31) (by decide) (by decide)]
    funext j
    simp only [mm_sI, mm_sJ, mm_sA, mm_IJ, mm_IA, mm_JI, mm_JA, mm_AI, mm_AJ, mm_ssI, mm_ssJ, mm_ssA, mm_zI, mm_zJ, mm_zA, mm_nI, mm_nJ, mm_nA, Nat.left_eq_add, Nat.add_eq_left, Nat.add_left_cancel_iff, Nat.reduceEqDiff, Int.reduceEq, false_and, and_false, if_false, if_true, and_self, true_and, true_or, or_true, false_or, or_false]
  refine bx_X11_turn_128 hY (pf1_ok hY) ?_
  simp only [wp_iconst, wp_bipush, wp_sipush, wp_ldc, wp_ldc2_w, wp_lconst0, wp_lconst1, wp_aconst_null, wp_iload_0, wp_istore_0, wp_iload_1, wp_istore_1, wp_iload_2, wp_istore_2, wp_iload_3, wp_istore_3, wp_iload, wp_istore, wp_lload_0, wp_lstore_0, wp_lload_1, wp_lstore_1, wp_lload_2, wp_lstore_2, wp_lload_3, wp_lstore_3, wp_lload, wp_lstore, wp_aload_0, wp_astore_0, wp_aload_1, wp_astore_1, wp_aload_2, wp_astore_2, wp_aload_3, wp_astore_3, wp_aload, wp_astore, wp_iinc, wp_iadd, wp_isub, wp_imul, wp_iand, wp_ior, wp_ixor, wp_ishl, wp_ishr, wp_iushr, wp_irem, wp_ladd, wp_lsub, wp_lmul, wp_land, wp_lor, wp_lxor, wp_lshl, wp_lshr, wp_lushr, wp_lrem, wp_lcmp, wp_i2l, wp_l2i, wp_dupI, wp_dupA, wp_dup2J, wp_dup2IA, wp_popI, wp_popA, wp_pop2, wp_goto, wp_if_eq, wp_icmp_eq, wp_if_ne, wp_icmp_ne, wp_if_lt, wp_icmp_lt, wp_if_ge, wp_icmp_ge, wp_if_gt, wp_icmp_gt, wp_if_le, wp_icmp_le, wp_ifnull, wp_ifnonnull, wp_acmp_eq, wp_acmp_ne, wp_tableswitch, wp_get0, wp_put0, wp_get1, wp_put1, wp_get2, wp_put2, wp_get3, wp_put3, wp_new, wp_newarray, wp_anewarray, wp_alen, wp_iaload, wp_laload, wp_baload, wp_aaload, wp_iastore, wp_lastore, wp_bastore, wp_aastore, wp_return, wp_ireturnI, wp_ireturnZ, wp_lreturn, wp_areturnO, wp_areturnA, wp_max, wp_min, wp_obj, wp_virt, wp_nil, ld_I0, ld_Is, ld_J0, ld_Js, ld_A0, ld_As, ha_0, ha_s, cx_put1, cx_put2, cx_dl, cx_tgt, true_and, and_true, Nat.reduceAdd, Nat.reduceSub, Int.reduceAdd, Int.reduceNeg, Int.reduceToNat, Int.reduceSub, Int.cast_ofNat_Int, List.take_succ_cons, List.take_zero, List.drop_succ_cons, List.drop_zero, List.take_nil, List.drop_nil, Option.toList_some, Option.toList_none, List.cons_append, List.nil_append, wp_spec, ne_eq, Nat.reduceEqDiff, not_false_eq_true, true_or, or_true, wf_X11_mix, wf_X11_key, wf_X11_times, wf_X11_timesQ, wf_X11_power, wf_X11_common, wf_X11_modQ, wf_X11_asSecret, wf_X11_sumOf, cx_sz, cx_c2, cond_true, cond_false, Nat.reduceLeDiff, rA_tRoot hS5, rs_tRoot hS5, rz_tRoot hS5, ra_153, rA_sRoot hS5, rs_sRoot hS5, rz_sRoot hS5, ra_136, (hS5).1, e31, mm_sI, mm_sJ, mm_sA, mm_IJ, mm_IA, mm_JI, mm_JA, mm_AI, mm_AJ, mm_ssI, mm_ssJ, mm_ssA, mm_zI, mm_zJ, mm_zA, mm_nI, mm_nJ, mm_nA, Nat.left_eq_add, Nat.add_eq_left, Nat.add_left_cancel_iff, Nat.reduceEqDiff, Int.reduceEq, false_and, and_false, if_false, if_true, and_self, true_and, true_or, or_true, false_or, or_false]
  (repeat' (with_reducible (first | refine And.intro ?_ ?_ | intro _)))
  all_goals (try omega)
  have hE7 : eT x (m_turn2 gm x s X) (cq_sJ (cq_sI g3 (x + 48) s t3) (x + 31) s (f_key 1 (cq_J gm (x + 31) s) X)) := by
    unfold m_turn2
    repeat' (first | with_reducible exact eT.refl _ _ | with_reducible assumption | (with_reducible refine eT.tI ?_ ?_; rotate_left; first | exact isT_a (by decide) | exact isT_f (by decide)) | (with_reducible refine eT.tJ ?_ ?_; rotate_left; first | exact isT_a (by decide) | exact isT_f (by decide)) | with_reducible refine eT.sI ?_ | with_reducible refine eT.sJ ?_)
  have hT7 := TI.sJ (i := x + 31) (k := s) (v := f_key 1 (cq_J gm (x + 31) s) X) (TI.sR (o := 48) (j := s) (v := t3) hT5 (by decide) ⟨d1, d2⟩ lt3)
  have p2 : cq_I (cq_sJ (cq_sI g3 (x + 48) s t3) (x + 31) s (f_key 1 (cq_J gm (x + 31) s) X)) x 2 = cq_I g3 x 2 := by rw [mm_IJ, mm_sI, if_neg (fun e => by omega)]
  have p10 : cq_I (cq_sJ (cq_sI g3 (x + 48) s t3) (x + 31) s (f_key 1 (cq_J gm (x + 31) s) X)) x 10 = cq_I g x 10 := by rw [mm_IJ, mm_sI, if_neg (fun e => by omega), o10c, n10, o10b, m10]
  have hdm : dI x (m_turn2 gm x s X) D := by
    unfold m_turn2
    exact dI.sJ (dI.sI (dI.sJ hd) (by decide))
  have hd7 := hdm.eT hE7 u
  have hd7v : 0 ≤ cq_I (cq_sJ (cq_sI g3 (x + 48) s t3) (x + 31) s (f_key 1 (cq_J gm (x + 31) s) X)) (x + 12) u ∧ cq_I (cq_sJ (cq_sI g3 (x + 48) s t3) (x + 31) s (f_key 1 (cq_J gm (x + 31) s) X)) (x + 12) u ≤ 1000000 := by omega
  refine cl_X11_drawTerm (Nat.le_of_ble_eq_true rfl) hS5.1 (Nat.le_refl _) (Nat.le_refl _) (c_X11_drawTerm hY (rS.sJ (rS.sI hS5)) hT7 (by omega) (by omega) hu hd7v ?_)
  intro g4 hE8 hT8 e33 e2 e10
  have p32 : cq_J (m_draw (cq_sJ (cq_sI g3 (x + 48) s t3) (x + 31) s (f_key 1 (cq_J gm (x + 31) s) X)) x u) x 32 = (cq_J (m_draw (m_turn2 gm x s X) x u) x 32) := (eT_draw hE7).xJ (by decide) (by decide) (by decide)
  rw [p2] at e33 e2
  rw [p10] at e10
  rw [p2, p10, p32] at hT8
  have a1 : N + 1 + 1 + 1 = N + 3 := by omega
  rw [a1] at hT8
  have hGm : rS (m_draw (m_turn2 gm x s X) x u) x := rS_draw (by unfold m_turn2; exact rS.sJ (rS.sI (rS.sJ hG)))
  refine turn_c hY hGm ((eT_draw hE7).trans hE8) hT8 (by omega) (by omega) hs ?_
  intro h' tC' tR' q1 q2 q3
  have a2 : N + 3 + 3 = N + 6 := by omega
  have u48 : upF (upF F 51 s t2) 48 s t3 48 s = t3 := if_pos ⟨rfl, rfl⟩
  have w38 : cq_J (m_draw (m_turn2 gm x s X) x u) (x + 38) s = cq_J gm (x + 38) s := by
    rw [m_draw_J, if_neg (fun e => by omega), if_neg (fun e => by omega)]
    unfold m_turn2
    rw [mm_sJ, if_neg (fun e => by omega), mm_JI, mm_sJ, if_neg (fun e => by omega)]
  rw [a2, e33, e10, u48, w38] at q2
  refine hK h' t2 t3 (cq_I g3 x 2) tC' tR' q1 (q2.w (fun z => ⟨⟨⟨z.1.1.1.1.1, ?_, ?_⟩, z.1.2⟩, z.2⟩) (sta_and (sta_and (sta_and hT.st (sta_and sta_hT sta_hT)) sta_drT) sta_tn)) ex3 (by rw [q3, e10])
  · rw [← r48]; exact z.1.1.1.2
  · have z2 := z.1.1.2
    rw [r48b] at z2
    exact z2
theorem c_X11_turn {F : Nat → Int → Int} {G : cx_Q → Prop} {Y : cx_Y} (hY : cY Y) {K : Option cx_V → cx_Q → Prop} {h : cx_Q} {x : Nat} {u s N O D : Int} {X : Int64} (hS : rS h x) (hT : TI F G x h N O) (hN : N ≤ 16880) (hO : O ≤ 1980) (hs : 0 ≤ s ∧ s < 144) (hu : 0 ≤ u ∧ u < 6) (hd : dI x h D) (hD : D ≤ 900000)
    (hK : ∀ (h' : cx_Q) (tC tR T tC' tR' : Int), eT x (m_turn h x u s X) h' → TI (upF (upF (upF (upF (upF F 51 s tC) 48 s tR) 52 s T) 50 s tC') 48 s tR') (fun q => ((G q ∧ tnT x q (cq_I h x 10) (F 52 s) (F 48 s) (cq_J h x 79) tC tR) ∧ drT x q T (cq_I h x 10) (cq_J (m_draw (m_turn2 (m_turn1 h x s) x s X) x u) x 32)) ∧ tnT x q (cq_I h x 10 + 1) T tR (cq_J h x 79) tC' tR') x h' (N + 7) (O + 1) → cq_I h x 2 ≤ T → cq_I h' x 10 = cq_I h x 10 + 1 → K none h') : cw Y mi_X11_turn K 0 [some (.inr (.inr (some x))), some (.inl u), some (.inl s), some (.inr (.inl X)), none, none] [] h 0 0 := by
  have t52 := hT.tv 52 (by decide) s
  have r52 := hT.re 52 (by decide) s
  have b2 : cq_I (m_turn1 h x s) x 2 = cq_I h x 2 := by
    unfold m_turn1
    simp only [mm_sI, mm_sJ, mm_sA, mm_IJ, mm_IA, mm_JI, mm_JA, mm_AI, mm_AJ, mm_ssI, mm_ssJ, mm_ssA, mm_zI, mm_zJ, mm_zA, mm_nI, mm_nJ, mm_nA, Nat.left_eq_add, Nat.add_eq_left, Nat.add_left_cancel_iff, Nat.reduceEqDiff, Int.reduceEq, false_and, and_false, if_false, if_true, and_self, true_and, true_or, or_true, false_or, or_false]
  have b10 : cq_I (m_turn1 h x s) x 10 = cq_I h x 10 := by
    unfold m_turn1
    simp only [mm_sI, mm_sJ, mm_sA, mm_IJ, mm_IA, mm_JI, mm_JA, mm_AI, mm_AJ, mm_ssI, mm_ssJ, mm_ssA, mm_zI, mm_zJ, mm_zA, mm_nI, mm_nJ, mm_nA, Nat.left_eq_add, Nat.add_eq_left, Nat.add_left_cancel_iff, Nat.reduceEqDiff, Int.reduceEq, false_and, and_false, if_false, if_true, and_self, true_and, true_or, or_true, false_or, or_false]
  have b38 : cq_J (m_turn1 h x s) (x + 38) s = cq_J h x 79 := by
    unfold m_turn1
    simp only [mm_sI, mm_sJ, mm_sA, mm_IJ, mm_IA, mm_JI, mm_JA, mm_AI, mm_AJ, mm_ssI, mm_ssJ, mm_ssA, mm_zI, mm_zJ, mm_zA, mm_nI, mm_nJ, mm_nA, Nat.left_eq_add, Nat.add_eq_left, Nat.add_left_cancel_iff, Nat.reduceEqDiff, Int.reduceEq, false_and, and_false, if_false, if_true, and_self, true_and, true_or, or_true, false_or, or_false]
  have b52 : cq_I (m_turn1 h x s) (x + 52) s = cq_I h (x + 52) s := by
    unfold m_turn1
    simp only [mm_sI, mm_sJ, mm_sA, mm_IJ, mm_IA, mm_JI, mm_JA, mm_AI, mm_AJ, mm_ssI, mm_ssJ, mm_ssA, mm_zI, mm_zJ, mm_zA, mm_nI, mm_nJ, mm_nA, Nat.left_eq_add, Nat.add_eq_left, Nat.add_left_cancel_iff, Nat.reduceEqDiff, Int.reduceEq, false_and, and_false, if_false, if_true, and_self, true_and, true_or, or_true, false_or, or_false]
  have hS1 : rS (m_turn1 h x s) x := by
    unfold m_turn1
    exact rS.sI (rS.sJ (rS.sI (rS.sI (rS.sI hS))))
  have hT1 : TI F G x (m_turn1 h x s) N O := by
    unfold m_turn1
    repeat' (first | with_reducible assumption | with_reducible refine TI.sJ ?_ | (with_reducible refine TI.sF ?_ ?_ ?_ ?_; rotate_left; decide; decide; decide) | (with_reducible refine TI.sT ?_ ?_ ?_; rotate_left; decide; first | exact fun q => absurd q (by decide) | exact fun _ => ⟨by omega, by omega⟩))
  have hd1 : dI x (m_turn1 h x s) D := by
    unfold m_turn1
    exact dI.sI (dI.sJ (dI.sI (dI.sI (dI.sI hd (by decide)) (by decide)) (by decide))) (by decide)
  refine bx_X11_turn_0 hY (pf1_ok hY) ?_
  simp only [wp_iconst, wp_bipush, wp_sipush, wp_ldc, wp_ldc2_w, wp_lconst0, wp_lconst1, wp_aconst_null, wp_iload_0, wp_istore_0, wp_iload_1, wp_istore_1, wp_iload_2, wp_istore_2, wp_iload_3, wp_istore_3, wp_iload, wp_istore, wp_lload_0, wp_lstore_0, wp_lload_1, wp_lstore_1, wp_lload_2, wp_lstore_2, wp_lload_3, wp_lstore_3, wp_lload, wp_lstore, wp_aload_0, wp_astore_0, wp_aload_1, wp_astore_1, wp_aload_2, wp_astore_2, wp_aload_3, wp_astore_3, wp_aload, wp_astore, wp_iinc, wp_iadd, wp_isub, wp_imul, wp_iand, wp_ior, wp_ixor, wp_ishl, wp_ishr, wp_iushr, wp_irem, wp_ladd, wp_lsub, wp_lmul, wp_land, wp_lor, wp_lxor, wp_lshl, wp_lshr, wp_lushr, wp_lrem, wp_lcmp, wp_i2l, wp_l2i, wp_dupI, wp_dupA, wp_dup2J, wp_dup2IA, wp_popI, wp_popA, wp_pop2, wp_goto, wp_if_eq, wp_icmp_eq, wp_if_ne, wp_icmp_ne, wp_if_lt, wp_icmp_lt, wp_if_ge, wp_icmp_ge, wp_if_gt, wp_icmp_gt, wp_if_le, wp_icmp_le, wp_ifnull, wp_ifnonnull, wp_acmp_eq, wp_acmp_ne, wp_tableswitch, wp_get0, wp_put0, wp_get1, wp_put1, wp_get2, wp_put2, wp_get3, wp_put3, wp_new, wp_newarray, wp_anewarray, wp_alen, wp_iaload, wp_laload, wp_baload, wp_aaload, wp_iastore, wp_lastore, wp_bastore, wp_aastore, wp_return, wp_ireturnI, wp_ireturnZ, wp_lreturn, wp_areturnO, wp_areturnA, wp_max, wp_min, wp_obj, wp_virt, wp_nil, ld_I0, ld_Is, ld_J0, ld_Js, ld_A0, ld_As, ha_0, ha_s, cx_put1, cx_put2, cx_dl, cx_tgt, true_and, and_true, Nat.reduceAdd, Nat.reduceSub, Int.reduceAdd, Int.reduceNeg, Int.reduceToNat, Int.reduceSub, Int.cast_ofNat_Int, List.take_succ_cons, List.take_zero, List.drop_succ_cons, List.drop_zero, List.take_nil, List.drop_nil, Option.toList_some, Option.toList_none, List.cons_append, List.nil_append, wp_spec, ne_eq, Nat.reduceEqDiff, not_false_eq_true, true_or, or_true, rA_sPn hS, rs_sPn hS, rz_sPn hS, ra_147, rA_sNs hS, rs_sNs hS, rz_sNs hS, ra_145, rA_sNr hS, rs_sNr hS, rz_sNr hS, ra_146, rA_sOther hS, rs_sOther hS, rz_sOther hS, ra_143, rA_hasOther hS, rs_hasOther hS, rz_hasOther hS, ra_144, rA_tOwn hS, rs_tOwn hS, rz_tOwn hS, ra_157, (hS).1, mm_sI, mm_sJ, mm_sA, mm_IJ, mm_IA, mm_JI, mm_JA, mm_AI, mm_AJ, mm_ssI, mm_ssJ, mm_ssA, mm_zI, mm_zJ, mm_zA, mm_nI, mm_nJ, mm_nA, Nat.left_eq_add, Nat.add_eq_left, Nat.add_left_cancel_iff, Nat.reduceEqDiff, Int.reduceEq, false_and, and_false, if_false, if_true, and_self, true_and, true_or, or_true, false_or, or_false]
  (repeat' (with_reducible (first | refine And.intro ?_ ?_ | intro _)))
  all_goals (try omega)
  refine cl_X11_secretOf (Nat.le_of_ble_eq_true rfl) hS.1 (Nat.le_refl _) (Nat.le_refl _) (c_X11_secretOf (h := m_turn1 h x s) hY hS1 hT1 (by omega) ?_)
  intro t a1 a2 a3 a4
  rw [b10] at a4
  have hTm := hT1.more (G' := fun q => (cq_I h x 10 ≤ cq_I q x 10 ∧ sO x q (cq_I h x 10) (cq_J h x 79) t) ∧ cq_I h x 2 ≤ cq_I q x 2) ⟨⟨by rw [b10]; exact Int.le_refl _, a4⟩, by rw [b2]; exact Int.le_refl _⟩ (sta_and sta_sO sta_le2)
  have l52 := hT1.tl 52 (by decide) s
  rw [b52] at l52
  refine bx_X11_turn_58 hY (pf1_ok hY) ?_
  simp only [wp_iconst, wp_bipush, wp_sipush, wp_ldc, wp_ldc2_w, wp_lconst0, wp_lconst1, wp_aconst_null, wp_iload_0, wp_istore_0, wp_iload_1, wp_istore_1, wp_iload_2, wp_istore_2, wp_iload_3, wp_istore_3, wp_iload, wp_istore, wp_lload_0, wp_lstore_0, wp_lload_1, wp_lstore_1, wp_lload_2, wp_lstore_2, wp_lload_3, wp_lstore_3, wp_lload, wp_lstore, wp_aload_0, wp_astore_0, wp_aload_1, wp_astore_1, wp_aload_2, wp_astore_2, wp_aload_3, wp_astore_3, wp_aload, wp_astore, wp_iinc, wp_iadd, wp_isub, wp_imul, wp_iand, wp_ior, wp_ixor, wp_ishl, wp_ishr, wp_iushr, wp_irem, wp_ladd, wp_lsub, wp_lmul, wp_land, wp_lor, wp_lxor, wp_lshl, wp_lshr, wp_lushr, wp_lrem, wp_lcmp, wp_i2l, wp_l2i, wp_dupI, wp_dupA, wp_dup2J, wp_dup2IA, wp_popI, wp_popA, wp_pop2, wp_goto, wp_if_eq, wp_icmp_eq, wp_if_ne, wp_icmp_ne, wp_if_lt, wp_icmp_lt, wp_if_ge, wp_icmp_ge, wp_if_gt, wp_icmp_gt, wp_if_le, wp_icmp_le, wp_ifnull, wp_ifnonnull, wp_acmp_eq, wp_acmp_ne, wp_tableswitch, wp_get0, wp_put0, wp_get1, wp_put1, wp_get2, wp_put2, wp_get3, wp_put3, wp_new, wp_newarray, wp_anewarray, wp_alen, wp_iaload, wp_laload, wp_baload, wp_aaload, wp_iastore, wp_lastore, wp_bastore, wp_aastore, wp_return, wp_ireturnI, wp_ireturnZ, wp_lreturn, wp_areturnO, wp_areturnA, wp_max, wp_min, wp_obj, wp_virt, wp_nil, ld_I0, ld_Is, ld_J0, ld_Js, ld_A0, ld_As, ha_0, ha_s, cx_put1, cx_put2, cx_dl, cx_tgt, true_and, and_true, Nat.reduceAdd, Nat.reduceSub, Int.reduceAdd, Int.reduceNeg, Int.reduceToNat, Int.reduceSub, Int.cast_ofNat_Int, List.take_succ_cons, List.take_zero, List.drop_succ_cons, List.drop_zero, List.take_nil, List.drop_nil, Option.toList_some, Option.toList_none, List.cons_append, List.nil_append, wp_spec, ne_eq, Nat.reduceEqDiff, not_false_eq_true, true_or, or_true]
  refine cl_X11_commonTerm (Nat.le_of_ble_eq_true rfl) hS1.1 (Nat.le_refl _) (Nat.le_refl _) (c_X11_commonTerm hY hS1 hTm (by omega) l52 ⟨a1, a3⟩ ?_)
  intro t' g1 c1 c2 hE hT2 o10
  rw [b10] at o10
  have le2 : cq_I h x 2 ≤ cq_I g1 x 2 := hT2.g.1.2.2
  refine turn_b hY hS1 hE hT2 (by omega) (by omega) hs hu hd1 hD ⟨c1, c2⟩ hT2.g.2.1.2 ?_ _
  intro h' tC tR T tC' tR' q1 q2 q3 q4
  have a5 : N + 1 + 6 = N + 7 := by omega
  rw [a5, o10, b38] at q2
  exact hK h' tC tR T tC' tR' q1 (q2.w (fun z => ⟨⟨⟨z.1.1.1.1.1, t, t', z.1.1.1.1.2.1, by rw [← r52]; exact z.1.1.1.2, z.1.1.2.1, z.1.1.2.2⟩, z.1.2⟩, z.2⟩) (sta_and (sta_and (sta_and hT.st sta_tn) sta_drT) sta_tn)) (by omega) (by rw [q4, o10])
