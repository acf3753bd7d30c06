/-! the law's loop, by value -/
section
variable {Y : cx_Y} {K : Option cx_V → cx_Q → Prop} {p c x : Nat} {n N : Int} {pe : Int → Nat} {ro : Int → Int → Nat} {pa lb tp rd en op ob : Nat}
theorem swf_d {pc : Nat} {J : Nat → Prop} {off k x : Int} {r : List Int} (a : x = k → J (cx_tgt pc off)) (b : cx_swf pc J r (k + 1) x) : cx_swf pc J (off :: r) k x := ⟨a, b⟩
theorem d_L_cell (hY : cY Y) {i : Int} {h : cx_Q} (hp : cq_s h p = 98 ∧ cq_z h p = N) (hi : 0 ≤ i) (hK : K (some (.inl (if i < N then cq_I h p i else 0))) h) : cw Y mi_L_cell K 0 [some (.inr (.inr (some p))), some (.inl i)] [] h 0 0 := by
  have j13 : ∀ v, K (some (.inl v)) h → cw Y mi_L_cell K 13 [some (.inr (.inr (some p))), some (.inl i)] [.inl v] h 0 0 := by
    intro v q
    refine bx_L_cell_13 hY (pf2_ok hY) ?_
    simp only [wp_iconst, wp_bipush, wp_sipush, wp_ldc, wp_ldc2_w, wp_lconst0, wp_lconst1, wp_aconst_null, wp_iload_0, wp_istore_0, wp_iload_1, wp_istore_1, wp_iload_2, wp_istore_2, wp_iload_3, wp_istore_3, wp_iload, wp_istore, wp_lload_0, wp_lstore_0, wp_lload_1, wp_lstore_1, wp_lload_2, wp_lstore_2, wp_lload_3, wp_lstore_3, wp_lload, wp_lstore, wp_aload_0, wp_astore_0, wp_aload_1, wp_astore_1, wp_aload_2, wp_astore_2, wp_aload_3, wp_astore_3, wp_aload, wp_astore, wp_iinc, wp_iadd, wp_isub, wp_imul, wp_iand, wp_ior, wp_ixor, wp_ishl, wp_ishr, wp_iushr, wp_irem, wp_ladd, wp_lsub, wp_lmul, wp_land, wp_lor, wp_lxor, wp_lshl, wp_lshr, wp_lushr, wp_lrem, wp_lcmp, wp_i2l, wp_l2i, wp_dupI, wp_dupA, wp_dup2J, wp_dup2IA, wp_popI, wp_popA, wp_pop2, wp_goto, wp_if_eq, wp_icmp_eq, wp_if_ne, wp_icmp_ne, wp_if_lt, wp_icmp_lt, wp_if_ge, wp_icmp_ge, wp_if_gt, wp_icmp_gt, wp_if_le, wp_icmp_le, wp_ifnull, wp_ifnonnull, wp_acmp_eq, wp_acmp_ne, wp_tableswitch, wp_get0, wp_put0, wp_get1, wp_put1, wp_get2, wp_put2, wp_get3, wp_put3, wp_new, wp_newarray, wp_anewarray, wp_alen, wp_iaload, wp_laload, wp_baload, wp_aaload, wp_iastore, wp_lastore, wp_bastore, wp_aastore, wp_return, wp_ireturnI, wp_ireturnZ, wp_lreturn, wp_areturnO, wp_areturnA, wp_max, wp_min, wp_obj, wp_virt, wp_nil, ld_I0, ld_Is, ld_J0, ld_Js, ld_A0, ld_As, ha_0, ha_s, cx_put1, cx_put2, cx_dl, cx_tgt, true_and, and_true, Nat.reduceAdd, Nat.reduceSub, Int.reduceAdd, Int.reduceNeg, Int.reduceToNat, Int.reduceSub, Int.cast_ofNat_Int, List.take_succ_cons, List.take_zero, List.drop_succ_cons, List.drop_zero, List.take_nil, List.drop_nil, Option.toList_some, Option.toList_none, List.cons_append, List.nil_append, wp_spec, ne_eq, Nat.reduceEqDiff, not_false_eq_true, true_or, or_true]
    exact q
  refine bx_L_cell_0 hY (pf2_ok hY) ?_
  simp only [wp_iconst, wp_bipush, wp_sipush, wp_ldc, wp_ldc2_w, wp_lconst0, wp_lconst1, wp_aconst_null, wp_iload_0, wp_istore_0, wp_iload_1, wp_istore_1, wp_iload_2, wp_istore_2, wp_iload_3, wp_istore_3, wp_iload, wp_istore, wp_lload_0, wp_lstore_0, wp_lload_1, wp_lstore_1, wp_lload_2, wp_lstore_2, wp_lload_3, wp_lstore_3, wp_lload, wp_lstore, wp_aload_0, wp_astore_0, wp_aload_1, wp_astore_1, wp_aload_2, wp_astore_2, wp_aload_3, wp_astore_3, wp_aload, wp_astore, wp_iinc, wp_iadd, wp_isub, wp_imul, wp_iand, wp_ior, wp_ixor, wp_ishl, wp_ishr, wp_iushr, wp_irem, wp_ladd, wp_lsub, wp_lmul, wp_land, wp_lor, wp_lxor, wp_lshl, wp_lshr, wp_lushr, wp_lrem, wp_lcmp, wp_i2l, wp_l2i, wp_dupI, wp_dupA, wp_dup2J, wp_dup2IA, wp_popI, wp_popA, wp_pop2, wp_goto, wp_if_eq, wp_icmp_eq, wp_if_ne, wp_icmp_ne, wp_if_lt, wp_icmp_lt, wp_if_ge, wp_icmp_ge, wp_if_gt, wp_icmp_gt, wp_if_le, wp_icmp_le, wp_ifnull, wp_ifnonnull, wp_acmp_eq, wp_acmp_ne, wp_tableswitch, wp_get0, wp_put0, wp_get1, wp_put1, wp_get2, wp_put2, wp_get3, wp_put3, wp_new, wp_newarray, wp_anewarray, wp_alen, wp_iaload, wp_laload, wp_baload, wp_aaload, wp_iastore, wp_lastore, wp_bastore, wp_aastore, wp_return, wp_ireturnI, wp_ireturnZ, wp_lreturn, wp_areturnO, wp_areturnA, wp_max, wp_min, wp_obj, wp_virt, wp_nil, ld_I0, ld_Is, ld_J0, ld_Js, ld_A0, ld_As, ha_0, ha_s, cx_put1, cx_put2, cx_dl, cx_tgt, true_and, and_true, Nat.reduceAdd, Nat.reduceSub, Int.reduceAdd, Int.reduceNeg, Int.reduceToNat, Int.reduceSub, Int.cast_ofNat_Int, List.take_succ_cons, List.take_zero, List.drop_succ_cons, List.drop_zero, List.take_nil, List.drop_nil, Option.toList_some, Option.toList_none, List.cons_append, List.nil_append, wp_spec, ne_eq, Nat.reduceEqDiff, not_false_eq_true, true_or, or_true, hp.1, hp.2, sc98]
  (repeat' (with_reducible (first | refine And.intro ?_ ?_ | intro _)))
  all_goals (try omega)
  · refine bx_L_cell_12 hY (pf2_ok hY) ?_
    simp only [wp_iconst, wp_bipush, wp_sipush, wp_ldc, wp_ldc2_w, wp_lconst0, wp_lconst1, wp_aconst_null, wp_iload_0, wp_istore_0, wp_iload_1, wp_istore_1, wp_iload_2, wp_istore_2, wp_iload_3, wp_istore_3, wp_iload, wp_istore, wp_lload_0, wp_lstore_0, wp_lload_1, wp_lstore_1, wp_lload_2, wp_lstore_2, wp_lload_3, wp_lstore_3, wp_lload, wp_lstore, wp_aload_0, wp_astore_0, wp_aload_1, wp_astore_1, wp_aload_2, wp_astore_2, wp_aload_3, wp_astore_3, wp_aload, wp_astore, wp_iinc, wp_iadd, wp_isub, wp_imul, wp_iand, wp_ior, wp_ixor, wp_ishl, wp_ishr, wp_iushr, wp_irem, wp_ladd, wp_lsub, wp_lmul, wp_land, wp_lor, wp_lxor, wp_lshl, wp_lshr, wp_lushr, wp_lrem, wp_lcmp, wp_i2l, wp_l2i, wp_dupI, wp_dupA, wp_dup2J, wp_dup2IA, wp_popI, wp_popA, wp_pop2, wp_goto, wp_if_eq, wp_icmp_eq, wp_if_ne, wp_icmp_ne, wp_if_lt, wp_icmp_lt, wp_if_ge, wp_icmp_ge, wp_if_gt, wp_icmp_gt, wp_if_le, wp_icmp_le, wp_ifnull, wp_ifnonnull, wp_acmp_eq, wp_acmp_ne, wp_tableswitch, wp_get0, wp_put0, wp_get1, wp_put1, wp_get2, wp_put2, wp_get3, wp_put3, wp_new, wp_newarray, wp_anewarray, wp_alen, wp_iaload, wp_laload, wp_baload, wp_aaload, wp_iastore, wp_lastore, wp_bastore, wp_aastore, wp_return, wp_ireturnI, wp_ireturnZ, wp_lreturn, wp_areturnO, wp_areturnA, wp_max, wp_min, wp_obj, wp_virt, wp_nil, ld_I0, ld_Is, ld_J0, ld_Js, ld_A0, ld_As, ha_0, ha_s, cx_put1, cx_put2, cx_dl, cx_tgt, true_and, and_true, Nat.reduceAdd, Nat.reduceSub, Int.reduceAdd, Int.reduceNeg, Int.reduceToNat, Int.reduceSub, Int.cast_ofNat_Int, List.take_succ_cons, List.take_zero, List.drop_succ_cons, List.drop_zero, List.take_nil, List.drop_nil, Option.toList_some, Option.toList_none, List.cons_append, List.nil_append, wp_spec, ne_eq, Nat.reduceEqDiff, not_false_eq_true, true_or, or_true]
    refine j13 _ ?_
    rw [if_neg (by omega)] at hK
    exact hK
  · refine j13 _ ?_
    rw [if_pos (by omega)] at hK
    exact hK
theorem fw_loop (hY : cY Y) (hN : 0 ≤ N ∧ N ≤ 386) (hK : ∀ h, K (some (.inl 1)) h) : ∀ (r : Nat) (k : Int) (h : cx_Q), 0 ≤ k → k + r = 64 → LF p c x n N pe ro pa lb tp rd en op ob k h → cw Y mi_L_law K 38 [some (.inr (.inr (some p))), some (.inr (.inr (some c))), some (.inr (.inr (some x))), some (.inl (2 + 6 * k))] [] h (52 * r) (1298 * r) := by
  intro r
  have jEnd : ∀ lv (h : cx_Q) bc bs, cw Y mi_L_law K 938 lv [] h bc bs := by
    intro lv h bc bs
    refine bx_L_law_938 hY (pf2_ok hY) ?_
    simp only [wp_iconst, wp_bipush, wp_sipush, wp_ldc, wp_ldc2_w, wp_lconst0, wp_lconst1, wp_aconst_null, wp_iload_0, wp_istore_0, wp_iload_1, wp_istore_1, wp_iload_2, wp_istore_2, wp_iload_3, wp_istore_3, wp_iload, wp_istore, wp_lload_0, wp_lstore_0, wp_lload_1, wp_lstore_1, wp_lload_2, wp_lstore_2, wp_lload_3, wp_lstore_3, wp_lload, wp_lstore, wp_aload_0, wp_astore_0, wp_aload_1, wp_astore_1, wp_aload_2, wp_astore_2, wp_aload_3, wp_astore_3, wp_aload, wp_astore, wp_iinc, wp_iadd, wp_isub, wp_imul, wp_iand, wp_ior, wp_ixor, wp_ishl, wp_ishr, wp_iushr, wp_irem, wp_ladd, wp_lsub, wp_lmul, wp_land, wp_lor, wp_lxor, wp_lshl, wp_lshr, wp_lushr, wp_lrem, wp_lcmp, wp_i2l, wp_l2i, wp_dupI, wp_dupA, wp_dup2J, wp_dup2IA, wp_popI, wp_popA, wp_pop2, wp_goto, wp_if_eq, wp_icmp_eq, wp_if_ne, wp_icmp_ne, wp_if_lt, wp_icmp_lt, wp_if_ge, wp_icmp_ge, wp_if_gt, wp_icmp_gt, wp_if_le, wp_icmp_le, wp_ifnull, wp_ifnonnull, wp_acmp_eq, wp_acmp_ne, wp_tableswitch, wp_get0, wp_put0, wp_get1, wp_put1, wp_get2, wp_put2, wp_get3, wp_put3, wp_new, wp_newarray, wp_anewarray, wp_alen, wp_iaload, wp_laload, wp_baload, wp_aaload, wp_iastore, wp_lastore, wp_bastore, wp_aastore, wp_return, wp_ireturnI, wp_ireturnZ, wp_lreturn, wp_areturnO, wp_areturnA, wp_max, wp_min, wp_obj, wp_virt, wp_nil, ld_I0, ld_Is, ld_J0, ld_Js, ld_A0, ld_As, ha_0, ha_s, cx_put1, cx_put2, cx_dl, cx_tgt, true_and, and_true, Nat.reduceAdd, Nat.reduceSub, Int.reduceAdd, Int.reduceNeg, Int.reduceToNat, Int.reduceSub, Int.cast_ofNat_Int, List.take_succ_cons, List.take_zero, List.drop_succ_cons, List.drop_zero, List.take_nil, List.drop_nil, Option.toList_some, Option.toList_none, List.cons_append, List.nil_append, wp_spec, ne_eq, Nat.reduceEqDiff, not_false_eq_true, true_or, or_true]
    exact hK h
  induction r with
  | zero =>
    intro k h hk hr X
    have hp : cq_s h p = 98 ∧ cq_z h p = N := by
      obtain ⟨Z, E, L1, T, Lf, L, U, V, H, hZ, R, hn, hL, hV, hU, hp, F, b63⟩ := X
      exact hp
    refine bx_L_law_38 hY (pf2_ok hY) ?_
    simp only [wp_iconst, wp_bipush, wp_sipush, wp_ldc, wp_ldc2_w, wp_lconst0, wp_lconst1, wp_aconst_null, wp_iload_0, wp_istore_0, wp_iload_1, wp_istore_1, wp_iload_2, wp_istore_2, wp_iload_3, wp_istore_3, wp_iload, wp_istore, wp_lload_0, wp_lstore_0, wp_lload_1, wp_lstore_1, wp_lload_2, wp_lstore_2, wp_lload_3, wp_lstore_3, wp_lload, wp_lstore, wp_aload_0, wp_astore_0, wp_aload_1, wp_astore_1, wp_aload_2, wp_astore_2, wp_aload_3, wp_astore_3, wp_aload, wp_astore, wp_iinc, wp_iadd, wp_isub, wp_imul, wp_iand, wp_ior, wp_ixor, wp_ishl, wp_ishr, wp_iushr, wp_irem, wp_ladd, wp_lsub, wp_lmul, wp_land, wp_lor, wp_lxor, wp_lshl, wp_lshr, wp_lushr, wp_lrem, wp_lcmp, wp_i2l, wp_l2i, wp_dupI, wp_dupA, wp_dup2J, wp_dup2IA, wp_popI, wp_popA, wp_pop2, wp_goto, wp_if_eq, wp_icmp_eq, wp_if_ne, wp_icmp_ne, wp_if_lt, wp_icmp_lt, wp_if_ge, wp_icmp_ge, wp_if_gt, wp_icmp_gt, wp_if_le, wp_icmp_le, wp_ifnull, wp_ifnonnull, wp_acmp_eq, wp_acmp_ne, wp_tableswitch, wp_get0, wp_put0, wp_get1, wp_put1, wp_get2, wp_put2, wp_get3, wp_put3, wp_new, wp_newarray, wp_anewarray, wp_alen, wp_iaload, wp_laload, wp_baload, wp_aaload, wp_iastore, wp_lastore, wp_bastore, wp_aastore, wp_return, wp_ireturnI, wp_ireturnZ, wp_lreturn, wp_areturnO, wp_areturnA, wp_max, wp_min, wp_obj, wp_virt, wp_nil, ld_I0, ld_Is, ld_J0, ld_Js, ld_A0, ld_As, ha_0, ha_s, cx_put1, cx_put2, cx_dl, cx_tgt, true_and, and_true, Nat.reduceAdd, Nat.reduceSub, Int.reduceAdd, Int.reduceNeg, Int.reduceToNat, Int.reduceSub, Int.cast_ofNat_Int, List.take_succ_cons, List.take_zero, List.drop_succ_cons, List.drop_zero, List.take_nil, List.drop_nil, Option.toList_some, Option.toList_none, List.cons_append, List.nil_append, wp_spec, ne_eq, Nat.reduceEqDiff, not_false_eq_true, true_or, or_true, hp.1, hp.2, sc98, cx_rg]
    refine ⟨by decide, by omega, fun _ => jEnd _ _ _ _, fun q => absurd (by omega) q⟩
  | succ r ih =>
    intro k h hk hr X
    have hp : cq_s h p = 98 ∧ cq_z h p = N := by
      obtain ⟨Z, E, L1, T, Lf, L, U, V, H, hZ, R, hn, hL, hV, hU, hp, F, b63⟩ := X
      exact hp
    have jNext : ∀ h', LF p c x n N pe ro pa lb tp rd en op ob (k + 1) h' → cw Y mi_L_law K 932 [some (.inr (.inr (some p))), some (.inr (.inr (some c))), some (.inr (.inr (some x))), some (.inl (2 + 6 * k))] [] h' (52 * (r + 1) - 52) (1298 * (r + 1) - 1298) := by
      intro h' X'
      refine bx_L_law_932 hY (pf2_ok hY) ?_
      simp only [wp_iconst, wp_bipush, wp_sipush, wp_ldc, wp_ldc2_w, wp_lconst0, wp_lconst1, wp_aconst_null, wp_iload_0, wp_istore_0, wp_iload_1, wp_istore_1, wp_iload_2, wp_istore_2, wp_iload_3, wp_istore_3, wp_iload, wp_istore, wp_lload_0, wp_lstore_0, wp_lload_1, wp_lstore_1, wp_lload_2, wp_lstore_2, wp_lload_3, wp_lstore_3, wp_lload, wp_lstore, wp_aload_0, wp_astore_0, wp_aload_1, wp_astore_1, wp_aload_2, wp_astore_2, wp_aload_3, wp_astore_3, wp_aload, wp_astore, wp_iinc, wp_iadd, wp_isub, wp_imul, wp_iand, wp_ior, wp_ixor, wp_ishl, wp_ishr, wp_iushr, wp_irem, wp_ladd, wp_lsub, wp_lmul, wp_land, wp_lor, wp_lxor, wp_lshl, wp_lshr, wp_lushr, wp_lrem, wp_lcmp, wp_i2l, wp_l2i, wp_dupI, wp_dupA, wp_dup2J, wp_dup2IA, wp_popI, wp_popA, wp_pop2, wp_goto, wp_if_eq, wp_icmp_eq, wp_if_ne, wp_icmp_ne, wp_if_lt, wp_icmp_lt, wp_if_ge, wp_icmp_ge, wp_if_gt, wp_icmp_gt, wp_if_le, wp_icmp_le, wp_ifnull, wp_ifnonnull, wp_acmp_eq, wp_acmp_ne, wp_tableswitch, wp_get0, wp_put0, wp_get1, wp_put1, wp_get2, wp_put2, wp_get3, wp_put3, wp_new, wp_newarray, wp_anewarray, wp_alen, wp_iaload, wp_laload, wp_baload, wp_aaload, wp_iastore, wp_lastore, wp_bastore, wp_aastore, wp_return, wp_ireturnI, wp_ireturnZ, wp_lreturn, wp_areturnO, wp_areturnA, wp_max, wp_min, wp_obj, wp_virt, wp_nil, ld_I0, ld_Is, ld_J0, ld_Js, ld_A0, ld_As, ha_0, ha_s, cx_put1, cx_put2, cx_dl, cx_tgt, true_and, and_true, Nat.reduceAdd, Nat.reduceSub, Int.reduceAdd, Int.reduceNeg, Int.reduceToNat, Int.reduceSub, Int.cast_ofNat_Int, List.take_succ_cons, List.take_zero, List.drop_succ_cons, List.drop_zero, List.take_nil, List.drop_nil, Option.toList_some, Option.toList_none, List.cons_append, List.nil_append, wp_spec, ne_eq, Nat.reduceEqDiff, not_false_eq_true, true_or, or_true, cx_rg]
      refine ⟨by omega, ?_⟩
      rw [show 2 + 6 * k + 6 = 2 + 6 * (k + 1) by omega, show 52 * (r + 1) - 52 = 52 * r by omega, show 1298 * (r + 1) - 1298 = 1298 * r by omega]
      exact ih (k + 1) h' (by omega) (by omega) X'
    refine bx_L_law_38 hY (pf2_ok hY) ?_
    simp only [wp_iconst, wp_bipush, wp_sipush, wp_ldc, wp_ldc2_w, wp_lconst0, wp_lconst1, wp_aconst_null, wp_iload_0, wp_istore_0, wp_iload_1, wp_istore_1, wp_iload_2, wp_istore_2, wp_iload_3, wp_istore_3, wp_iload, wp_istore, wp_lload_0, wp_lstore_0, wp_lload_1, wp_lstore_1, wp_lload_2, wp_lstore_2, wp_lload_3, wp_lstore_3, wp_lload, wp_lstore, wp_aload_0, wp_astore_0, wp_aload_1, wp_astore_1, wp_aload_2, wp_astore_2, wp_aload_3, wp_astore_3, wp_aload, wp_astore, wp_iinc, wp_iadd, wp_isub, wp_imul, wp_iand, wp_ior, wp_ixor, wp_ishl, wp_ishr, wp_iushr, wp_irem, wp_ladd, wp_lsub, wp_lmul, wp_land, wp_lor, wp_lxor, wp_lshl, wp_lshr, wp_lushr, wp_lrem, wp_lcmp, wp_i2l, wp_l2i, wp_dupI, wp_dupA, wp_dup2J, wp_dup2IA, wp_popI, wp_popA, wp_pop2, wp_goto, wp_if_eq, wp_icmp_eq, wp_if_ne, wp_icmp_ne, wp_if_lt, wp_icmp_lt, wp_if_ge, wp_icmp_ge, wp_if_gt, wp_icmp_gt, wp_if_le, wp_icmp_le, wp_ifnull, wp_ifnonnull, wp_acmp_eq, wp_acmp_ne, wp_tableswitch, wp_get0, wp_put0, wp_get1, wp_put1, wp_get2, wp_put2, wp_get3, wp_put3, wp_new, wp_newarray, wp_anewarray, wp_alen, wp_iaload, wp_laload, wp_baload, wp_aaload, wp_iastore, wp_lastore, wp_bastore, wp_aastore, wp_return, wp_ireturnI, wp_ireturnZ, wp_lreturn, wp_areturnO, wp_areturnA, wp_max, wp_min, wp_obj, wp_virt, wp_nil, ld_I0, ld_Is, ld_J0, ld_Js, ld_A0, ld_As, ha_0, ha_s, cx_put1, cx_put2, cx_dl, cx_tgt, true_and, and_true, Nat.reduceAdd, Nat.reduceSub, Int.reduceAdd, Int.reduceNeg, Int.reduceToNat, Int.reduceSub, Int.cast_ofNat_Int, List.take_succ_cons, List.take_zero, List.drop_succ_cons, List.drop_zero, List.take_nil, List.drop_nil, Option.toList_some, Option.toList_none, List.cons_append, List.nil_append, wp_spec, ne_eq, Nat.reduceEqDiff, not_false_eq_true, true_or, or_true, hp.1, hp.2, sc98, cx_rg]
    refine ⟨by decide, by omega, fun _ => jEnd _ _ _ _, fun q => ⟨by omega, fun _ => cw_room (by omega) (by omega) (jNext h (X.up hk)), ?_⟩⟩
    refine swf_d (fun _ => fw_156 hY X ⟨rfl, by omega, hN.2⟩ (by omega) (by omega) (by omega) jNext) ?_
    refine swf_d (fun _ => fw_219 hY X ⟨rfl, by omega, hN.2⟩ (by omega) (by omega) (by omega) jNext) ?_
    refine swf_d (fun _ => fw_242 hY X ⟨rfl, by omega, hN.2⟩ (by omega) (by omega) (by omega) jNext) ?_
    refine swf_d (fun _ => fw_265 hY X ⟨rfl, by omega, hN.2⟩ (by omega) (by omega) (by omega) jNext) ?_
    refine swf_d (fun _ => fw_298 hY X ⟨rfl, by omega, hN.2⟩ (by omega) (by omega) (by omega) jNext) ?_
    refine swf_d (fun _ => fw_321 hY X ⟨rfl, by omega, hN.2⟩ (by omega) (by omega) (by omega) jNext) ?_
    refine swf_d (fun _ => fw_354 hY X ⟨rfl, by omega, hN.2⟩ (by omega) (by omega) (by omega) jNext) ?_
    refine swf_d (fun _ => fw_387 hY X ⟨rfl, by omega, hN.2⟩ (by omega) (by omega) (by omega) jNext) ?_
    refine swf_d (fun _ => fw_420 hY X ⟨rfl, by omega, hN.2⟩ (by omega) (by omega) (by omega) jNext) ?_
    refine swf_d (fun _ => fw_453 hY X ⟨rfl, by omega, hN.2⟩ (by omega) (by omega) (by omega) jNext) ?_
    refine swf_d (fun _ => fw_476 hY X ⟨rfl, by omega, hN.2⟩ (by omega) (by omega) (by omega) jNext) ?_
    refine swf_d (fun _ => fw_499 hY X ⟨rfl, by omega, hN.2⟩ (by omega) (by omega) (by omega) jNext) ?_
    refine swf_d (fun _ => fw_542 hY X ⟨rfl, by omega, hN.2⟩ (by omega) (by omega) (by omega) jNext) ?_
    refine swf_d (fun _ => fw_575 hY X ⟨rfl, by omega, hN.2⟩ (by omega) (by omega) (by omega) jNext) ?_
    refine swf_d (fun _ => fw_638 hY X ⟨rfl, by omega, hN.2⟩ (by omega) (by omega) (by omega) jNext) ?_
    refine swf_d (fun _ => fw_671 hY X ⟨rfl, by omega, hN.2⟩ (by omega) (by omega) (by omega) jNext) ?_
    refine swf_d (fun _ => fw_704 hY X ⟨rfl, by omega, hN.2⟩ (by omega) (by omega) (by omega) jNext) ?_
    refine swf_d (fun _ => fw_757 hY X ⟨rfl, by omega, hN.2⟩ (by omega) (by omega) (by omega) jNext) ?_
    refine swf_d (fun _ => fw_810 hY X ⟨rfl, by omega, hN.2⟩ (by omega) (by omega) (by omega) jNext) ?_
    refine swf_d (fun _ => fw_863 hY X ⟨rfl, by omega, hN.2⟩ (by omega) (by omega) (by omega) jNext) ?_
    refine swf_d (fun _ => fw_886 hY X ⟨rfl, by omega, hN.2⟩ (by omega) (by omega) (by omega) jNext) ?_
    refine swf_d (fun _ => fw_909 hY X ⟨rfl, by omega, hN.2⟩ (by omega) (by omega) (by omega) jNext) ?_
    exact True.intro
end
/-! the law, from its start -/
section
variable {Y : cx_Y} {K : Option cx_V → cx_Q → Prop} {p : Nat} {N : Int} {h : cx_Q}
/-- ahead of the law nothing is there but the script -/
def S0 (p : Nat) (N : Int) (h : cx_Q) : Prop := p < h.1 ∧ cq_s h p = 98 ∧ cq_z h p = N ∧ ∀ a, a ≠ p → cq_s h a = 99
theorem rI_9 {s : Nat} {j v : Int} {Z : Int} (q : s = 98 ∨ s = 99) : rI Z s j v := by
  unfold rI
  rw [if_neg (by omega), if_neg (by omega), if_neg (by omega), if_neg (by omega), if_neg (by omega), if_neg (by omega), if_neg (by omega), if_neg (by omega), if_neg (by omega)]
  trivial
theorem rI_90 {j : Int} : rI 0 9 j 0 := by
  unfold rI
  rw [if_neg (by decide), if_neg (by decide), if_neg (by decide), if_neg (by decide), if_neg (by decide), if_neg (by decide), if_neg (by decide), if_pos (by decide)]
  repeat' (with_reducible refine itp ?_ ?_)
  all_goals (first | trivial | exact ⟨by decide, by decide⟩)
theorem zT_9 {n z : Int} {s : Nat} (q : s = 98 ∨ s = 99 ∨ s = 9) : zT n s z := by
  unfold zT
  rw [if_neg (by omega), if_neg (by omega), if_neg (by omega), if_neg (by omega), if_neg (by omega), if_neg (by omega), if_neg (by omega), if_neg (by omega), if_neg (by omega), if_neg (by omega), if_neg (by omega), if_neg (by omega), if_neg (by omega), if_neg (by omega), if_neg (by omega), if_neg (by omega), if_neg (by omega), if_neg (by omega), if_neg (by omega)]
  trivial
/-- the class's object alone -/
theorem S0.CI {n : Int} (S : S0 p N h) : CI h.1 n 0 0 E0 h [h.1] (cq_nw h 9 0) := by
  obtain ⟨s1, s2, s3, s4⟩ := S
  have so : ∀ a, a ≠ h.1 → cq_s (cq_nw h 9 0) a = 98 ∨ cq_s (cq_nw h 9 0) a = 99 := fun a ha => by
    rw [(nw_o ha).1]
    by_cases e : a = p
    · rw [e]; exact Or.inl s2
    · exact Or.inr (s4 a e)
  have sc : cq_s (cq_nw h 9 0) h.1 = 9 := nw_n.1
  have is : ∀ {a s : Nat}, s ≠ 98 → s ≠ 99 → s ≠ 9 → cq_s (cq_nw h 9 0) a ≠ s := fun {a s} h1 h2 h3 e => by
    by_cases q : a = h.1
    · rw [q, sc] at e; exact h3 e.symm
    · rcases so a q with w | w
      · rw [w] at e; exact h1 e.symm
      · rw [w] at e; exact h2 e.symm
  refine ⟨⟨Nat.le_succ _, fun a q => ?_⟩, fun a ha => ?_, fun a j b ho hj => ?_, fun a => ?_, fun a j => ?_, fun a b q => absurd q (is (by decide) (by decide) (by decide)), fun a b q => absurd q (is (by decide) (by decide) (by decide)), fun a ha j q => ?_, fun a _ q => absurd q (is (by decide) (by decide) (by decide)), fun a q => absurd q (is (by decide) (by decide) (by decide)), sc, ?_, fun b q => ?_, Int.le_refl _⟩
  · have lt : a = p := by
      by_cases e : a = p
      · exact e
      · rw [s4 a e] at q
        exact absurd rfl (isR_own q).2
    subst lt
    have := nw_o (h := h) (s := 9) (z := 0) (show a ≠ h.1 by omega)
    exact ⟨s1, this⟩
  · have ha : h.1 + 1 ≤ a := ha
    rw [(nw_o (by omega)).1]
    exact s4 a (by omega)
  · by_cases e : a = h.1
    · rw [e, nw_n.2.2.2.2] at hj
      cases hj
    · exfalso
      rcases so a e with w | w
      · rw [w] at ho; unfold own at ho; omega
      · rw [w] at ho; unfold own at ho; omega
  · by_cases e : a = h.1
    · rw [e, sc]; exact zT_9 (Or.inr (Or.inr rfl))
    · rcases so a e with w | w
      · rw [w]; exact zT_9 (Or.inl rfl)
      · rw [w]; exact zT_9 (Or.inr (Or.inl rfl))
  · by_cases e : a = h.1
    · rw [e, sc, nw_n.2.2.1]; exact rI_90
    · rcases so a e with w | w
      · rw [w]; exact rI_9 (Or.inl rfl)
      · rw [w]; exact rI_9 (Or.inr rfl)
  · exfalso
    have e : a ≠ h.1 := fun z => ha (by rw [z]; exact List.mem_cons_self)
    rcases so a e with w | w
    · rw [w] at q; unfold muA at q; omega
    · rw [w] at q; unfold muA at q; omega
  · rw [nw_n.2.2.1]
  · rw [nw_n.2.2.2.2] at q
    cases q
theorem zT_R {n z : Int} {s : Nat} (q : isR s) : zT n s z := by
  unfold isR at q
  unfold zT
  rw [if_neg (by omega), if_neg (by omega), if_neg (by omega), if_neg (by omega), if_neg (by omega), if_neg (by omega), if_neg (by omega), if_neg (by omega), if_neg (by omega), if_neg (by omega), if_neg (by omega), if_neg (by omega), if_neg (by omega), if_neg (by omega), if_neg (by omega), if_neg (by omega), if_neg (by omega), if_neg (by omega), if_neg (by omega)]
  trivial
theorem itn9 {p : Prop} [Decidable p] {a b : Nat} (ha : a ≠ 99) (hb : b ≠ 99) : (if p then a else b) ≠ 99 := by
  split
  · exact ha
  · exact hb
theorem ty99 {s : Nat} {j : Int} : tyA s j ≠ 99 := by
  unfold tyA
  repeat' (with_reducible refine itn9 ?_ ?_)
  all_goals decide
/-- the reference is made behind the class: the class's cells are as they were -/
theorem CI.aL {c x : Nat} {n L Z : Int} {E : Nat → Option Int} {h0 h1 g : cx_Q} (H : CI c n L Z E h0 [] h1) (hx : h1.1 = x) (S : rS g x) (A : aL x h1 g) : CI c n L Z E g [] g ∧ kz c h1 g := by
  obtain ⟨a1, a2, a3⟩ := A
  have lt : ∀ {a : Nat}, cq_s h1 a ≠ 99 → a < x := fun {a} q => by
    by_cases w : h1.1 ≤ a
    · exact absurd (H.al a w) q
    · omega
  -- cells of the class stand ahead of the reference
  have cs : ∀ a, ¬ isR (cq_s g a) → cq_s g a ≠ 99 → a < x := fun a q1 q2 => by
    by_cases w : a < x
    · exact w
    · by_cases w2 : g.1 ≤ a
      · exact absurd (a3 a w2) q2
      · exact absurd (S.isR (a := a) (by omega)) q1
  have ol : ∀ {a s : Nat}, cq_s g a = s → ¬ isR s → s ≠ 99 → a < x := fun q w1 w2 => cs _ (by rw [q]; exact w1) (by rw [q]; exact w2)
  have nr : ∀ {s : Nat}, s ≤ 9 → ¬ isR s ∧ s ≠ 99 := fun q => by unfold isR; omega
  have ow : ∀ {s : Nat}, own s → ¬ isR s ∧ s ≠ 99 := fun q => by unfold own at q; unfold isR; omega
  have kc : c < x := lt (by rw [H.cs]; decide)
  have kzz : kz c h1 g := ⟨fun a q => (a2 a (lt q)).1, fun a q => (a2 a (lt (by rw [q]; decide))).2.2.2.2, (a2 c kc).2.2.2.2⟩
  refine ⟨⟨⟨Nat.le_refl _, fun a q => ⟨?_, rfl, rfl, rfl, rfl, rfl⟩⟩, a3, fun a j b ho hj => ?_, fun a => ?_, fun a j => ?_, fun a b q e => ?_, fun a b q e => ?_, fun a ha j q => ?_, fun a ha q => ?_, fun a q => ?_, ?_, ?_, ?_, H.z0⟩, kzz⟩
  · by_cases z : g.1 ≤ a
    · exact absurd (a3 a z) (isR_own q).2
    · omega
  · have la := cs a (ow ho).1 (ow ho).2
    rw [(a2 a la).1] at ho ⊢
    rw [(a2 a la).2.2.2.2] at hj
    have hb := H.ty a j b ho hj
    have nb : cq_s h1 b ≠ 99 := by
      rw [hb]
      exact ty99
    rw [(a2 b (lt nb)).1]
    exact hb
  · by_cases q : a < x
    · rw [(a2 a q).1, (a2 a q).2.1]
      exact H.zz a
    · by_cases w2 : g.1 ≤ a
      · rw [a3 a w2]; exact zT_9 (Or.inr (Or.inl rfl))
      · exact zT_R (S.isR (a := a) (by omega))
  · by_cases q : a < x
    · rw [(a2 a q).1, (a2 a q).2.2.1]
      exact H.ri a j
    · by_cases w2 : g.1 ≤ a
      · rw [a3 a w2]; exact rI_9 (Or.inr rfl)
      · exact rI_R (S.isR (a := a) (by omega))
  · have la := ol q (nr (by decide)).1 (by decide)
    rw [(a2 a la).1] at q
    rw [(a2 a la).2.2.2.2] at e
    exact H.l6 a b q e
  · have la := ol q (nr (by decide)).1 (by decide)
    rw [(a2 a la).1] at q
    rw [(a2 a la).2.2.2.2] at e
    exact H.l8 a b q e
  · have la : a < x := by
      refine cs a (fun r => ?_) (fun r => ?_)
      · unfold muA at q; unfold isR at r; omega
      · rw [r] at q; unfold muA at q; omega
    rw [(a2 a la).1, (a2 a la).2.1] at q
    rw [(a2 a la).2.2.2.2]
    exact H.nn a ha j q
  · have la := ol q (nr (by decide)).1 (by decide)
    rw [(a2 a la).1] at q
    obtain ⟨r1, r2⟩ := H.rw a ha q
    have l1 : a + 1 < x := by
      have := H.ty a 0 (a + 1) (by rw [q]; exact own_9 (by decide)) r1
      exact lt (by rw [this, q]; decide)
    unfold rwT
    rw [(a2 a la).2.2.2.2, (a2 a la).2.2.1, (a2 (a + 1) l1).2.2.2.2]
    refine ⟨r1, fun i i1 i2 => ?_⟩
    obtain ⟨s, e1, e2⟩ := r2 i i1 i2
    have sa1 : cq_s h1 (a + 1) = 182 := by
      have := H.ty a 0 (a + 1) (by rw [q]; exact own_9 (by decide)) r1
      rw [this, q]; rfl
    have ss : cq_s h1 s = 7 := by
      have := H.ty (a + 1) i s (by rw [sa1]; unfold own; omega) e1
      rw [this, sa1]; rfl
    exact ⟨s, e1, by rw [(a2 s (lt (by rw [ss]; decide))).2.2.2.2]; exact e2⟩
  · have la := ol q (nr (by decide)).1 (by decide)
    rw [(a2 a la).1] at q
    rw [(a2 a la).2.2.2.2, (a2 a la).2.2.1]
    exact H.pe a q
  · rw [(a2 c kc).1]; exact H.cs
  · rw [(a2 c kc).2.2.1]; exact H.lk
  · unfold leT
    rw [(a2 c kc).2.2.2.2, (a2 c kc).2.2.1]
    intro b hb i i1 i2
    have sb : cq_s h1 b = 102 := by
      have := H.ty c 1 b (by rw [H.cs]; exact own_9 (by decide)) hb
      rw [this, H.cs]; rfl
    rw [(a2 b (lt (by rw [sb]; decide))).2.2.2.2]
    exact H.le b hb i i1 i2
end
