/-! the class, exactly: the TEXT is taken -/
section
variable {Y : cx_Y} {K : Option cx_V → cx_Q → Prop} {c : Nat} {n L Z : Int} {E : Nat → Option Int} {h0 : cx_Q} {h : cx_Q}
/-- what was read up to m -/
def rdW (h : cx_Q) (c rd e b : Nat) (key : Int64) (m : Int) : cx_Q := cq_rI (cq_sI h c 11 (cq_I h e 12)) rd (fun k => if 0 ≤ k ∧ k < m then vB (cq_I h b (cq_I h e 13 + k)) key k else cq_I h rd k)
theorem e_X10_takeReading (hY : cY Y) {e b op rd : Nat} (H : CI c n L Z E h0 [] h) (ee : cq_A h c 12 = some e) (eo : cq_A h c 13 = some op) (er : cq_A h c 10 = some rd) (eb : cq_A h e 0 = some b) (ht : 0 ≤ cq_I h e 12 ∧ cq_I h e 12 ≤ 40) (hz : 0 ≤ cq_I h e 13 ∧ cq_I h e 13 + cq_I h e 12 ≤ cq_z h b) (hK : ∀ h', CI c n L Z E h0 [] h' → h' = rdW h c rd e b (cq_J h op 7) (cq_I h e 12) → K none h') : cw Y mi_X10_takeReading K 0 [some (.inr (.inr (some c))), none] [] h 0 0 := by
  have hc := H.cs
  have se : cq_s h e = 0 := H.ta (j := 12) hc (own_9 (by decide)) ee
  have so : cq_s h op = 3 := H.ta (j := 13) hc (own_9 (by decide)) eo
  have srd : cq_s h rd = 104 := H.ta (j := 10) hc (own_9 (by decide)) er
  have sb : cq_s h b = 100 := H.ta (j := 0) se (own_9 (by decide)) eb
  have zb : 0 ≤ cq_z h b ∧ cq_z h b ≤ 100 := H.tz sb
  have zrd : cq_z h rd = 40 := H.tz srd
  have nce : ¬ e = c := ns se hc (by decide)
  have ncr : ¬ c = rd := ns hc srd (by decide)
  have ner : ¬ e = rd := ns se srd (by decide)
  have nbr : ¬ b = rd := ns sb srd (by decide)
  have nbc : ¬ b = c := ns sb hc (by decide)
  have loop : ∀ (r : Nat) (k : Int) (g : cx_Q), 0 ≤ k → k + r = cq_I h e 12 → CI c n L Z E h0 [] g → g = rdW h c rd e b (cq_J h op 7) k → cw Y mi_X10_takeReading K 13 [some (.inr (.inr (some c))), some (.inl k)] [] g 0 0 := by
    intro r
    induction r with
    | zero =>
      intro k g h1 h2 G eg
      have gc := G.cs
      have g11 : cq_I g c 11 = cq_I h e 12 := by
        rw [eg]
        unfold rdW
        rw [rr_I, if_neg ncr, mm_sI, if_pos ⟨rfl, rfl⟩]
      have ek : k = cq_I h e 12 := by omega
      rw [ek] at eg
      refine bx_X10_takeReading_13 hY (pf2_ok hY) ?_
      simp only [wp_iconst, wp_bipush, wp_sipush, wp_ldc, wp_ldc2_w, wp_lconst0, wp_lconst1, wp_aconst_null, wp_iload_0, wp_istore_0, wp_iload_1, wp_istore_1, wp_iload_2, wp_istore_2, wp_iload_3, wp_istore_3, wp_iload, wp_istore, wp_lload_0, wp_lstore_0, wp_lload_1, wp_lstore_1, wp_lload_2, wp_lstore_2, wp_lload_3, wp_lstore_3, wp_lload, wp_lstore, wp_aload_0, wp_astore_0, wp_aload_1, wp_astore_1, wp_aload_2, wp_astore_2, wp_aload_3, wp_astore_3, wp_aload, wp_astore, wp_iinc, wp_iadd, wp_isub, wp_imul, wp_iand, wp_ior, wp_ixor, wp_ishl, wp_ishr, wp_iushr, wp_irem, wp_ladd, wp_lsub, wp_lmul, wp_land, wp_lor, wp_lxor, wp_lshl, wp_lshr, wp_lushr, wp_lrem, wp_lcmp, wp_i2l, wp_l2i, wp_dupI, wp_dupA, wp_dup2J, wp_dup2IA, wp_popI, wp_popA, wp_pop2, wp_goto, wp_if_eq, wp_icmp_eq, wp_if_ne, wp_icmp_ne, wp_if_lt, wp_icmp_lt, wp_if_ge, wp_icmp_ge, wp_if_gt, wp_icmp_gt, wp_if_le, wp_icmp_le, wp_ifnull, wp_ifnonnull, wp_acmp_eq, wp_acmp_ne, wp_tableswitch, wp_get0, wp_put0, wp_get1, wp_put1, wp_get2, wp_put2, wp_get3, wp_put3, wp_new, wp_newarray, wp_anewarray, wp_alen, wp_iaload, wp_laload, wp_baload, wp_aaload, wp_iastore, wp_lastore, wp_bastore, wp_aastore, wp_return, wp_ireturnI, wp_ireturnZ, wp_lreturn, wp_areturnO, wp_areturnA, wp_max, wp_min, wp_obj, wp_virt, wp_nil, ld_I0, ld_Is, ld_J0, ld_Js, ld_A0, ld_As, ha_0, ha_s, cx_put1, cx_put2, cx_dl, cx_tgt, true_and, and_true, Nat.reduceAdd, Nat.reduceSub, Int.reduceAdd, Int.reduceNeg, Int.reduceToNat, Int.reduceSub, Int.cast_ofNat_Int, List.take_succ_cons, List.take_zero, List.drop_succ_cons, List.drop_zero, List.take_nil, List.drop_nil, Option.toList_some, Option.toList_none, List.cons_append, List.nil_append, wp_spec, ne_eq, Nat.reduceEqDiff, not_false_eq_true, true_or, or_true, gc, g11]
      refine ⟨fun _ => ?_, fun q => absurd q (by omega)⟩
      refine bx_X10_takeReading_53 hY (pf2_ok hY) ?_
      simp only [wp_iconst, wp_bipush, wp_sipush, wp_ldc, wp_ldc2_w, wp_lconst0, wp_lconst1, wp_aconst_null, wp_iload_0, wp_istore_0, wp_iload_1, wp_istore_1, wp_iload_2, wp_istore_2, wp_iload_3, wp_istore_3, wp_iload, wp_istore, wp_lload_0, wp_lstore_0, wp_lload_1, wp_lstore_1, wp_lload_2, wp_lstore_2, wp_lload_3, wp_lstore_3, wp_lload, wp_lstore, wp_aload_0, wp_astore_0, wp_aload_1, wp_astore_1, wp_aload_2, wp_astore_2, wp_aload_3, wp_astore_3, wp_aload, wp_astore, wp_iinc, wp_iadd, wp_isub, wp_imul, wp_iand, wp_ior, wp_ixor, wp_ishl, wp_ishr, wp_iushr, wp_irem, wp_ladd, wp_lsub, wp_lmul, wp_land, wp_lor, wp_lxor, wp_lshl, wp_lshr, wp_lushr, wp_lrem, wp_lcmp, wp_i2l, wp_l2i, wp_dupI, wp_dupA, wp_dup2J, wp_dup2IA, wp_popI, wp_popA, wp_pop2, wp_goto, wp_if_eq, wp_icmp_eq, wp_if_ne, wp_icmp_ne, wp_if_lt, wp_icmp_lt, wp_if_ge, wp_icmp_ge, wp_if_gt, wp_icmp_gt, wp_if_le, wp_icmp_le, wp_ifnull, wp_ifnonnull, wp_acmp_eq, wp_acmp_ne, wp_tableswitch, wp_get0, wp_put0, wp_get1, wp_put1, wp_get2, wp_put2, wp_get3, wp_put3, wp_new, wp_newarray, wp_anewarray, wp_alen, wp_iaload, wp_laload, wp_baload, wp_aaload, wp_iastore, wp_lastore, wp_bastore, wp_aastore, wp_return, wp_ireturnI, wp_ireturnZ, wp_lreturn, wp_areturnO, wp_areturnA, wp_max, wp_min, wp_obj, wp_virt, wp_nil, ld_I0, ld_Is, ld_J0, ld_Js, ld_A0, ld_As, ha_0, ha_s, cx_put1, cx_put2, cx_dl, cx_tgt, true_and, and_true, Nat.reduceAdd, Nat.reduceSub, Int.reduceAdd, Int.reduceNeg, Int.reduceToNat, Int.reduceSub, Int.cast_ofNat_Int, List.take_succ_cons, List.take_zero, List.drop_succ_cons, List.drop_zero, List.take_nil, List.drop_nil, Option.toList_some, Option.toList_none, List.cons_append, List.nil_append, wp_spec, ne_eq, Nat.reduceEqDiff, not_false_eq_true, true_or, or_true]
      exact hK g G eg
    | succ r ih =>
      intro k g h1 h2 G eg
      have gc := G.cs
      have gA : cq_A g = cq_A h := by rw [eg]; exact Eq.trans rfl rfl
      have gs : cq_s g = cq_s h := by rw [eg]; exact Eq.trans rfl rfl
      have gz : cq_z g = cq_z h := by rw [eg]; exact Eq.trans rfl rfl
      have gJ : cq_J g = cq_J h := by rw [eg]; exact Eq.trans rfl rfl
      have g11 : cq_I g c 11 = cq_I h e 12 := by
        rw [eg]
        unfold rdW
        rw [rr_I, if_neg ncr, mm_sI, if_pos ⟨rfl, rfl⟩]
      have gIe : cq_I g e = cq_I h e := by
        rw [eg]
        unfold rdW
        funext j
        rw [rr_I, if_neg ner, mm_sI, if_neg (fun q => nce q.1)]
      have gIb : cq_I g b = cq_I h b := by
        rw [eg]
        unfold rdW
        funext j
        rw [rr_I, if_neg nbr, mm_sI, if_neg (fun q => nbc q.1)]
      have gse : cq_s g e = 0 := by rw [gs]; exact se
      have gso : cq_s g op = 3 := by rw [gs]; exact so
      have gsr : cq_s g rd = 104 := by rw [gs]; exact srd
      have gzr : cq_z g rd = 40 := by rw [gz]; exact zrd
      have vb := H.i100 (j := cq_I h e 13 + k) sb
      have vr : 0 ≤ g_veil (cq_J h op 7) k ∧ g_veil (cq_J h op 7) k ≤ 255 := by rw [veil_n]; omega
      refine bx_X10_takeReading_13 hY (pf2_ok hY) ?_
      simp only [wp_iconst, wp_bipush, wp_sipush, wp_ldc, wp_ldc2_w, wp_lconst0, wp_lconst1, wp_aconst_null, wp_iload_0, wp_istore_0, wp_iload_1, wp_istore_1, wp_iload_2, wp_istore_2, wp_iload_3, wp_istore_3, wp_iload, wp_istore, wp_lload_0, wp_lstore_0, wp_lload_1, wp_lstore_1, wp_lload_2, wp_lstore_2, wp_lload_3, wp_lstore_3, wp_lload, wp_lstore, wp_aload_0, wp_astore_0, wp_aload_1, wp_astore_1, wp_aload_2, wp_astore_2, wp_aload_3, wp_astore_3, wp_aload, wp_astore, wp_iinc, wp_iadd, wp_isub, wp_imul, wp_iand, wp_ior, wp_ixor, wp_ishl, wp_ishr, wp_iushr, wp_irem, wp_ladd, wp_lsub, wp_lmul, wp_land, wp_lor, wp_lxor, wp_lshl, wp_lshr, wp_lushr, wp_lrem, wp_lcmp, wp_i2l, wp_l2i, wp_dupI, wp_dupA, wp_dup2J, wp_dup2IA, wp_popI, wp_popA, wp_pop2, wp_goto, wp_if_eq, wp_icmp_eq, wp_if_ne, wp_icmp_ne, wp_if_lt, wp_icmp_lt, wp_if_ge, wp_icmp_ge, wp_if_gt, wp_icmp_gt, wp_if_le, wp_icmp_le, wp_ifnull, wp_ifnonnull, wp_acmp_eq, wp_acmp_ne, wp_tableswitch, wp_get0, wp_put0, wp_get1, wp_put1, wp_get2, wp_put2, wp_get3, wp_put3, wp_new, wp_newarray, wp_anewarray, wp_alen, wp_iaload, wp_laload, wp_baload, wp_aaload, wp_iastore, wp_lastore, wp_bastore, wp_aastore, wp_return, wp_ireturnI, wp_ireturnZ, wp_lreturn, wp_areturnO, wp_areturnA, wp_max, wp_min, wp_obj, wp_virt, wp_nil, ld_I0, ld_Is, ld_J0, ld_Js, ld_A0, ld_As, ha_0, ha_s, cx_put1, cx_put2, cx_dl, cx_tgt, true_and, and_true, Nat.reduceAdd, Nat.reduceSub, Int.reduceAdd, Int.reduceNeg, Int.reduceToNat, Int.reduceSub, Int.cast_ofNat_Int, List.take_succ_cons, List.take_zero, List.drop_succ_cons, List.drop_zero, List.take_nil, List.drop_nil, Option.toList_some, Option.toList_none, List.cons_append, List.nil_append, wp_spec, ne_eq, Nat.reduceEqDiff, not_false_eq_true, true_or, or_true, gc, gA, er, ee, g11]
      refine ⟨fun q => absurd q (by omega), fun q => ?_⟩
      refine cl_X0_textByte (Nat.le_of_ble_eq_true rfl) gse (Nat.le_refl _) (Nat.le_refl _) (e_X0_textByte hY G gse (by rw [gA]; exact eb) (by omega) (by rw [gIe, gz]; omega) ?_)
      refine bx_X10_takeReading_34 hY (pf2_ok hY) ?_
      simp only [wp_iconst, wp_bipush, wp_sipush, wp_ldc, wp_ldc2_w, wp_lconst0, wp_lconst1, wp_aconst_null, wp_iload_0, wp_istore_0, wp_iload_1, wp_istore_1, wp_iload_2, wp_istore_2, wp_iload_3, wp_istore_3, wp_iload, wp_istore, wp_lload_0, wp_lstore_0, wp_lload_1, wp_lstore_1, wp_lload_2, wp_lstore_2, wp_lload_3, wp_lstore_3, wp_lload, wp_lstore, wp_aload_0, wp_astore_0, wp_aload_1, wp_astore_1, wp_aload_2, wp_astore_2, wp_aload_3, wp_astore_3, wp_aload, wp_astore, wp_iinc, wp_iadd, wp_isub, wp_imul, wp_iand, wp_ior, wp_ixor, wp_ishl, wp_ishr, wp_iushr, wp_irem, wp_ladd, wp_lsub, wp_lmul, wp_land, wp_lor, wp_lxor, wp_lshl, wp_lshr, wp_lushr, wp_lrem, wp_lcmp, wp_i2l, wp_l2i, wp_dupI, wp_dupA, wp_dup2J, wp_dup2IA, wp_popI, wp_popA, wp_pop2, wp_goto, wp_if_eq, wp_icmp_eq, wp_if_ne, wp_icmp_ne, wp_if_lt, wp_icmp_lt, wp_if_ge, wp_icmp_ge, wp_if_gt, wp_icmp_gt, wp_if_le, wp_icmp_le, wp_ifnull, wp_ifnonnull, wp_acmp_eq, wp_acmp_ne, wp_tableswitch, wp_get0, wp_put0, wp_get1, wp_put1, wp_get2, wp_put2, wp_get3, wp_put3, wp_new, wp_newarray, wp_anewarray, wp_alen, wp_iaload, wp_laload, wp_baload, wp_aaload, wp_iastore, wp_lastore, wp_bastore, wp_aastore, wp_return, wp_ireturnI, wp_ireturnZ, wp_lreturn, wp_areturnO, wp_areturnA, wp_max, wp_min, wp_obj, wp_virt, wp_nil, ld_I0, ld_Is, ld_J0, ld_Js, ld_A0, ld_As, ha_0, ha_s, cx_put1, cx_put2, cx_dl, cx_tgt, true_and, and_true, Nat.reduceAdd, Nat.reduceSub, Int.reduceAdd, Int.reduceNeg, Int.reduceToNat, Int.reduceSub, Int.cast_ofNat_Int, List.take_succ_cons, List.take_zero, List.drop_succ_cons, List.drop_zero, List.take_nil, List.drop_nil, Option.toList_some, Option.toList_none, List.cons_append, List.nil_append, wp_spec, ne_eq, Nat.reduceEqDiff, not_false_eq_true, true_or, or_true, wf_X3_mix, wf_X3_key, wf_X3_times, wf_X3_timesModuloQ, wf_X3_power, wf_X3_rest, wf_X3_secretOf, wf_X3_sealSum, wf_X3_sum, wf_X3_letterKey, wf_X3_nextOf, wf_X3_isOpen, wf_X3_veil, wf_X3_sealIsRight, cx_sz, cx_c2, cond_true, cond_false, Nat.reduceLeDiff, gc, gA, eo, gso, gsr, gzr, gJ, gIe, gIb, ra_104, cx_rg]
      have G2 := G.sI (a := rd) (j := k) (v := vB (cq_I h b (cq_I h e 13 + k)) (cq_J h op 7) k) gsr (own_m (by decide)) True.intro rfl
      (repeat' (with_reducible (first | refine And.intro ?_ ?_ | intro _)))
      all_goals (try omega)
      refine ih (k + 1) _ (by omega) (by omega) G2 ?_
      rw [eg]
      unfold rdW
      refine qext rfl rfl rfl (fun q r' => ?_) (fun q r => rfl) (fun q r => rfl)
      simp only [mm_sI, rr_I]
      by_cases w : q = rd
      · rw [if_pos w, if_pos w]
        by_cases w2 : r' = k
        · rw [if_pos ⟨w, w2⟩, if_pos (by omega), w2]
          rfl
        · rw [if_neg (fun z => w2 z.2)]
          by_cases w3 : 0 ≤ r' ∧ r' < k
          · rw [if_pos w3, if_pos (by omega)]
          · rw [if_neg w3, if_neg (by omega)]
      · rw [if_neg (fun z => w z.1), if_neg w, if_neg w]
  have G0 := H.sI (a := c) (j := 11) (v := cq_I h e 12) hc (own_9 (by decide)) ⟨by omega, by omega⟩ rfl
  refine bx_X10_takeReading_0 hY (pf2_ok hY) ?_
  simp only [wp_iconst, wp_bipush, wp_sipush, wp_ldc, wp_ldc2_w, wp_lconst0, wp_lconst1, wp_aconst_null, wp_iload_0, wp_istore_0, wp_iload_1, wp_istore_1, wp_iload_2, wp_istore_2, wp_iload_3, wp_istore_3, wp_iload, wp_istore, wp_lload_0, wp_lstore_0, wp_lload_1, wp_lstore_1, wp_lload_2, wp_lstore_2, wp_lload_3, wp_lstore_3, wp_lload, wp_lstore, wp_aload_0, wp_astore_0, wp_aload_1, wp_astore_1, wp_aload_2, wp_astore_2, wp_aload_3, wp_astore_3, wp_aload, wp_astore, wp_iinc, wp_iadd, wp_isub, wp_imul, wp_iand, wp_ior, wp_ixor, wp_ishl, wp_ishr, wp_iushr, wp_irem, wp_ladd, wp_lsub, wp_lmul, wp_land, wp_lor, wp_lxor, wp_lshl, wp_lshr, wp_lushr, wp_lrem, wp_lcmp, wp_i2l, wp_l2i, wp_dupI, wp_dupA, wp_dup2J, wp_dup2IA, wp_popI, wp_popA, wp_pop2, wp_goto, wp_if_eq, wp_icmp_eq, wp_if_ne, wp_icmp_ne, wp_if_lt, wp_icmp_lt, wp_if_ge, wp_icmp_ge, wp_if_gt, wp_icmp_gt, wp_if_le, wp_icmp_le, wp_ifnull, wp_ifnonnull, wp_acmp_eq, wp_acmp_ne, wp_tableswitch, wp_get0, wp_put0, wp_get1, wp_put1, wp_get2, wp_put2, wp_get3, wp_put3, wp_new, wp_newarray, wp_anewarray, wp_alen, wp_iaload, wp_laload, wp_baload, wp_aaload, wp_iastore, wp_lastore, wp_bastore, wp_aastore, wp_return, wp_ireturnI, wp_ireturnZ, wp_lreturn, wp_areturnO, wp_areturnA, wp_max, wp_min, wp_obj, wp_virt, wp_nil, ld_I0, ld_Is, ld_J0, ld_Js, ld_A0, ld_As, ha_0, ha_s, cx_put1, cx_put2, cx_dl, cx_tgt, true_and, and_true, Nat.reduceAdd, Nat.reduceSub, Int.reduceAdd, Int.reduceNeg, Int.reduceToNat, Int.reduceSub, Int.cast_ofNat_Int, List.take_succ_cons, List.take_zero, List.drop_succ_cons, List.drop_zero, List.take_nil, List.drop_nil, Option.toList_some, Option.toList_none, List.cons_append, List.nil_append, wp_spec, ne_eq, Nat.reduceEqDiff, not_false_eq_true, true_or, or_true, hc, ee, se, mm_sI, mm_sJ, mm_sA, mm_IJ, mm_IA, mm_JI, mm_JA, mm_AI, mm_AJ, mm_ssI, mm_ssJ, mm_ssA, mm_zI, mm_zJ, mm_zA, mm_nI, mm_nJ, mm_nA]
  refine loop (cq_I h e 12).toNat 0 _ (by omega) (by omega) G0 ?_
  unfold rdW
  refine qext rfl rfl rfl (fun q r' => ?_) (fun q r => rfl) (fun q r => rfl)
  rw [rr_I]
  by_cases w : q = rd
  · rw [if_pos w, if_neg (by omega), w, mm_sI, if_neg (fun z => ncr z.1.symm)]
  · rw [if_neg w]
end
