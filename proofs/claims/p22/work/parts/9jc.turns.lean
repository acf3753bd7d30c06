/-! SECRETS that are given, turns that are made -/
def S7 (o : Option Nat) (m : Nat × Int × Bool × Int) : Prop := ∃ a, o = some a ∧ m = (a, 3, false, 0)
/-- what turnOf gives: the turn that follows a with pairs p; made, if there was none -/
def toT (h : cx_Q) (a p t : Nat) (h' : cx_Q) : Prop := cq_s h' t = 8 ∧ cq_A h' t 0 = some a ∧ ((h' = h ∧ ∃ r, cq_A h t 1 = some r ∧ mtR h r p) ∨ (t = h.1 ∧ cq_A h' t 1 = some p ∧ ∀ d, cq_s h' d = 8 → d = t ∨ cq_s h d = 8))
section
variable {Y : cx_Y} {K : Option cx_V → cx_Q → Prop} {c : Nat} {n L Z : Int} {E : Nat → Option Int} {h0 : cx_Q} {X : List Nat} {h : cx_Q}
theorem e_X7_give (hY : cY Y) {o : Option Nat} (H : CI c n L Z E h0 X h) (hE : E c ≠ none) (ho : ∀ a, o = some a → cq_s h a = 6) (hK : ∀ h', CI c n L Z E h0 X h' → ev h h' → LM (S7 o) h h' → K none h') : cw Y mi_X7_give K 0 [some (.inr (.inr o))] [] h 0 0 := by
  have j9 : ∀ g, K none g → cw Y mi_X7_give K 9 [some (.inr (.inr o))] [] g 0 0 := by
    intro g q
    refine bx_X7_give_9 hY (pf2_ok hY) ?_
    simp only [wp_iconst, wp_bipush, wp_sipush, wp_ldc, wp_ldc2_w, wp_lconst0, wp_lconst1, wp_aconst_null, wp_iload_0, wp_istore_0, wp_iload_1, wp_istore_1, wp_iload_2, wp_istore_2, wp_iload_3, wp_istore_3, wp_iload, wp_istore, wp_lload_0, wp_lstore_0, wp_lload_1, wp_lstore_1, wp_lload_2, wp_lstore_2, wp_lload_3, wp_lstore_3, wp_lload, wp_lstore, wp_aload_0, wp_astore_0, wp_aload_1, wp_astore_1, wp_aload_2, wp_astore_2, wp_aload_3, wp_astore_3, wp_aload, wp_astore, wp_iinc, wp_iadd, wp_isub, wp_imul, wp_iand, wp_ior, wp_ixor, wp_ishl, wp_ishr, wp_iushr, wp_irem, wp_ladd, wp_lsub, wp_lmul, wp_land, wp_lor, wp_lxor, wp_lshl, wp_lshr, wp_lushr, wp_lrem, wp_lcmp, wp_i2l, wp_l2i, wp_dupI, wp_dupA, wp_dup2J, wp_dup2IA, wp_popI, wp_popA, wp_pop2, wp_goto, wp_if_eq, wp_icmp_eq, wp_if_ne, wp_icmp_ne, wp_if_lt, wp_icmp_lt, wp_if_ge, wp_icmp_ge, wp_if_gt, wp_icmp_gt, wp_if_le, wp_icmp_le, wp_ifnull, wp_ifnonnull, wp_acmp_eq, wp_acmp_ne, wp_tableswitch, wp_get0, wp_put0, wp_get1, wp_put1, wp_get2, wp_put2, wp_get3, wp_put3, wp_new, wp_newarray, wp_anewarray, wp_alen, wp_iaload, wp_laload, wp_baload, wp_aaload, wp_iastore, wp_lastore, wp_bastore, wp_aastore, wp_return, wp_ireturnI, wp_ireturnZ, wp_lreturn, wp_areturnO, wp_areturnA, wp_max, wp_min, wp_obj, wp_virt, wp_nil, ld_I0, ld_Is, ld_J0, ld_Js, ld_A0, ld_As, ha_0, ha_s, cx_put1, cx_put2, cx_dl, cx_tgt, true_and, and_true, Nat.reduceAdd, Nat.reduceSub, Int.reduceAdd, Int.reduceNeg, Int.reduceToNat, Int.reduceSub, Int.cast_ofNat_Int, List.take_succ_cons, List.take_zero, List.drop_succ_cons, List.drop_zero, List.take_nil, List.drop_nil, Option.toList_some, Option.toList_none, List.cons_append, List.nil_append, wp_spec, ne_eq, Nat.reduceEqDiff, not_false_eq_true, true_or, or_true]
    exact q
  cases o with
  | none =>
    refine bx_X7_give_0 hY (pf2_ok hY) ?_
    simp only [wp_iconst, wp_bipush, wp_sipush, wp_ldc, wp_ldc2_w, wp_lconst0, wp_lconst1, wp_aconst_null, wp_iload_0, wp_istore_0, wp_iload_1, wp_istore_1, wp_iload_2, wp_istore_2, wp_iload_3, wp_istore_3, wp_iload, wp_istore, wp_lload_0, wp_lstore_0, wp_lload_1, wp_lstore_1, wp_lload_2, wp_lstore_2, wp_lload_3, wp_lstore_3, wp_lload, wp_lstore, wp_aload_0, wp_astore_0, wp_aload_1, wp_astore_1, wp_aload_2, wp_astore_2, wp_aload_3, wp_astore_3, wp_aload, wp_astore, wp_iinc, wp_iadd, wp_isub, wp_imul, wp_iand, wp_ior, wp_ixor, wp_ishl, wp_ishr, wp_iushr, wp_irem, wp_ladd, wp_lsub, wp_lmul, wp_land, wp_lor, wp_lxor, wp_lshl, wp_lshr, wp_lushr, wp_lrem, wp_lcmp, wp_i2l, wp_l2i, wp_dupI, wp_dupA, wp_dup2J, wp_dup2IA, wp_popI, wp_popA, wp_pop2, wp_goto, wp_if_eq, wp_icmp_eq, wp_if_ne, wp_icmp_ne, wp_if_lt, wp_icmp_lt, wp_if_ge, wp_icmp_ge, wp_if_gt, wp_icmp_gt, wp_if_le, wp_icmp_le, wp_ifnull, wp_ifnonnull, wp_acmp_eq, wp_acmp_ne, wp_tableswitch, wp_get0, wp_put0, wp_get1, wp_put1, wp_get2, wp_put2, wp_get3, wp_put3, wp_new, wp_newarray, wp_anewarray, wp_alen, wp_iaload, wp_laload, wp_baload, wp_aaload, wp_iastore, wp_lastore, wp_bastore, wp_aastore, wp_return, wp_ireturnI, wp_ireturnZ, wp_lreturn, wp_areturnO, wp_areturnA, wp_max, wp_min, wp_obj, wp_virt, wp_nil, ld_I0, ld_Is, ld_J0, ld_Js, ld_A0, ld_As, ha_0, ha_s, cx_put1, cx_put2, cx_dl, cx_tgt, true_and, and_true, Nat.reduceAdd, Nat.reduceSub, Int.reduceAdd, Int.reduceNeg, Int.reduceToNat, Int.reduceSub, Int.cast_ofNat_Int, List.take_succ_cons, List.take_zero, List.drop_succ_cons, List.drop_zero, List.take_nil, List.drop_nil, Option.toList_some, Option.toList_none, List.cons_append, List.nil_append, wp_spec, ne_eq, Nat.reduceEqDiff, not_false_eq_true, true_or, or_true]
    exact ⟨fun _ => j9 _ (hK _ H ev.refl (LM.no (fun m w => by obtain ⟨a, q, _⟩ := w; cases q))), fun i q => (nomatch q)⟩
  | some a =>
    have hs := ho a rfl
    refine bx_X7_give_0 hY (pf2_ok hY) ?_
    simp only [wp_iconst, wp_bipush, wp_sipush, wp_ldc, wp_ldc2_w, wp_lconst0, wp_lconst1, wp_aconst_null, wp_iload_0, wp_istore_0, wp_iload_1, wp_istore_1, wp_iload_2, wp_istore_2, wp_iload_3, wp_istore_3, wp_iload, wp_istore, wp_lload_0, wp_lstore_0, wp_lload_1, wp_lstore_1, wp_lload_2, wp_lstore_2, wp_lload_3, wp_lstore_3, wp_lload, wp_lstore, wp_aload_0, wp_astore_0, wp_aload_1, wp_astore_1, wp_aload_2, wp_astore_2, wp_aload_3, wp_astore_3, wp_aload, wp_astore, wp_iinc, wp_iadd, wp_isub, wp_imul, wp_iand, wp_ior, wp_ixor, wp_ishl, wp_ishr, wp_iushr, wp_irem, wp_ladd, wp_lsub, wp_lmul, wp_land, wp_lor, wp_lxor, wp_lshl, wp_lshr, wp_lushr, wp_lrem, wp_lcmp, wp_i2l, wp_l2i, wp_dupI, wp_dupA, wp_dup2J, wp_dup2IA, wp_popI, wp_popA, wp_pop2, wp_goto, wp_if_eq, wp_icmp_eq, wp_if_ne, wp_icmp_ne, wp_if_lt, wp_icmp_lt, wp_if_ge, wp_icmp_ge, wp_if_gt, wp_icmp_gt, wp_if_le, wp_icmp_le, wp_ifnull, wp_ifnonnull, wp_acmp_eq, wp_acmp_ne, wp_tableswitch, wp_get0, wp_put0, wp_get1, wp_put1, wp_get2, wp_put2, wp_get3, wp_put3, wp_new, wp_newarray, wp_anewarray, wp_alen, wp_iaload, wp_laload, wp_baload, wp_aaload, wp_iastore, wp_lastore, wp_bastore, wp_aastore, wp_return, wp_ireturnI, wp_ireturnZ, wp_lreturn, wp_areturnO, wp_areturnA, wp_max, wp_min, wp_obj, wp_virt, wp_nil, ld_I0, ld_Is, ld_J0, ld_Js, ld_A0, ld_As, ha_0, ha_s, cx_put1, cx_put2, cx_dl, cx_tgt, true_and, and_true, Nat.reduceAdd, Nat.reduceSub, Int.reduceAdd, Int.reduceNeg, Int.reduceToNat, Int.reduceSub, Int.cast_ofNat_Int, List.take_succ_cons, List.take_zero, List.drop_succ_cons, List.drop_zero, List.take_nil, List.drop_nil, Option.toList_some, Option.toList_none, List.cons_append, List.nil_append, wp_spec, ne_eq, Nat.reduceEqDiff, not_false_eq_true, true_or, or_true, hs]
    refine ⟨fun q => (nomatch q), fun i q => ?_⟩
    (repeat' (with_reducible (first | refine And.intro ?_ ?_ | intro _)))
    all_goals (try omega)
    exact j9 _ (hK _ (H.sL hE hs (Or.inl rfl)) (ev.refl.tI hs rfl) (LM.one (m0 := (a, 3, false, 0)) (fun m => ⟨fun w => by obtain ⟨a', q, w2⟩ := w; cases q; exact w2, fun w => ⟨a, rfl, w⟩⟩)))
theorem e_X9_giveRoot (hY : cY Y) {a : Nat} (H : CI c n L Z E h0 X h) (hE : E c ≠ none) (hs : cq_s h a = 8) (hK : ∀ h', CI c n L Z E h0 X h' → ev h h' → LM (fun m => m = (a, 4, false, 0)) h h' → K none h') : cw Y mi_X9_giveRoot K 0 [some (.inr (.inr (some a)))] [] h 0 0 := by
  refine bx_X9_giveRoot_0 hY (pf2_ok hY) ?_
  simp only [wp_iconst, wp_bipush, wp_sipush, wp_ldc, wp_ldc2_w, wp_lconst0, wp_lconst1, wp_aconst_null, wp_iload_0, wp_istore_0, wp_iload_1, wp_istore_1, wp_iload_2, wp_istore_2, wp_iload_3, wp_istore_3, wp_iload, wp_istore, wp_lload_0, wp_lstore_0, wp_lload_1, wp_lstore_1, wp_lload_2, wp_lstore_2, wp_lload_3, wp_lstore_3, wp_lload, wp_lstore, wp_aload_0, wp_astore_0, wp_aload_1, wp_astore_1, wp_aload_2, wp_astore_2, wp_aload_3, wp_astore_3, wp_aload, wp_astore, wp_iinc, wp_iadd, wp_isub, wp_imul, wp_iand, wp_ior, wp_ixor, wp_ishl, wp_ishr, wp_iushr, wp_irem, wp_ladd, wp_lsub, wp_lmul, wp_land, wp_lor, wp_lxor, wp_lshl, wp_lshr, wp_lushr, wp_lrem, wp_lcmp, wp_i2l, wp_l2i, wp_dupI, wp_dupA, wp_dup2J, wp_dup2IA, wp_popI, wp_popA, wp_pop2, wp_goto, wp_if_eq, wp_icmp_eq, wp_if_ne, wp_icmp_ne, wp_if_lt, wp_icmp_lt, wp_if_ge, wp_icmp_ge, wp_if_gt, wp_icmp_gt, wp_if_le, wp_icmp_le, wp_ifnull, wp_ifnonnull, wp_acmp_eq, wp_acmp_ne, wp_tableswitch, wp_get0, wp_put0, wp_get1, wp_put1, wp_get2, wp_put2, wp_get3, wp_put3, wp_new, wp_newarray, wp_anewarray, wp_alen, wp_iaload, wp_laload, wp_baload, wp_aaload, wp_iastore, wp_lastore, wp_bastore, wp_aastore, wp_return, wp_ireturnI, wp_ireturnZ, wp_lreturn, wp_areturnO, wp_areturnA, wp_max, wp_min, wp_obj, wp_virt, wp_nil, ld_I0, ld_Is, ld_J0, ld_Js, ld_A0, ld_As, ha_0, ha_s, cx_put1, cx_put2, cx_dl, cx_tgt, true_and, and_true, Nat.reduceAdd, Nat.reduceSub, Int.reduceAdd, Int.reduceNeg, Int.reduceToNat, Int.reduceSub, Int.cast_ofNat_Int, List.take_succ_cons, List.take_zero, List.drop_succ_cons, List.drop_zero, List.take_nil, List.drop_nil, Option.toList_some, Option.toList_none, List.cons_append, List.nil_append, wp_spec, ne_eq, Nat.reduceEqDiff, not_false_eq_true, true_or, or_true, hs]
  (repeat' (with_reducible (first | refine And.intro ?_ ?_ | intro _)))
  all_goals (try omega)
  exact hK _ (H.sL hE hs (Or.inr (Or.inl rfl))) (ev.refl.tI hs rfl) (LM.one (m0 := (a, 4, false, 0)) (fun m => Iff.rfl))
theorem e_X9_giveChain (hY : cY Y) {a : Nat} {m : Int} (H : CI c n L Z E h0 X h) (hE : E c ≠ none) (hs : cq_s h a = 8) (hK : ∀ h', CI c n L Z E h0 X h' → ev h h' → LM (fun m' => m' = (a, 5, true, m)) h h' → K none h') : cw Y mi_X9_giveChain K 0 [some (.inr (.inr (some a))), some (.inl m)] [] h 0 0 := by
  refine bx_X9_giveChain_0 hY (pf2_ok hY) ?_
  simp only [wp_iconst, wp_bipush, wp_sipush, wp_ldc, wp_ldc2_w, wp_lconst0, wp_lconst1, wp_aconst_null, wp_iload_0, wp_istore_0, wp_iload_1, wp_istore_1, wp_iload_2, wp_istore_2, wp_iload_3, wp_istore_3, wp_iload, wp_istore, wp_lload_0, wp_lstore_0, wp_lload_1, wp_lstore_1, wp_lload_2, wp_lstore_2, wp_lload_3, wp_lstore_3, wp_lload, wp_lstore, wp_aload_0, wp_astore_0, wp_aload_1, wp_astore_1, wp_aload_2, wp_astore_2, wp_aload_3, wp_astore_3, wp_aload, wp_astore, wp_iinc, wp_iadd, wp_isub, wp_imul, wp_iand, wp_ior, wp_ixor, wp_ishl, wp_ishr, wp_iushr, wp_irem, wp_ladd, wp_lsub, wp_lmul, wp_land, wp_lor, wp_lxor, wp_lshl, wp_lshr, wp_lushr, wp_lrem, wp_lcmp, wp_i2l, wp_l2i, wp_dupI, wp_dupA, wp_dup2J, wp_dup2IA, wp_popI, wp_popA, wp_pop2, wp_goto, wp_if_eq, wp_icmp_eq, wp_if_ne, wp_icmp_ne, wp_if_lt, wp_icmp_lt, wp_if_ge, wp_icmp_ge, wp_if_gt, wp_icmp_gt, wp_if_le, wp_icmp_le, wp_ifnull, wp_ifnonnull, wp_acmp_eq, wp_acmp_ne, wp_tableswitch, wp_get0, wp_put0, wp_get1, wp_put1, wp_get2, wp_put2, wp_get3, wp_put3, wp_new, wp_newarray, wp_anewarray, wp_alen, wp_iaload, wp_laload, wp_baload, wp_aaload, wp_iastore, wp_lastore, wp_bastore, wp_aastore, wp_return, wp_ireturnI, wp_ireturnZ, wp_lreturn, wp_areturnO, wp_areturnA, wp_max, wp_min, wp_obj, wp_virt, wp_nil, ld_I0, ld_Is, ld_J0, ld_Js, ld_A0, ld_As, ha_0, ha_s, cx_put1, cx_put2, cx_dl, cx_tgt, true_and, and_true, Nat.reduceAdd, Nat.reduceSub, Int.reduceAdd, Int.reduceNeg, Int.reduceToNat, Int.reduceSub, Int.cast_ofNat_Int, List.take_succ_cons, List.take_zero, List.drop_succ_cons, List.drop_zero, List.take_nil, List.drop_nil, Option.toList_some, Option.toList_none, List.cons_append, List.nil_append, wp_spec, ne_eq, Nat.reduceEqDiff, not_false_eq_true, true_or, or_true, hs, wf_X3_mix, wf_X3_key, wf_X3_times, wf_X3_timesModuloQ, wf_X3_power, wf_X3_rest, wf_X3_secretOf, wf_X3_sealSum, wf_X3_sum, wf_X3_letterKey, wf_X3_nextOf, wf_X3_isOpen, wf_X3_veil, wf_X3_sealIsRight, cx_sz, cx_c2, cond_true, cond_false, Nat.reduceLeDiff]
  (repeat' (with_reducible (first | refine And.intro ?_ ?_ | intro _)))
  all_goals (try omega)
  exact hK _ (H.sL hE hs (Or.inr (Or.inl rfl))) (ev.refl.tI hs rfl) (LM.one (m0 := (a, 5, true, m)) (fun m => Iff.rfl))
theorem e_X9_giveKey (hY : cY Y) {a b : Nat} {m : Int} (H : CI c n L Z E h0 X h) (hE : E c ≠ none) (hs : cq_s h a = 8) (eb : cq_A h a 6 = some b) (hK : ∀ h', CI c n L Z E h0 X h' → ev h h' → LM (fun m' => 0 ≤ m ∧ m < 80 ∧ m' = (b, m, false, 0)) h h' → K none h') : cw Y mi_X9_giveKey K 0 [some (.inr (.inr (some a))), some (.inl m)] [] h 0 0 := by
  have sb : cq_s h b = 183 := H.ta hs (own_9 (by decide)) eb
  have zb : cq_z h b = 80 := H.tz sb
  have j20 : ∀ g, K none g → cw Y mi_X9_giveKey K 20 [some (.inr (.inr (some a))), some (.inl m)] [] g 0 0 := by
    intro g q
    refine bx_X9_giveKey_20 hY (pf2_ok hY) ?_
    simp only [wp_iconst, wp_bipush, wp_sipush, wp_ldc, wp_ldc2_w, wp_lconst0, wp_lconst1, wp_aconst_null, wp_iload_0, wp_istore_0, wp_iload_1, wp_istore_1, wp_iload_2, wp_istore_2, wp_iload_3, wp_istore_3, wp_iload, wp_istore, wp_lload_0, wp_lstore_0, wp_lload_1, wp_lstore_1, wp_lload_2, wp_lstore_2, wp_lload_3, wp_lstore_3, wp_lload, wp_lstore, wp_aload_0, wp_astore_0, wp_aload_1, wp_astore_1, wp_aload_2, wp_astore_2, wp_aload_3, wp_astore_3, wp_aload, wp_astore, wp_iinc, wp_iadd, wp_isub, wp_imul, wp_iand, wp_ior, wp_ixor, wp_ishl, wp_ishr, wp_iushr, wp_irem, wp_ladd, wp_lsub, wp_lmul, wp_land, wp_lor, wp_lxor, wp_lshl, wp_lshr, wp_lushr, wp_lrem, wp_lcmp, wp_i2l, wp_l2i, wp_dupI, wp_dupA, wp_dup2J, wp_dup2IA, wp_popI, wp_popA, wp_pop2, wp_goto, wp_if_eq, wp_icmp_eq, wp_if_ne, wp_icmp_ne, wp_if_lt, wp_icmp_lt, wp_if_ge, wp_icmp_ge, wp_if_gt, wp_icmp_gt, wp_if_le, wp_icmp_le, wp_ifnull, wp_ifnonnull, wp_acmp_eq, wp_acmp_ne, wp_tableswitch, wp_get0, wp_put0, wp_get1, wp_put1, wp_get2, wp_put2, wp_get3, wp_put3, wp_new, wp_newarray, wp_anewarray, wp_alen, wp_iaload, wp_laload, wp_baload, wp_aaload, wp_iastore, wp_lastore, wp_bastore, wp_aastore, wp_return, wp_ireturnI, wp_ireturnZ, wp_lreturn, wp_areturnO, wp_areturnA, wp_max, wp_min, wp_obj, wp_virt, wp_nil, ld_I0, ld_Is, ld_J0, ld_Js, ld_A0, ld_As, ha_0, ha_s, cx_put1, cx_put2, cx_dl, cx_tgt, true_and, and_true, Nat.reduceAdd, Nat.reduceSub, Int.reduceAdd, Int.reduceNeg, Int.reduceToNat, Int.reduceSub, Int.cast_ofNat_Int, List.take_succ_cons, List.take_zero, List.drop_succ_cons, List.drop_zero, List.take_nil, List.drop_nil, Option.toList_some, Option.toList_none, List.cons_append, List.nil_append, wp_spec, ne_eq, Nat.reduceEqDiff, not_false_eq_true, true_or, or_true]
    exact q
  refine bx_X9_giveKey_0 hY (pf2_ok hY) ?_
  simp only [wp_iconst, wp_bipush, wp_sipush, wp_ldc, wp_ldc2_w, wp_lconst0, wp_lconst1, wp_aconst_null, wp_iload_0, wp_istore_0, wp_iload_1, wp_istore_1, wp_iload_2, wp_istore_2, wp_iload_3, wp_istore_3, wp_iload, wp_istore, wp_lload_0, wp_lstore_0, wp_lload_1, wp_lstore_1, wp_lload_2, wp_lstore_2, wp_lload_3, wp_lstore_3, wp_lload, wp_lstore, wp_aload_0, wp_astore_0, wp_aload_1, wp_astore_1, wp_aload_2, wp_astore_2, wp_aload_3, wp_astore_3, wp_aload, wp_astore, wp_iinc, wp_iadd, wp_isub, wp_imul, wp_iand, wp_ior, wp_ixor, wp_ishl, wp_ishr, wp_iushr, wp_irem, wp_ladd, wp_lsub, wp_lmul, wp_land, wp_lor, wp_lxor, wp_lshl, wp_lshr, wp_lushr, wp_lrem, wp_lcmp, wp_i2l, wp_l2i, wp_dupI, wp_dupA, wp_dup2J, wp_dup2IA, wp_popI, wp_popA, wp_pop2, wp_goto, wp_if_eq, wp_icmp_eq, wp_if_ne, wp_icmp_ne, wp_if_lt, wp_icmp_lt, wp_if_ge, wp_icmp_ge, wp_if_gt, wp_icmp_gt, wp_if_le, wp_icmp_le, wp_ifnull, wp_ifnonnull, wp_acmp_eq, wp_acmp_ne, wp_tableswitch, wp_get0, wp_put0, wp_get1, wp_put1, wp_get2, wp_put2, wp_get3, wp_put3, wp_new, wp_newarray, wp_anewarray, wp_alen, wp_iaload, wp_laload, wp_baload, wp_aaload, wp_iastore, wp_lastore, wp_bastore, wp_aastore, wp_return, wp_ireturnI, wp_ireturnZ, wp_lreturn, wp_areturnO, wp_areturnA, wp_max, wp_min, wp_obj, wp_virt, wp_nil, ld_I0, ld_Is, ld_J0, ld_Js, ld_A0, ld_As, ha_0, ha_s, cx_put1, cx_put2, cx_dl, cx_tgt, true_and, and_true, Nat.reduceAdd, Nat.reduceSub, Int.reduceAdd, Int.reduceNeg, Int.reduceToNat, Int.reduceSub, Int.cast_ofNat_Int, List.take_succ_cons, List.take_zero, List.drop_succ_cons, List.drop_zero, List.take_nil, List.drop_nil, Option.toList_some, Option.toList_none, List.cons_append, List.nil_append, wp_spec, ne_eq, Nat.reduceEqDiff, not_false_eq_true, true_or, or_true, hs, eb, sb, zb, ra_183]
  refine ⟨fun w => j20 _ (hK _ H ev.refl (LM.no (fun m' y => by omega))), fun q => ⟨by omega, fun w => j20 _ (hK _ H ev.refl (LM.no (fun m' y => by omega))), fun q2 => ?_⟩⟩
  (repeat' (with_reducible (first | refine And.intro ?_ ?_ | intro _)))
  all_goals (try omega)
  exact j20 _ (hK _ (H.sL hE sb (Or.inr (Or.inr rfl))) (ev.refl.tI sb rfl) (LM.one (m0 := (b, m, false, 0)) (fun m' => ⟨fun w => w.2.2, fun w => ⟨by omega, by omega, w⟩⟩)))
theorem e_X9_init (hY : cY Y) {a p : Nat} {o : Option Nat} (H : CI c n L Z E h0 (a :: X) h) (hs : cq_s h a = 8) (hn : cq_s h0 a = 99) (ho : ∀ b, o = some b → cq_s h b = 8) (hp : cq_s h p = 101) (hK : ∀ g, CI c n L Z E h0 (a :: X) g → g = cq_sA (cq_sA (cq_sA (cq_nw (cq_sI h a 5 1000000) 183 80) a 6 (some h.1)) a 0 o) a 1 (some p) → K none g) : cw Y mi_X9_init K 0 [some (.inr (.inr (some a))), some (.inr (.inr o)), some (.inr (.inr (some p)))] [] h 1 80 := by
  have hal := H.al h.1 (Nat.le_refl _)
  have H1 : CI c n L Z E h0 (a :: X) (cq_sI h a 5 1000000) := H.w8I hs List.mem_cons_self hn
  have k1 : ev h (cq_sI h a 5 1000000) := ev.refl.tI hs rfl
  have H2 : CI c n L Z E h0 (a :: X) (cq_nw (cq_sI h a 5 1000000) 183 80) := H1.new (s := 183) rfl (by decide) (by decide) (fun j q => by unfold muA at q; omega)
  have k2 : ev h (cq_nw (cq_sI h a 5 1000000) 183 80) := k1.nw hal
  have nb : cq_s (cq_nw (cq_sI h a 5 1000000) 183 80) h.1 = 183 := nw_n.1
  have sa : cq_s (cq_nw (cq_sI h a 5 1000000) 183 80) a = 8 := k2.s hs (by decide)
  have sp : cq_s (cq_nw (cq_sI h a 5 1000000) 183 80) p = 101 := k2.s hp (by decide)
  have so : ∀ b, o = some b → cq_s (cq_nw (cq_sI h a 5 1000000) 183 80) b = 8 := fun b q => k2.s (ho b q) (by decide)
  refine bx_X9_init_0 hY (pf2_ok hY) ?_
  simp only [wp_iconst, wp_bipush, wp_sipush, wp_ldc, wp_ldc2_w, wp_lconst0, wp_lconst1, wp_aconst_null, wp_iload_0, wp_istore_0, wp_iload_1, wp_istore_1, wp_iload_2, wp_istore_2, wp_iload_3, wp_istore_3, wp_iload, wp_istore, wp_lload_0, wp_lstore_0, wp_lload_1, wp_lstore_1, wp_lload_2, wp_lstore_2, wp_lload_3, wp_lstore_3, wp_lload, wp_lstore, wp_aload_0, wp_astore_0, wp_aload_1, wp_astore_1, wp_aload_2, wp_astore_2, wp_aload_3, wp_astore_3, wp_aload, wp_astore, wp_iinc, wp_iadd, wp_isub, wp_imul, wp_iand, wp_ior, wp_ixor, wp_ishl, wp_ishr, wp_iushr, wp_irem, wp_ladd, wp_lsub, wp_lmul, wp_land, wp_lor, wp_lxor, wp_lshl, wp_lshr, wp_lushr, wp_lrem, wp_lcmp, wp_i2l, wp_l2i, wp_dupI, wp_dupA, wp_dup2J, wp_dup2IA, wp_popI, wp_popA, wp_pop2, wp_goto, wp_if_eq, wp_icmp_eq, wp_if_ne, wp_icmp_ne, wp_if_lt, wp_icmp_lt, wp_if_ge, wp_icmp_ge, wp_if_gt, wp_icmp_gt, wp_if_le, wp_icmp_le, wp_ifnull, wp_ifnonnull, wp_acmp_eq, wp_acmp_ne, wp_tableswitch, wp_get0, wp_put0, wp_get1, wp_put1, wp_get2, wp_put2, wp_get3, wp_put3, wp_new, wp_newarray, wp_anewarray, wp_alen, wp_iaload, wp_laload, wp_baload, wp_aaload, wp_iastore, wp_lastore, wp_bastore, wp_aastore, wp_return, wp_ireturnI, wp_ireturnZ, wp_lreturn, wp_areturnO, wp_areturnA, wp_max, wp_min, wp_obj, wp_virt, wp_nil, ld_I0, ld_Is, ld_J0, ld_Js, ld_A0, ld_As, ha_0, ha_s, cx_put1, cx_put2, cx_dl, cx_tgt, true_and, and_true, Nat.reduceAdd, Nat.reduceSub, Int.reduceAdd, Int.reduceNeg, Int.reduceToNat, Int.reduceSub, Int.cast_ofNat_Int, List.take_succ_cons, List.take_zero, List.drop_succ_cons, List.drop_zero, List.take_nil, List.drop_nil, Option.toList_some, Option.toList_none, List.cons_append, List.nil_append, wp_spec, ne_eq, Nat.reduceEqDiff, not_false_eq_true, true_or, or_true, hs, mm_sI, mm_sJ, mm_sA, mm_IJ, mm_IA, mm_JI, mm_JA, mm_AI, mm_AJ, mm_ssI, mm_ssJ, mm_ssA, mm_zI, mm_zJ, mm_zA, mm_nI, mm_nJ, mm_nA, wf_X3_mix, wf_X3_key, wf_X3_times, wf_X3_timesModuloQ, wf_X3_power, wf_X3_rest, wf_X3_secretOf, wf_X3_sealSum, wf_X3_sum, wf_X3_letterKey, wf_X3_nextOf, wf_X3_isOpen, wf_X3_veil, wf_X3_sealIsRight, cx_sz, cx_c2, cond_true, cond_false, Nat.reduceLeDiff, sa]
  (repeat' (with_reducible (first | refine And.intro ?_ ?_ | intro _)))
  all_goals (try omega)
  have H3 := H2.w8A (a := a) (j := 6) (v := some h.1) sa List.mem_cons_self hn (fun b q => by cases q; exact nb) (fun q => (nomatch q)) rfl (by decide)
  have H4 := H3.w8A (a := a) (j := 0) (v := o) sa List.mem_cons_self hn so (fun _ q => by unfold muA at q; omega) rfl (by decide)
  have H5 := H4.w8A (a := a) (j := 1) (v := some p) sa List.mem_cons_self hn (fun b q => by cases q; exact sp) (fun q => (nomatch q)) rfl (by decide)
  exact hK _ H5 rfl
theorem e_X9_turnOf (hY : cY Y) {a p : Nat} (H : CI c n L Z E h0 [] h) (hs : cq_s h a = 8) (hp : cq_s h p = 101) (hK : ∀ t h', CI c n L Z E h0 [] h' → ev h h' → toT h a p t h' → K (some (.inr (.inr (some t)))) h') : cw Y mi_X9_turnOf K 0 [some (.inr (.inr (some a))), some (.inr (.inr (some p))), none] [] h 2 87 := by
  have fin : (∀ b r, cq_s h b = 8 → cq_A h b 0 = some a → cq_A h b 1 = some r → ¬ mtR h r p) → ∀ o2, cw Y mi_X9_turnOf K 27 [some (.inr (.inr (some a))), some (.inr (.inr (some p))), o2] [] h 2 87 := by
    intro no o2
    have hal := H.al h.1 (Nat.le_refl _)
    have hn : cq_s h0 h.1 = 99 := H.ct.old hal
    have H2 : CI c n L Z E h0 [h.1] (cq_nw h 8 0) := H.nw (s := 8) True.intro (fun q => absurd q (by decide))
    have k2 : ev h (cq_nw h 8 0) := ev.refl.nw hal
    have s2 : cq_s (cq_nw h 8 0) h.1 = 8 := nw_n.1
    have la : a < h.1 := H.lt hs (by decide)
    have na : ¬ a = h.1 := by omega
    have nt : ¬ h.1 = a := by omega
    refine bx_X9_turnOf_27 hY (pf2_ok hY) ?_
    simp only [wp_iconst, wp_bipush, wp_sipush, wp_ldc, wp_ldc2_w, wp_lconst0, wp_lconst1, wp_aconst_null, wp_iload_0, wp_istore_0, wp_iload_1, wp_istore_1, wp_iload_2, wp_istore_2, wp_iload_3, wp_istore_3, wp_iload, wp_istore, wp_lload_0, wp_lstore_0, wp_lload_1, wp_lstore_1, wp_lload_2, wp_lstore_2, wp_lload_3, wp_lstore_3, wp_lload, wp_lstore, wp_aload_0, wp_astore_0, wp_aload_1, wp_astore_1, wp_aload_2, wp_astore_2, wp_aload_3, wp_astore_3, wp_aload, wp_astore, wp_iinc, wp_iadd, wp_isub, wp_imul, wp_iand, wp_ior, wp_ixor, wp_ishl, wp_ishr, wp_iushr, wp_irem, wp_ladd, wp_lsub, wp_lmul, wp_land, wp_lor, wp_lxor, wp_lshl, wp_lshr, wp_lushr, wp_lrem, wp_lcmp, wp_i2l, wp_l2i, wp_dupI, wp_dupA, wp_dup2J, wp_dup2IA, wp_popI, wp_popA, wp_pop2, wp_goto, wp_if_eq, wp_icmp_eq, wp_if_ne, wp_icmp_ne, wp_if_lt, wp_icmp_lt, wp_if_ge, wp_icmp_ge, wp_if_gt, wp_icmp_gt, wp_if_le, wp_icmp_le, wp_ifnull, wp_ifnonnull, wp_acmp_eq, wp_acmp_ne, wp_tableswitch, wp_get0, wp_put0, wp_get1, wp_put1, wp_get2, wp_put2, wp_get3, wp_put3, wp_new, wp_newarray, wp_anewarray, wp_alen, wp_iaload, wp_laload, wp_baload, wp_aaload, wp_iastore, wp_lastore, wp_bastore, wp_aastore, wp_return, wp_ireturnI, wp_ireturnZ, wp_lreturn, wp_areturnO, wp_areturnA, wp_max, wp_min, wp_obj, wp_virt, wp_nil, ld_I0, ld_Is, ld_J0, ld_Js, ld_A0, ld_As, ha_0, ha_s, cx_put1, cx_put2, cx_dl, cx_tgt, true_and, and_true, Nat.reduceAdd, Nat.reduceSub, Int.reduceAdd, Int.reduceNeg, Int.reduceToNat, Int.reduceSub, Int.cast_ofNat_Int, List.take_succ_cons, List.take_zero, List.drop_succ_cons, List.drop_zero, List.take_nil, List.drop_nil, Option.toList_some, Option.toList_none, List.cons_append, List.nil_append, wp_spec, ne_eq, Nat.reduceEqDiff, not_false_eq_true, true_or, or_true]
    (repeat' (with_reducible (first | refine And.intro ?_ ?_ | intro _)))
    all_goals (try omega)
    refine cl_X9_init (Nat.le_of_ble_eq_true rfl) (Nat.le_refl _) (Nat.le_refl _) (e_X9_init hY H2 s2 hn (fun b q => by cases q; exact k2.s hs (by decide)) (k2.s hp (by decide)) (fun g G eg => ?_))
    have n1 : h.1 ≠ (cq_sI (cq_nw h 8 0) h.1 5 1000000).1 := Nat.ne_of_lt (Nat.lt_succ_self _)
    obtain ⟨c1, c2, c3, _, c5⟩ := nw_o (h := cq_sI (cq_nw h 8 0) h.1 5 1000000) (s := 183) (z := 80) n1
    obtain ⟨m1, m2, m3, _, m5⟩ := nw_n (h := h) (s := 8) (z := 0)
    obtain ⟨v1, _, v3, _, v5⟩ := nw_n (h := cq_sI (cq_nw h 8 0) h.1 5 1000000) (s := 183) (z := 80)
    have o : ∀ d, cq_s h d ≠ 99 → cq_s g d = cq_s h d ∧ cq_z g d = cq_z h d ∧ ∀ r, cq_A g d r = cq_A h d r := by
      intro d w
      have d1 : d ≠ h.1 := fun e => w (by rw [e]; exact hal)
      have d2 : d ≠ (cq_sI (cq_nw h 8 0) h.1 5 1000000).1 := fun e => w (by rw [e]; exact H.al (h.1 + 1) (Nat.le_succ _))
      obtain ⟨a1, a2, a3, _, a5⟩ := nw_o (h := cq_sI (cq_nw h 8 0) h.1 5 1000000) (s := 183) (z := 80) d2
      obtain ⟨b1, b2, b3, _, b5⟩ := nw_o (h := h) (s := 8) (z := 0) d1
      rw [eg]
      refine ⟨a1.trans b1, a2.trans b2, fun r => ?_⟩
      rw [mm_sA, if_neg (fun e => d1 e.1), mm_sA, if_neg (fun e => d1 e.1), mm_sA, if_neg (fun e => d1 e.1), a5]
      show cq_A (cq_nw h 8 0) d r = _
      rw [b5]
    have c1' : cq_s (cq_nw (cq_sI (cq_nw h 8 0) h.1 5 1000000) 183 80) h.1 = 8 := c1.trans m1
    have st : cq_s g h.1 = 8 := by rw [eg]; exact c1'
    have sa : cq_s g a = 8 := (o a (by rw [hs]; decide)).1.trans hs
    have sp : cq_s g p = 101 := (o p (by rw [hp]; decide)).1.trans hp
    have s6 : cq_s g (h.1 + 1) = 183 := by rw [eg]; exact v1
    have f0 : cq_A g h.1 0 = some a := by rw [eg, mm_sA, if_neg (fun e => absurd e.2 (by decide)), mm_sA, if_pos ⟨rfl, rfl⟩]
    have f1 : cq_A g h.1 1 = some p := by rw [eg, mm_sA, if_pos ⟨rfl, rfl⟩]
    have f6 : cq_A g h.1 6 = some (h.1 + 1) := by
      rw [eg, mm_sA, if_neg (fun e => absurd e.2 (by decide)), mm_sA, if_neg (fun e => absurd e.2 (by decide)), mm_sA, if_pos ⟨rfl, rfl⟩]
      rfl
    have i4 : cq_I g h.1 4 = 0 := by
      rw [eg]
      show cq_I (cq_nw (cq_sI (cq_nw h 8 0) h.1 5 1000000) 183 80) h.1 4 = 0
      rw [c3, mm_sI, if_neg (fun e => absurd e.2 (by decide)), m3]
    have i5 : cq_I g h.1 5 = 1000000 := by
      rw [eg]
      show cq_I (cq_nw (cq_sI (cq_nw h 8 0) h.1 5 1000000) 183 80) h.1 5 = 1000000
      rw [c3, mm_sI, if_pos ⟨rfl, rfl⟩]
    have i6 : ∀ j, cq_I g (h.1 + 1) j = 0 := by
      intro j
      rw [eg]
      exact congrFun v3 j
    have kk : ev h g := by
      rw [eg]
      exact (((ev.nw (ev.tI k2 s2 rfl) (H.al (h.1 + 1) (Nat.le_succ _) |> fun q => by rw [show (cq_sI (cq_nw h 8 0) h.1 5 1000000).1 = h.1 + 1 from rfl]; exact ((nw_o (h := h) (s := 8) (z := 0) (a := h.1 + 1) (by omega)).1).trans q)).fA hal).fA hal).fA hal
    refine bx_X9_turnOf_36 hY (pf2_ok hY) ?_
    simp only [wp_iconst, wp_bipush, wp_sipush, wp_ldc, wp_ldc2_w, wp_lconst0, wp_lconst1, wp_aconst_null, wp_iload_0, wp_istore_0, wp_iload_1, wp_istore_1, wp_iload_2, wp_istore_2, wp_iload_3, wp_istore_3, wp_iload, wp_istore, wp_lload_0, wp_lstore_0, wp_lload_1, wp_lstore_1, wp_lload_2, wp_lstore_2, wp_lload_3, wp_lstore_3, wp_lload, wp_lstore, wp_aload_0, wp_astore_0, wp_aload_1, wp_astore_1, wp_aload_2, wp_astore_2, wp_aload_3, wp_astore_3, wp_aload, wp_astore, wp_iinc, wp_iadd, wp_isub, wp_imul, wp_iand, wp_ior, wp_ixor, wp_ishl, wp_ishr, wp_iushr, wp_irem, wp_ladd, wp_lsub, wp_lmul, wp_land, wp_lor, wp_lxor, wp_lshl, wp_lshr, wp_lushr, wp_lrem, wp_lcmp, wp_i2l, wp_l2i, wp_dupI, wp_dupA, wp_dup2J, wp_dup2IA, wp_popI, wp_popA, wp_pop2, wp_goto, wp_if_eq, wp_icmp_eq, wp_if_ne, wp_icmp_ne, wp_if_lt, wp_icmp_lt, wp_if_ge, wp_icmp_ge, wp_if_gt, wp_icmp_gt, wp_if_le, wp_icmp_le, wp_ifnull, wp_ifnonnull, wp_acmp_eq, wp_acmp_ne, wp_tableswitch, wp_get0, wp_put0, wp_get1, wp_put1, wp_get2, wp_put2, wp_get3, wp_put3, wp_new, wp_newarray, wp_anewarray, wp_alen, wp_iaload, wp_laload, wp_baload, wp_aaload, wp_iastore, wp_lastore, wp_bastore, wp_aastore, wp_return, wp_ireturnI, wp_ireturnZ, wp_lreturn, wp_areturnO, wp_areturnA, wp_max, wp_min, wp_obj, wp_virt, wp_nil, ld_I0, ld_Is, ld_J0, ld_Js, ld_A0, ld_As, ha_0, ha_s, cx_put1, cx_put2, cx_dl, cx_tgt, true_and, and_true, Nat.reduceAdd, Nat.reduceSub, Int.reduceAdd, Int.reduceNeg, Int.reduceToNat, Int.reduceSub, Int.cast_ofNat_Int, List.take_succ_cons, List.take_zero, List.drop_succ_cons, List.drop_zero, List.take_nil, List.drop_nil, Option.toList_some, Option.toList_none, List.cons_append, List.nil_append, wp_spec, ne_eq, Nat.reduceEqDiff, not_false_eq_true, true_or, or_true, sa, st, mm_sI, mm_sJ, mm_sA, mm_IJ, mm_IA, mm_JI, mm_JA, mm_AI, mm_AJ, mm_ssI, mm_ssJ, mm_ssA, mm_zI, mm_zJ, mm_zA, mm_nI, mm_nJ, mm_nA, Nat.left_eq_add, Nat.add_eq_left, Nat.add_left_cancel_iff, Nat.reduceEqDiff, Int.reduceEq, false_and, and_false, if_false, if_true, and_self, true_and, true_or, or_true, false_or, or_false]
    refine hK h.1 _ (G.lk8 List.not_mem_nil hn st sa la (fun d q => ?_) f0 f1 sp f6 s6 ⟨i4, i5, i6⟩ (fun b r q1 q2 q3 q4 m => ?_)) ((kk.fA hal).tA sa) ⟨st, ?_, Or.inr ⟨rfl, ?_, fun d q => ?_⟩⟩
    · rw [(o a (by rw [hs]; decide)).2.2] at q
      exact H.lt (H.ta (j := 2) hs (own_9 (by decide)) q : cq_s h d = 8) (by decide)
    · have nb : b ≠ h.1 := fun e => q2 (by rw [e]; exact List.mem_cons_self)
      have nb2 : b ≠ h.1 + 1 := fun e => by rw [e, s6] at q1; exact absurd q1 (by decide)
      have wb : cq_s h b ≠ 99 := by
        intro w
        have e1 : cq_s g b = 99 := by
          rw [eg]
          exact ((nw_o (h := cq_sI (cq_nw h 8 0) h.1 5 1000000) (s := 183) (z := 80) (a := b) nb2).1).trans (((nw_o (h := h) (s := 8) (z := 0) nb).1).trans w)
        rw [e1] at q1
        exact absurd q1 (by decide)
      obtain ⟨o1, o2, o3⟩ := o b wb
      rw [o1] at q1
      rw [o3] at q3 q4
      have sr : cq_s h r = 101 := H.ta (j := 1) q1 (own_9 (by decide)) q4
      have or_ := o r (by rw [sr]; decide)
      have op_ := o p (by rw [hp]; decide)
      exact no b r q1 q3 q4 (mtR_c (h := h) (h' := g) or_.2.1 op_.2.1 or_.2.2 op_.2.2 m)
    · rw [mm_sA, if_neg (fun e => nt e.1), mm_sA, if_neg (fun e => absurd e.2 (by decide))]
      exact f0
    · rw [mm_sA, if_neg (fun e => nt e.1), mm_sA, if_neg (fun e => absurd e.2 (by decide))]
      exact f1
    · have q' : cq_s g d = 8 := q
      by_cases e1 : d = h.1
      · exact Or.inl e1
      · by_cases e2 : d = h.1 + 1
        · rw [e2, s6] at q'
          exact absurd q' (by decide)
        · rw [eg] at q'
          have q2 : cq_s (cq_nw (cq_sI (cq_nw h 8 0) h.1 5 1000000) 183 80) d = 8 := q'
          rw [(nw_o (h := cq_sI (cq_nw h 8 0) h.1 5 1000000) (s := 183) (z := 80) (a := d) e2).1] at q2
          exact Or.inr (((nw_o (h := h) (s := 8) (z := 0) e1).1).symm.trans q2)
  have loop : ∀ (m : Nat) (o : Option Nat), (∀ t, o = some t → cq_s h t = 8 ∧ t < m ∧ cq_A h t 0 = some a) → (∀ b r, cq_s h b = 8 → cq_A h b 0 = some a → cq_A h b 1 = some r → ¬ mtR h r p ∨ ∃ n, inL h n o b) → cw Y mi_X9_turnOf K 5 [some (.inr (.inr (some a))), some (.inr (.inr (some p))), some (.inr (.inr o))] [] h 2 87 := by
    have jn : (∀ b r, cq_s h b = 8 → cq_A h b 0 = some a → cq_A h b 1 = some r → ¬ mtR h r p ∨ ∃ n, inL h n none b) → cw Y mi_X9_turnOf K 5 [some (.inr (.inr (some a))), some (.inr (.inr (some p))), some (.inr (.inr none))] [] h 2 87 := by
      intro w
      refine bx_X9_turnOf_5 hY (pf2_ok hY) ?_
      simp only [wp_iconst, wp_bipush, wp_sipush, wp_ldc, wp_ldc2_w, wp_lconst0, wp_lconst1, wp_aconst_null, wp_iload_0, wp_istore_0, wp_iload_1, wp_istore_1, wp_iload_2, wp_istore_2, wp_iload_3, wp_istore_3, wp_iload, wp_istore, wp_lload_0, wp_lstore_0, wp_lload_1, wp_lstore_1, wp_lload_2, wp_lstore_2, wp_lload_3, wp_lstore_3, wp_lload, wp_lstore, wp_aload_0, wp_astore_0, wp_aload_1, wp_astore_1, wp_aload_2, wp_astore_2, wp_aload_3, wp_astore_3, wp_aload, wp_astore, wp_iinc, wp_iadd, wp_isub, wp_imul, wp_iand, wp_ior, wp_ixor, wp_ishl, wp_ishr, wp_iushr, wp_irem, wp_ladd, wp_lsub, wp_lmul, wp_land, wp_lor, wp_lxor, wp_lshl, wp_lshr, wp_lushr, wp_lrem, wp_lcmp, wp_i2l, wp_l2i, wp_dupI, wp_dupA, wp_dup2J, wp_dup2IA, wp_popI, wp_popA, wp_pop2, wp_goto, wp_if_eq, wp_icmp_eq, wp_if_ne, wp_icmp_ne, wp_if_lt, wp_icmp_lt, wp_if_ge, wp_icmp_ge, wp_if_gt, wp_icmp_gt, wp_if_le, wp_icmp_le, wp_ifnull, wp_ifnonnull, wp_acmp_eq, wp_acmp_ne, wp_tableswitch, wp_get0, wp_put0, wp_get1, wp_put1, wp_get2, wp_put2, wp_get3, wp_put3, wp_new, wp_newarray, wp_anewarray, wp_alen, wp_iaload, wp_laload, wp_baload, wp_aaload, wp_iastore, wp_lastore, wp_bastore, wp_aastore, wp_return, wp_ireturnI, wp_ireturnZ, wp_lreturn, wp_areturnO, wp_areturnA, wp_max, wp_min, wp_obj, wp_virt, wp_nil, ld_I0, ld_Is, ld_J0, ld_Js, ld_A0, ld_As, ha_0, ha_s, cx_put1, cx_put2, cx_dl, cx_tgt, true_and, and_true, Nat.reduceAdd, Nat.reduceSub, Int.reduceAdd, Int.reduceNeg, Int.reduceToNat, Int.reduceSub, Int.cast_ofNat_Int, List.take_succ_cons, List.take_zero, List.drop_succ_cons, List.drop_zero, List.take_nil, List.drop_nil, Option.toList_some, Option.toList_none, List.cons_append, List.nil_append, wp_spec, ne_eq, Nat.reduceEqDiff, not_false_eq_true, true_or, or_true]
      refine ⟨fun _ => fin (fun b r q1 q2 q3 => ?_) _, fun i q => (nomatch q)⟩
      rcases w b r q1 q2 q3 with y | ⟨n, y⟩
      · exact y
      · cases n with
        | zero => exact y.elim
        | succ n =>
          obtain ⟨t, y1, _⟩ := y
          cases y1
    intro m
    induction m with
    | zero =>
      intro o ho w
      cases o with
      | none => exact jn w
      | some t => exact absurd (ho t rfl).2.1 (Nat.not_lt_zero _)
    | succ m ih =>
      intro o ho w
      cases o with
      | none => exact jn w
      | some t =>
        obtain ⟨st, lt, ht0⟩ := ho t rfl
        obtain ⟨r0, er0, _, _⟩ := H.g8_1 st List.not_mem_nil
        refine bx_X9_turnOf_5 hY (pf2_ok hY) ?_
        simp only [wp_iconst, wp_bipush, wp_sipush, wp_ldc, wp_ldc2_w, wp_lconst0, wp_lconst1, wp_aconst_null, wp_iload_0, wp_istore_0, wp_iload_1, wp_istore_1, wp_iload_2, wp_istore_2, wp_iload_3, wp_istore_3, wp_iload, wp_istore, wp_lload_0, wp_lstore_0, wp_lload_1, wp_lstore_1, wp_lload_2, wp_lstore_2, wp_lload_3, wp_lstore_3, wp_lload, wp_lstore, wp_aload_0, wp_astore_0, wp_aload_1, wp_astore_1, wp_aload_2, wp_astore_2, wp_aload_3, wp_astore_3, wp_aload, wp_astore, wp_iinc, wp_iadd, wp_isub, wp_imul, wp_iand, wp_ior, wp_ixor, wp_ishl, wp_ishr, wp_iushr, wp_irem, wp_ladd, wp_lsub, wp_lmul, wp_land, wp_lor, wp_lxor, wp_lshl, wp_lshr, wp_lushr, wp_lrem, wp_lcmp, wp_i2l, wp_l2i, wp_dupI, wp_dupA, wp_dup2J, wp_dup2IA, wp_popI, wp_popA, wp_pop2, wp_goto, wp_if_eq, wp_icmp_eq, wp_if_ne, wp_icmp_ne, wp_if_lt, wp_icmp_lt, wp_if_ge, wp_icmp_ge, wp_if_gt, wp_icmp_gt, wp_if_le, wp_icmp_le, wp_ifnull, wp_ifnonnull, wp_acmp_eq, wp_acmp_ne, wp_tableswitch, wp_get0, wp_put0, wp_get1, wp_put1, wp_get2, wp_put2, wp_get3, wp_put3, wp_new, wp_newarray, wp_anewarray, wp_alen, wp_iaload, wp_laload, wp_baload, wp_aaload, wp_iastore, wp_lastore, wp_bastore, wp_aastore, wp_return, wp_ireturnI, wp_ireturnZ, wp_lreturn, wp_areturnO, wp_areturnA, wp_max, wp_min, wp_obj, wp_virt, wp_nil, ld_I0, ld_Is, ld_J0, ld_Js, ld_A0, ld_As, ha_0, ha_s, cx_put1, cx_put2, cx_dl, cx_tgt, true_and, and_true, Nat.reduceAdd, Nat.reduceSub, Int.reduceAdd, Int.reduceNeg, Int.reduceToNat, Int.reduceSub, Int.cast_ofNat_Int, List.take_succ_cons, List.take_zero, List.drop_succ_cons, List.drop_zero, List.take_nil, List.drop_nil, Option.toList_some, Option.toList_none, List.cons_append, List.nil_append, wp_spec, ne_eq, Nat.reduceEqDiff, not_false_eq_true, true_or, or_true]
        refine ⟨fun q => (nomatch q), fun i q => ?_⟩
        have j14 : ∀ v : Int, ((v = 0 ∧ ¬ mtR h r0 p) ∨ (v ≠ 0 ∧ mtR h r0 p)) → cw Y mi_X9_turnOf K 14 [some (.inr (.inr (some a))), some (.inr (.inr (some p))), some (.inr (.inr (some t)))] [.inl v] h 2 87 := by
          intro v cv
          refine bx_X9_turnOf_14 hY (pf2_ok hY) ?_
          simp only [wp_iconst, wp_bipush, wp_sipush, wp_ldc, wp_ldc2_w, wp_lconst0, wp_lconst1, wp_aconst_null, wp_iload_0, wp_istore_0, wp_iload_1, wp_istore_1, wp_iload_2, wp_istore_2, wp_iload_3, wp_istore_3, wp_iload, wp_istore, wp_lload_0, wp_lstore_0, wp_lload_1, wp_lstore_1, wp_lload_2, wp_lstore_2, wp_lload_3, wp_lstore_3, wp_lload, wp_lstore, wp_aload_0, wp_astore_0, wp_aload_1, wp_astore_1, wp_aload_2, wp_astore_2, wp_aload_3, wp_astore_3, wp_aload, wp_astore, wp_iinc, wp_iadd, wp_isub, wp_imul, wp_iand, wp_ior, wp_ixor, wp_ishl, wp_ishr, wp_iushr, wp_irem, wp_ladd, wp_lsub, wp_lmul, wp_land, wp_lor, wp_lxor, wp_lshl, wp_lshr, wp_lushr, wp_lrem, wp_lcmp, wp_i2l, wp_l2i, wp_dupI, wp_dupA, wp_dup2J, wp_dup2IA, wp_popI, wp_popA, wp_pop2, wp_goto, wp_if_eq, wp_icmp_eq, wp_if_ne, wp_icmp_ne, wp_if_lt, wp_icmp_lt, wp_if_ge, wp_icmp_ge, wp_if_gt, wp_icmp_gt, wp_if_le, wp_icmp_le, wp_ifnull, wp_ifnonnull, wp_acmp_eq, wp_acmp_ne, wp_tableswitch, wp_get0, wp_put0, wp_get1, wp_put1, wp_get2, wp_put2, wp_get3, wp_put3, wp_new, wp_newarray, wp_anewarray, wp_alen, wp_iaload, wp_laload, wp_baload, wp_aaload, wp_iastore, wp_lastore, wp_bastore, wp_aastore, wp_return, wp_ireturnI, wp_ireturnZ, wp_lreturn, wp_areturnO, wp_areturnA, wp_max, wp_min, wp_obj, wp_virt, wp_nil, ld_I0, ld_Is, ld_J0, ld_Js, ld_A0, ld_As, ha_0, ha_s, cx_put1, cx_put2, cx_dl, cx_tgt, true_and, and_true, Nat.reduceAdd, Nat.reduceSub, Int.reduceAdd, Int.reduceNeg, Int.reduceToNat, Int.reduceSub, Int.cast_ofNat_Int, List.take_succ_cons, List.take_zero, List.drop_succ_cons, List.drop_zero, List.take_nil, List.drop_nil, Option.toList_some, Option.toList_none, List.cons_append, List.nil_append, wp_spec, ne_eq, Nat.reduceEqDiff, not_false_eq_true, true_or, or_true]
          refine ⟨fun z => ?_, fun z => hK t h H ev.refl ⟨st, ht0, Or.inl ⟨rfl, r0, er0, cv.elim (fun y => absurd y.1 z) (fun y => y.2)⟩⟩⟩
          have nm : ¬ mtR h r0 p := cv.elim (fun y => y.2) (fun y => absurd z y.1)
          refine bx_X9_turnOf_19 hY (pf2_ok hY) ?_
          simp only [wp_iconst, wp_bipush, wp_sipush, wp_ldc, wp_ldc2_w, wp_lconst0, wp_lconst1, wp_aconst_null, wp_iload_0, wp_istore_0, wp_iload_1, wp_istore_1, wp_iload_2, wp_istore_2, wp_iload_3, wp_istore_3, wp_iload, wp_istore, wp_lload_0, wp_lstore_0, wp_lload_1, wp_lstore_1, wp_lload_2, wp_lstore_2, wp_lload_3, wp_lstore_3, wp_lload, wp_lstore, wp_aload_0, wp_astore_0, wp_aload_1, wp_astore_1, wp_aload_2, wp_astore_2, wp_aload_3, wp_astore_3, wp_aload, wp_astore, wp_iinc, wp_iadd, wp_isub, wp_imul, wp_iand, wp_ior, wp_ixor, wp_ishl, wp_ishr, wp_iushr, wp_irem, wp_ladd, wp_lsub, wp_lmul, wp_land, wp_lor, wp_lxor, wp_lshl, wp_lshr, wp_lushr, wp_lrem, wp_lcmp, wp_i2l, wp_l2i, wp_dupI, wp_dupA, wp_dup2J, wp_dup2IA, wp_popI, wp_popA, wp_pop2, wp_goto, wp_if_eq, wp_icmp_eq, wp_if_ne, wp_icmp_ne, wp_if_lt, wp_icmp_lt, wp_if_ge, wp_icmp_ge, wp_if_gt, wp_icmp_gt, wp_if_le, wp_icmp_le, wp_ifnull, wp_ifnonnull, wp_acmp_eq, wp_acmp_ne, wp_tableswitch, wp_get0, wp_put0, wp_get1, wp_put1, wp_get2, wp_put2, wp_get3, wp_put3, wp_new, wp_newarray, wp_anewarray, wp_alen, wp_iaload, wp_laload, wp_baload, wp_aaload, wp_iastore, wp_lastore, wp_bastore, wp_aastore, wp_return, wp_ireturnI, wp_ireturnZ, wp_lreturn, wp_areturnO, wp_areturnA, wp_max, wp_min, wp_obj, wp_virt, wp_nil, ld_I0, ld_Is, ld_J0, ld_Js, ld_A0, ld_As, ha_0, ha_s, cx_put1, cx_put2, cx_dl, cx_tgt, true_and, and_true, Nat.reduceAdd, Nat.reduceSub, Int.reduceAdd, Int.reduceNeg, Int.reduceToNat, Int.reduceSub, Int.cast_ofNat_Int, List.take_succ_cons, List.take_zero, List.drop_succ_cons, List.drop_zero, List.take_nil, List.drop_nil, Option.toList_some, Option.toList_none, List.cons_append, List.nil_append, wp_spec, ne_eq, Nat.reduceEqDiff, not_false_eq_true, true_or, or_true, st]
          refine ih _ (fun t' q => ?_) (fun b r q1 q2 q3 => ?_)
          · obtain ⟨_, w2, w3⟩ := H.ct.2.2.2.2.2.2.2.2.1 t t' st List.not_mem_nil q
            exact ⟨w2, by have := H.l8 t t' st q; omega, w3.trans ht0⟩
          · rcases w b r q1 q2 q3 with y | ⟨n, y⟩
            · exact Or.inl y
            · cases n with
              | zero => exact y.elim
              | succ n =>
                obtain ⟨t', y1, y2, y3⟩ := y
                cases y1
                rcases y3 with y3 | y3
                · rw [← y3, er0] at q3
                  cases q3
                  exact Or.inl nm
                · exact Or.inr ⟨n, y3⟩
        exact cl_X9_isOf (Nat.le_of_ble_eq_true rfl) st (by omega) (by omega) (e_X9_isOf hY H st er0 hp (fun z => j14 0 (Or.inl ⟨rfl, z⟩)) (fun z => j14 1 (Or.inr ⟨by decide, z⟩)))
  refine bx_X9_turnOf_0 hY (pf2_ok hY) ?_
  simp only [wp_iconst, wp_bipush, wp_sipush, wp_ldc, wp_ldc2_w, wp_lconst0, wp_lconst1, wp_aconst_null, wp_iload_0, wp_istore_0, wp_iload_1, wp_istore_1, wp_iload_2, wp_istore_2, wp_iload_3, wp_istore_3, wp_iload, wp_istore, wp_lload_0, wp_lstore_0, wp_lload_1, wp_lstore_1, wp_lload_2, wp_lstore_2, wp_lload_3, wp_lstore_3, wp_lload, wp_lstore, wp_aload_0, wp_astore_0, wp_aload_1, wp_astore_1, wp_aload_2, wp_astore_2, wp_aload_3, wp_astore_3, wp_aload, wp_astore, wp_iinc, wp_iadd, wp_isub, wp_imul, wp_iand, wp_ior, wp_ixor, wp_ishl, wp_ishr, wp_iushr, wp_irem, wp_ladd, wp_lsub, wp_lmul, wp_land, wp_lor, wp_lxor, wp_lshl, wp_lshr, wp_lushr, wp_lrem, wp_lcmp, wp_i2l, wp_l2i, wp_dupI, wp_dupA, wp_dup2J, wp_dup2IA, wp_popI, wp_popA, wp_pop2, wp_goto, wp_if_eq, wp_icmp_eq, wp_if_ne, wp_icmp_ne, wp_if_lt, wp_icmp_lt, wp_if_ge, wp_icmp_ge, wp_if_gt, wp_icmp_gt, wp_if_le, wp_icmp_le, wp_ifnull, wp_ifnonnull, wp_acmp_eq, wp_acmp_ne, wp_tableswitch, wp_get0, wp_put0, wp_get1, wp_put1, wp_get2, wp_put2, wp_get3, wp_put3, wp_new, wp_newarray, wp_anewarray, wp_alen, wp_iaload, wp_laload, wp_baload, wp_aaload, wp_iastore, wp_lastore, wp_bastore, wp_aastore, wp_return, wp_ireturnI, wp_ireturnZ, wp_lreturn, wp_areturnO, wp_areturnA, wp_max, wp_min, wp_obj, wp_virt, wp_nil, ld_I0, ld_Is, ld_J0, ld_Js, ld_A0, ld_As, ha_0, ha_s, cx_put1, cx_put2, cx_dl, cx_tgt, true_and, and_true, Nat.reduceAdd, Nat.reduceSub, Int.reduceAdd, Int.reduceNeg, Int.reduceToNat, Int.reduceSub, Int.cast_ofNat_Int, List.take_succ_cons, List.take_zero, List.drop_succ_cons, List.drop_zero, List.take_nil, List.drop_nil, Option.toList_some, Option.toList_none, List.cons_append, List.nil_append, wp_spec, ne_eq, Nat.reduceEqDiff, not_false_eq_true, true_or, or_true, hs]
  refine loop h.1 _ (fun t q => ?_) (fun b r q1 q2 q3 => ?_)
  · obtain ⟨_, w2, w3⟩ := H.ct.2.2.2.2.2.2.2.1 a t hs q
    exact ⟨w2, H.lt w2 (by decide), w3⟩
  · rcases H.ct.2.2.2.2.2.2.1 b q1 List.not_mem_nil with w | ⟨d, w1, w2, w3, w4, w5, n, w6⟩
    · rw [q2] at w
      cases w
    · rw [q2] at w1
      cases w1
      exact Or.inr ⟨n, w6⟩
end
