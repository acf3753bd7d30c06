/-! the class, exactly: KEPT keys and rows -/
/-- at which place such a KEPT key stands, or -1 -/
def kfi (h : cx_Q) (b0 b1 : Nat) (u : Int64) (p : Int) (n : Nat) (k : Int) : Int := if m_ka (cq_J h b0) (cq_I h b1) u p 0 n k = -2 then -1 else m_ka (cq_J h b0) (cq_I h b1) u p 0 n k
/-- a place goes out of a row -/
def shT {α : Type} (f : Int → α) (m k r : Int) : α := if m ≤ r ∧ r < k then f (r + 1) else f r
/-- KEPT keys without one -/
def kdr (h : cx_Q) (a b0 b1 b2 : Nat) (m k v : Int) : cx_Q := cq_sI (cq_rJ (cq_rI (cq_rJ h b0 (shT (cq_J h b0) m k)) b1 (shT (cq_I h b1) m k)) b2 (shT (cq_J h b2) m k)) a 4 v
/-- a row whose first places are moved on -/
def shU (f : Int → Option Nat) (m : Int) (t : Option Nat) (j : Int) : Option Nat := if j = 0 then t else if 0 < j ∧ j ≤ m then f (j - 1) else f j
section
variable {Y : cx_Y} {K : Option cx_V → cx_Q → Prop} {c : Nat} {n L Z : Int} {E : Nat → Option Int} {h0 : cx_Q} {X : List Nat} {h : cx_Q}
theorem e_X1_find (hY : cY Y) {a b0 b1 : Nat} {u : Int64} {p : Int} (H : CI c n L Z E h0 X h) (hs : cq_s h a = 1) (eb0 : cq_A h a 0 = some b0) (eb1 : cq_A h a 1 = some b1) (hK : K (some (.inl (kfi h b0 b1 u p (cq_I h a 4).toNat 0))) h) : cw Y mi_X1_find K 0 [some (.inr (.inr (some a))), some (.inr (.inl u)), none, some (.inl p), none] [] h 0 0 := by
  have sb0 : cq_s h b0 = 171 := H.ta hs (own_9 (by decide)) eb0
  have sb1 : cq_s h b1 = 172 := H.ta hs (own_9 (by decide)) eb1
  have zb0 : cq_z h b0 = 20 := H.tz sb0
  have zb1 : cq_z h b1 = 20 := H.tz sb1
  have i1 := H.i1_4 hs
  have loop : ∀ (m : Nat) (k : Int), 0 ≤ k → k + m = cq_I h a 4 → K (some (.inl (kfi h b0 b1 u p m k))) h → cw Y mi_X1_find K 3 [some (.inr (.inr (some a))), some (.inr (.inl u)), none, some (.inl p), some (.inl k)] [] h 0 0 := by
    intro m
    induction m with
    | zero =>
      intro k h1 h2 hK
      have e : kfi h b0 b1 u p 0 k = -1 := by unfold kfi; rw [m_ka]; rfl
      rw [e] at hK
      refine bx_X1_find_3 hY (pf2_ok hY) ?_
      simp only [wp_iconst, wp_bipush, wp_sipush, wp_ldc, wp_ldc2_w, wp_lconst0, wp_lconst1, wp_aconst_null, wp_iload_0, wp_istore_0, wp_iload_1, wp_istore_1, wp_iload_2, wp_istore_2, wp_iload_3, wp_istore_3, wp_iload, wp_istore, wp_lload_0, wp_lstore_0, wp_lload_1, wp_lstore_1, wp_lload_2, wp_lstore_2, wp_lload_3, wp_lstore_3, wp_lload, wp_lstore, wp_aload_0, wp_astore_0, wp_aload_1, wp_astore_1, wp_aload_2, wp_astore_2, wp_aload_3, wp_astore_3, wp_aload, wp_astore, wp_iinc, wp_iadd, wp_isub, wp_imul, wp_iand, wp_ior, wp_ixor, wp_ishl, wp_ishr, wp_iushr, wp_irem, wp_ladd, wp_lsub, wp_lmul, wp_land, wp_lor, wp_lxor, wp_lshl, wp_lshr, wp_lushr, wp_lrem, wp_lcmp, wp_i2l, wp_l2i, wp_dupI, wp_dupA, wp_dup2J, wp_dup2IA, wp_popI, wp_popA, wp_pop2, wp_goto, wp_if_eq, wp_icmp_eq, wp_if_ne, wp_icmp_ne, wp_if_lt, wp_icmp_lt, wp_if_ge, wp_icmp_ge, wp_if_gt, wp_icmp_gt, wp_if_le, wp_icmp_le, wp_ifnull, wp_ifnonnull, wp_acmp_eq, wp_acmp_ne, wp_tableswitch, wp_get0, wp_put0, wp_get1, wp_put1, wp_get2, wp_put2, wp_get3, wp_put3, wp_new, wp_newarray, wp_anewarray, wp_alen, wp_iaload, wp_laload, wp_baload, wp_aaload, wp_iastore, wp_lastore, wp_bastore, wp_aastore, wp_return, wp_ireturnI, wp_ireturnZ, wp_lreturn, wp_areturnO, wp_areturnA, wp_max, wp_min, wp_obj, wp_virt, wp_nil, ld_I0, ld_Is, ld_J0, ld_Js, ld_A0, ld_As, ha_0, ha_s, cx_put1, cx_put2, cx_dl, cx_tgt, true_and, and_true, Nat.reduceAdd, Nat.reduceSub, Int.reduceAdd, Int.reduceNeg, Int.reduceToNat, Int.reduceSub, Int.cast_ofNat_Int, List.take_succ_cons, List.take_zero, List.drop_succ_cons, List.drop_zero, List.take_nil, List.drop_nil, Option.toList_some, Option.toList_none, List.cons_append, List.nil_append, wp_spec, ne_eq, Nat.reduceEqDiff, not_false_eq_true, true_or, or_true, hs, eb0, sb0, zb0, eb1, sb1, zb1, ra_171, ra_172]
      refine ⟨fun _ => ?_, fun q => absurd q (by omega)⟩
      refine bx_X1_find_44 hY (pf2_ok hY) ?_
      simp only [wp_iconst, wp_bipush, wp_sipush, wp_ldc, wp_ldc2_w, wp_lconst0, wp_lconst1, wp_aconst_null, wp_iload_0, wp_istore_0, wp_iload_1, wp_istore_1, wp_iload_2, wp_istore_2, wp_iload_3, wp_istore_3, wp_iload, wp_istore, wp_lload_0, wp_lstore_0, wp_lload_1, wp_lstore_1, wp_lload_2, wp_lstore_2, wp_lload_3, wp_lstore_3, wp_lload, wp_lstore, wp_aload_0, wp_astore_0, wp_aload_1, wp_astore_1, wp_aload_2, wp_astore_2, wp_aload_3, wp_astore_3, wp_aload, wp_astore, wp_iinc, wp_iadd, wp_isub, wp_imul, wp_iand, wp_ior, wp_ixor, wp_ishl, wp_ishr, wp_iushr, wp_irem, wp_ladd, wp_lsub, wp_lmul, wp_land, wp_lor, wp_lxor, wp_lshl, wp_lshr, wp_lushr, wp_lrem, wp_lcmp, wp_i2l, wp_l2i, wp_dupI, wp_dupA, wp_dup2J, wp_dup2IA, wp_popI, wp_popA, wp_pop2, wp_goto, wp_if_eq, wp_icmp_eq, wp_if_ne, wp_icmp_ne, wp_if_lt, wp_icmp_lt, wp_if_ge, wp_icmp_ge, wp_if_gt, wp_icmp_gt, wp_if_le, wp_icmp_le, wp_ifnull, wp_ifnonnull, wp_acmp_eq, wp_acmp_ne, wp_tableswitch, wp_get0, wp_put0, wp_get1, wp_put1, wp_get2, wp_put2, wp_get3, wp_put3, wp_new, wp_newarray, wp_anewarray, wp_alen, wp_iaload, wp_laload, wp_baload, wp_aaload, wp_iastore, wp_lastore, wp_bastore, wp_aastore, wp_return, wp_ireturnI, wp_ireturnZ, wp_lreturn, wp_areturnO, wp_areturnA, wp_max, wp_min, wp_obj, wp_virt, wp_nil, ld_I0, ld_Is, ld_J0, ld_Js, ld_A0, ld_As, ha_0, ha_s, cx_put1, cx_put2, cx_dl, cx_tgt, true_and, and_true, Nat.reduceAdd, Nat.reduceSub, Int.reduceAdd, Int.reduceNeg, Int.reduceToNat, Int.reduceSub, Int.cast_ofNat_Int, List.take_succ_cons, List.take_zero, List.drop_succ_cons, List.drop_zero, List.take_nil, List.drop_nil, Option.toList_some, Option.toList_none, List.cons_append, List.nil_append, wp_spec, ne_eq, Nat.reduceEqDiff, not_false_eq_true, true_or, or_true]
      exact hK
    | succ m ih =>
      intro k h1 h2 hK
      have j38 : ¬ (cq_J h b0 k = u ∧ cq_I h b1 k = p) → cw Y mi_X1_find K 38 [some (.inr (.inr (some a))), some (.inr (.inl u)), none, some (.inl p), some (.inl k)] [] h 0 0 := by
        intro w
        have e : kfi h b0 b1 u p (m + 1) k = kfi h b0 b1 u p m (k + 1) := by unfold kfi; rw [m_ka, Int.zero_add, if_neg w]
        rw [e] at hK
        refine bx_X1_find_38 hY (pf2_ok hY) ?_
        simp only [wp_iconst, wp_bipush, wp_sipush, wp_ldc, wp_ldc2_w, wp_lconst0, wp_lconst1, wp_aconst_null, wp_iload_0, wp_istore_0, wp_iload_1, wp_istore_1, wp_iload_2, wp_istore_2, wp_iload_3, wp_istore_3, wp_iload, wp_istore, wp_lload_0, wp_lstore_0, wp_lload_1, wp_lstore_1, wp_lload_2, wp_lstore_2, wp_lload_3, wp_lstore_3, wp_lload, wp_lstore, wp_aload_0, wp_astore_0, wp_aload_1, wp_astore_1, wp_aload_2, wp_astore_2, wp_aload_3, wp_astore_3, wp_aload, wp_astore, wp_iinc, wp_iadd, wp_isub, wp_imul, wp_iand, wp_ior, wp_ixor, wp_ishl, wp_ishr, wp_iushr, wp_irem, wp_ladd, wp_lsub, wp_lmul, wp_land, wp_lor, wp_lxor, wp_lshl, wp_lshr, wp_lushr, wp_lrem, wp_lcmp, wp_i2l, wp_l2i, wp_dupI, wp_dupA, wp_dup2J, wp_dup2IA, wp_popI, wp_popA, wp_pop2, wp_goto, wp_if_eq, wp_icmp_eq, wp_if_ne, wp_icmp_ne, wp_if_lt, wp_icmp_lt, wp_if_ge, wp_icmp_ge, wp_if_gt, wp_icmp_gt, wp_if_le, wp_icmp_le, wp_ifnull, wp_ifnonnull, wp_acmp_eq, wp_acmp_ne, wp_tableswitch, wp_get0, wp_put0, wp_get1, wp_put1, wp_get2, wp_put2, wp_get3, wp_put3, wp_new, wp_newarray, wp_anewarray, wp_alen, wp_iaload, wp_laload, wp_baload, wp_aaload, wp_iastore, wp_lastore, wp_bastore, wp_aastore, wp_return, wp_ireturnI, wp_ireturnZ, wp_lreturn, wp_areturnO, wp_areturnA, wp_max, wp_min, wp_obj, wp_virt, wp_nil, ld_I0, ld_Is, ld_J0, ld_Js, ld_A0, ld_As, ha_0, ha_s, cx_put1, cx_put2, cx_dl, cx_tgt, true_and, and_true, Nat.reduceAdd, Nat.reduceSub, Int.reduceAdd, Int.reduceNeg, Int.reduceToNat, Int.reduceSub, Int.cast_ofNat_Int, List.take_succ_cons, List.take_zero, List.drop_succ_cons, List.drop_zero, List.take_nil, List.drop_nil, Option.toList_some, Option.toList_none, List.cons_append, List.nil_append, wp_spec, ne_eq, Nat.reduceEqDiff, not_false_eq_true, true_or, or_true, cx_rg]
        exact ⟨by omega, ih (k + 1) (by omega) (by omega) hK⟩
      refine bx_X1_find_3 hY (pf2_ok hY) ?_
      simp only [wp_iconst, wp_bipush, wp_sipush, wp_ldc, wp_ldc2_w, wp_lconst0, wp_lconst1, wp_aconst_null, wp_iload_0, wp_istore_0, wp_iload_1, wp_istore_1, wp_iload_2, wp_istore_2, wp_iload_3, wp_istore_3, wp_iload, wp_istore, wp_lload_0, wp_lstore_0, wp_lload_1, wp_lstore_1, wp_lload_2, wp_lstore_2, wp_lload_3, wp_lstore_3, wp_lload, wp_lstore, wp_aload_0, wp_astore_0, wp_aload_1, wp_astore_1, wp_aload_2, wp_astore_2, wp_aload_3, wp_astore_3, wp_aload, wp_astore, wp_iinc, wp_iadd, wp_isub, wp_imul, wp_iand, wp_ior, wp_ixor, wp_ishl, wp_ishr, wp_iushr, wp_irem, wp_ladd, wp_lsub, wp_lmul, wp_land, wp_lor, wp_lxor, wp_lshl, wp_lshr, wp_lushr, wp_lrem, wp_lcmp, wp_i2l, wp_l2i, wp_dupI, wp_dupA, wp_dup2J, wp_dup2IA, wp_popI, wp_popA, wp_pop2, wp_goto, wp_if_eq, wp_icmp_eq, wp_if_ne, wp_icmp_ne, wp_if_lt, wp_icmp_lt, wp_if_ge, wp_icmp_ge, wp_if_gt, wp_icmp_gt, wp_if_le, wp_icmp_le, wp_ifnull, wp_ifnonnull, wp_acmp_eq, wp_acmp_ne, wp_tableswitch, wp_get0, wp_put0, wp_get1, wp_put1, wp_get2, wp_put2, wp_get3, wp_put3, wp_new, wp_newarray, wp_anewarray, wp_alen, wp_iaload, wp_laload, wp_baload, wp_aaload, wp_iastore, wp_lastore, wp_bastore, wp_aastore, wp_return, wp_ireturnI, wp_ireturnZ, wp_lreturn, wp_areturnO, wp_areturnA, wp_max, wp_min, wp_obj, wp_virt, wp_nil, ld_I0, ld_Is, ld_J0, ld_Js, ld_A0, ld_As, ha_0, ha_s, cx_put1, cx_put2, cx_dl, cx_tgt, true_and, and_true, Nat.reduceAdd, Nat.reduceSub, Int.reduceAdd, Int.reduceNeg, Int.reduceToNat, Int.reduceSub, Int.cast_ofNat_Int, List.take_succ_cons, List.take_zero, List.drop_succ_cons, List.drop_zero, List.take_nil, List.drop_nil, Option.toList_some, Option.toList_none, List.cons_append, List.nil_append, wp_spec, ne_eq, Nat.reduceEqDiff, not_false_eq_true, true_or, or_true, hs, eb0, sb0, zb0, eb1, sb1, zb1, ra_171, ra_172, cx_lcp_eq]
      refine ⟨fun q => absurd q (by omega), fun _ => ⟨by omega, fun q => j38 (fun w => q w.1), fun q => ⟨by omega, fun q2 => j38 (fun w => q2 w.2), fun q2 => ?_⟩⟩⟩
      have w1 : cq_J h b0 k = u := Classical.not_not.mp q
      have w2 : cq_I h b1 k = p := Classical.not_not.mp q2
      have em : m_ka (cq_J h b0) (cq_I h b1) u p 0 (m + 1) k = k := by rw [m_ka, Int.zero_add, if_pos ⟨w1, w2⟩]
      have e : kfi h b0 b1 u p (m + 1) k = k := by unfold kfi; rw [em, if_neg (by omega)]
      rw [e] at hK
      exact hK
  refine bx_X1_find_0 hY (pf2_ok hY) ?_
  simp only [wp_iconst, wp_bipush, wp_sipush, wp_ldc, wp_ldc2_w, wp_lconst0, wp_lconst1, wp_aconst_null, wp_iload_0, wp_istore_0, wp_iload_1, wp_istore_1, wp_iload_2, wp_istore_2, wp_iload_3, wp_istore_3, wp_iload, wp_istore, wp_lload_0, wp_lstore_0, wp_lload_1, wp_lstore_1, wp_lload_2, wp_lstore_2, wp_lload_3, wp_lstore_3, wp_lload, wp_lstore, wp_aload_0, wp_astore_0, wp_aload_1, wp_astore_1, wp_aload_2, wp_astore_2, wp_aload_3, wp_astore_3, wp_aload, wp_astore, wp_iinc, wp_iadd, wp_isub, wp_imul, wp_iand, wp_ior, wp_ixor, wp_ishl, wp_ishr, wp_iushr, wp_irem, wp_ladd, wp_lsub, wp_lmul, wp_land, wp_lor, wp_lxor, wp_lshl, wp_lshr, wp_lushr, wp_lrem, wp_lcmp, wp_i2l, wp_l2i, wp_dupI, wp_dupA, wp_dup2J, wp_dup2IA, wp_popI, wp_popA, wp_pop2, wp_goto, wp_if_eq, wp_icmp_eq, wp_if_ne, wp_icmp_ne, wp_if_lt, wp_icmp_lt, wp_if_ge, wp_icmp_ge, wp_if_gt, wp_icmp_gt, wp_if_le, wp_icmp_le, wp_ifnull, wp_ifnonnull, wp_acmp_eq, wp_acmp_ne, wp_tableswitch, wp_get0, wp_put0, wp_get1, wp_put1, wp_get2, wp_put2, wp_get3, wp_put3, wp_new, wp_newarray, wp_anewarray, wp_alen, wp_iaload, wp_laload, wp_baload, wp_aaload, wp_iastore, wp_lastore, wp_bastore, wp_aastore, wp_return, wp_ireturnI, wp_ireturnZ, wp_lreturn, wp_areturnO, wp_areturnA, wp_max, wp_min, wp_obj, wp_virt, wp_nil, ld_I0, ld_Is, ld_J0, ld_Js, ld_A0, ld_As, ha_0, ha_s, cx_put1, cx_put2, cx_dl, cx_tgt, true_and, and_true, Nat.reduceAdd, Nat.reduceSub, Int.reduceAdd, Int.reduceNeg, Int.reduceToNat, Int.reduceSub, Int.cast_ofNat_Int, List.take_succ_cons, List.take_zero, List.drop_succ_cons, List.drop_zero, List.take_nil, List.drop_nil, Option.toList_some, Option.toList_none, List.cons_append, List.nil_append, wp_spec, ne_eq, Nat.reduceEqDiff, not_false_eq_true, true_or, or_true]
  exact loop (cq_I h a 4).toNat 0 (by omega) (by omega) hK
theorem e_X1_keyAt (hY : cY Y) {a b : Nat} {m : Int} (H : CI c n L Z E h0 X h) (hs : cq_s h a = 1) (eb : cq_A h a 2 = some b) (hm : 0 ≤ m ∧ m < cq_I h a 4) (hK : K (some (.inr (.inl (cq_J h b m)))) h) : cw Y mi_X1_keyAt K 0 [some (.inr (.inr (some a))), some (.inl m)] [] h 0 0 := by
  have sb : cq_s h b = 173 := H.ta hs (own_9 (by decide)) eb
  have zb : cq_z h b = 20 := H.tz sb
  have i1 := H.i1_4 hs
  refine bx_X1_keyAt_0 hY (pf2_ok hY) ?_
  simp only [wp_iconst, wp_bipush, wp_sipush, wp_ldc, wp_ldc2_w, wp_lconst0, wp_lconst1, wp_aconst_null, wp_iload_0, wp_istore_0, wp_iload_1, wp_istore_1, wp_iload_2, wp_istore_2, wp_iload_3, wp_istore_3, wp_iload, wp_istore, wp_lload_0, wp_lstore_0, wp_lload_1, wp_lstore_1, wp_lload_2, wp_lstore_2, wp_lload_3, wp_lstore_3, wp_lload, wp_lstore, wp_aload_0, wp_astore_0, wp_aload_1, wp_astore_1, wp_aload_2, wp_astore_2, wp_aload_3, wp_astore_3, wp_aload, wp_astore, wp_iinc, wp_iadd, wp_isub, wp_imul, wp_iand, wp_ior, wp_ixor, wp_ishl, wp_ishr, wp_iushr, wp_irem, wp_ladd, wp_lsub, wp_lmul, wp_land, wp_lor, wp_lxor, wp_lshl, wp_lshr, wp_lushr, wp_lrem, wp_lcmp, wp_i2l, wp_l2i, wp_dupI, wp_dupA, wp_dup2J, wp_dup2IA, wp_popI, wp_popA, wp_pop2, wp_goto, wp_if_eq, wp_icmp_eq, wp_if_ne, wp_icmp_ne, wp_if_lt, wp_icmp_lt, wp_if_ge, wp_icmp_ge, wp_if_gt, wp_icmp_gt, wp_if_le, wp_icmp_le, wp_ifnull, wp_ifnonnull, wp_acmp_eq, wp_acmp_ne, wp_tableswitch, wp_get0, wp_put0, wp_get1, wp_put1, wp_get2, wp_put2, wp_get3, wp_put3, wp_new, wp_newarray, wp_anewarray, wp_alen, wp_iaload, wp_laload, wp_baload, wp_aaload, wp_iastore, wp_lastore, wp_bastore, wp_aastore, wp_return, wp_ireturnI, wp_ireturnZ, wp_lreturn, wp_areturnO, wp_areturnA, wp_max, wp_min, wp_obj, wp_virt, wp_nil, ld_I0, ld_Is, ld_J0, ld_Js, ld_A0, ld_As, ha_0, ha_s, cx_put1, cx_put2, cx_dl, cx_tgt, true_and, and_true, Nat.reduceAdd, Nat.reduceSub, Int.reduceAdd, Int.reduceNeg, Int.reduceToNat, Int.reduceSub, Int.cast_ofNat_Int, List.take_succ_cons, List.take_zero, List.drop_succ_cons, List.drop_zero, List.take_nil, List.drop_nil, Option.toList_some, Option.toList_none, List.cons_append, List.nil_append, wp_spec, ne_eq, Nat.reduceEqDiff, not_false_eq_true, true_or, or_true, hs, eb, sb, zb, ra_173]
  refine ⟨fun q => absurd q (by omega), fun q => ⟨fun q2 => absurd q2 (by omega), fun q2 => ⟨by omega, ?_⟩⟩⟩
  refine bx_X1_keyAt_22 hY (pf2_ok hY) ?_
  simp only [wp_iconst, wp_bipush, wp_sipush, wp_ldc, wp_ldc2_w, wp_lconst0, wp_lconst1, wp_aconst_null, wp_iload_0, wp_istore_0, wp_iload_1, wp_istore_1, wp_iload_2, wp_istore_2, wp_iload_3, wp_istore_3, wp_iload, wp_istore, wp_lload_0, wp_lstore_0, wp_lload_1, wp_lstore_1, wp_lload_2, wp_lstore_2, wp_lload_3, wp_lstore_3, wp_lload, wp_lstore, wp_aload_0, wp_astore_0, wp_aload_1, wp_astore_1, wp_aload_2, wp_astore_2, wp_aload_3, wp_astore_3, wp_aload, wp_astore, wp_iinc, wp_iadd, wp_isub, wp_imul, wp_iand, wp_ior, wp_ixor, wp_ishl, wp_ishr, wp_iushr, wp_irem, wp_ladd, wp_lsub, wp_lmul, wp_land, wp_lor, wp_lxor, wp_lshl, wp_lshr, wp_lushr, wp_lrem, wp_lcmp, wp_i2l, wp_l2i, wp_dupI, wp_dupA, wp_dup2J, wp_dup2IA, wp_popI, wp_popA, wp_pop2, wp_goto, wp_if_eq, wp_icmp_eq, wp_if_ne, wp_icmp_ne, wp_if_lt, wp_icmp_lt, wp_if_ge, wp_icmp_ge, wp_if_gt, wp_icmp_gt, wp_if_le, wp_icmp_le, wp_ifnull, wp_ifnonnull, wp_acmp_eq, wp_acmp_ne, wp_tableswitch, wp_get0, wp_put0, wp_get1, wp_put1, wp_get2, wp_put2, wp_get3, wp_put3, wp_new, wp_newarray, wp_anewarray, wp_alen, wp_iaload, wp_laload, wp_baload, wp_aaload, wp_iastore, wp_lastore, wp_bastore, wp_aastore, wp_return, wp_ireturnI, wp_ireturnZ, wp_lreturn, wp_areturnO, wp_areturnA, wp_max, wp_min, wp_obj, wp_virt, wp_nil, ld_I0, ld_Is, ld_J0, ld_Js, ld_A0, ld_As, ha_0, ha_s, cx_put1, cx_put2, cx_dl, cx_tgt, true_and, and_true, Nat.reduceAdd, Nat.reduceSub, Int.reduceAdd, Int.reduceNeg, Int.reduceToNat, Int.reduceSub, Int.cast_ofNat_Int, List.take_succ_cons, List.take_zero, List.drop_succ_cons, List.drop_zero, List.take_nil, List.drop_nil, Option.toList_some, Option.toList_none, List.cons_append, List.nil_append, wp_spec, ne_eq, Nat.reduceEqDiff, not_false_eq_true, true_or, or_true]
  exact hK
theorem e_X1_keep (hY : cY Y) {a b0 b1 b2 b3 : Nat} {u v : Int64} {p : Int} {o : Option Nat} (H : CI c n L Z E h0 X h) (hX : a ∉ X) (hs : cq_s h a = 1) (eb0 : cq_A h a 0 = some b0) (eb1 : cq_A h a 1 = some b1) (eb2 : cq_A h a 2 = some b2) (eb3 : cq_A h a 3 = some b3) (hE : E b3 ≠ none) (ho : ∀ b, o = some b → cq_s h b = 8) (hl : cq_I h a 4 < 20) (hK : ∀ g, CI c n L Z E h0 X g → ew (cq_sI (cq_sJ (cq_sI (cq_sJ h b0 (cq_I h a 4) u) b1 (cq_I h a 4) p) b2 (cq_I h a 4) v) a 4 (cq_I h a 4 + 1)) g → e4 h g b3 (fun r => if r = cq_I h a 4 then o else cq_A h b3 r) → cq_s g = cq_s h → K none g) : cw Y mi_X1_keep K 0 [some (.inr (.inr (some a))), some (.inr (.inl u)), none, some (.inl p), some (.inr (.inl v)), none, some (.inr (.inr o))] [] h 0 0 := by
  have sb0 : cq_s h b0 = 171 := H.ta hs (own_9 (by decide)) eb0
  have sb1 : cq_s h b1 = 172 := H.ta hs (own_9 (by decide)) eb1
  have sb2 : cq_s h b2 = 173 := H.ta hs (own_9 (by decide)) eb2
  have zb0 : cq_z h b0 = 20 := H.tz sb0
  have zb1 : cq_z h b1 = 20 := H.tz sb1
  have zb2 : cq_z h b2 = 20 := H.tz sb2
  have sb3 : cq_s h b3 = 174 := H.ta hs (own_9 (by decide)) eb3
  have zb3 : cq_z h b3 = 20 := H.tz sb3
  have i1 := H.i1_4 hs
  have n1 : ¬ a = b1 := ns hs sb1 (by decide)
  have n3 : ¬ a = b3 := ns hs sb3 (by decide)
  have j61 : ∀ g, K none g → cw Y mi_X1_keep K 61 [some (.inr (.inr (some a))), some (.inr (.inl u)), none, some (.inl p), some (.inr (.inl v)), none, some (.inr (.inr o))] [] g 0 0 := by
    intro g q
    refine bx_X1_keep_61 hY (pf2_ok hY) ?_
    simp only [wp_iconst, wp_bipush, wp_sipush, wp_ldc, wp_ldc2_w, wp_lconst0, wp_lconst1, wp_aconst_null, wp_iload_0, wp_istore_0, wp_iload_1, wp_istore_1, wp_iload_2, wp_istore_2, wp_iload_3, wp_istore_3, wp_iload, wp_istore, wp_lload_0, wp_lstore_0, wp_lload_1, wp_lstore_1, wp_lload_2, wp_lstore_2, wp_lload_3, wp_lstore_3, wp_lload, wp_lstore, wp_aload_0, wp_astore_0, wp_aload_1, wp_astore_1, wp_aload_2, wp_astore_2, wp_aload_3, wp_astore_3, wp_aload, wp_astore, wp_iinc, wp_iadd, wp_isub, wp_imul, wp_iand, wp_ior, wp_ixor, wp_ishl, wp_ishr, wp_iushr, wp_irem, wp_ladd, wp_lsub, wp_lmul, wp_land, wp_lor, wp_lxor, wp_lshl, wp_lshr, wp_lushr, wp_lrem, wp_lcmp, wp_i2l, wp_l2i, wp_dupI, wp_dupA, wp_dup2J, wp_dup2IA, wp_popI, wp_popA, wp_pop2, wp_goto, wp_if_eq, wp_icmp_eq, wp_if_ne, wp_icmp_ne, wp_if_lt, wp_icmp_lt, wp_if_ge, wp_icmp_ge, wp_if_gt, wp_icmp_gt, wp_if_le, wp_icmp_le, wp_ifnull, wp_ifnonnull, wp_acmp_eq, wp_acmp_ne, wp_tableswitch, wp_get0, wp_put0, wp_get1, wp_put1, wp_get2, wp_put2, wp_get3, wp_put3, wp_new, wp_newarray, wp_anewarray, wp_alen, wp_iaload, wp_laload, wp_baload, wp_aaload, wp_iastore, wp_lastore, wp_bastore, wp_aastore, wp_return, wp_ireturnI, wp_ireturnZ, wp_lreturn, wp_areturnO, wp_areturnA, wp_max, wp_min, wp_obj, wp_virt, wp_nil, ld_I0, ld_Is, ld_J0, ld_Js, ld_A0, ld_As, ha_0, ha_s, cx_put1, cx_put2, cx_dl, cx_tgt, true_and, and_true, Nat.reduceAdd, Nat.reduceSub, Int.reduceAdd, Int.reduceNeg, Int.reduceToNat, Int.reduceSub, Int.cast_ofNat_Int, List.take_succ_cons, List.take_zero, List.drop_succ_cons, List.drop_zero, List.take_nil, List.drop_nil, Option.toList_some, Option.toList_none, List.cons_append, List.nil_append, wp_spec, ne_eq, Nat.reduceEqDiff, not_false_eq_true, true_or, or_true]
    exact q
  refine bx_X1_keep_0 hY (pf2_ok hY) ?_
  simp only [wp_iconst, wp_bipush, wp_sipush, wp_ldc, wp_ldc2_w, wp_lconst0, wp_lconst1, wp_aconst_null, wp_iload_0, wp_istore_0, wp_iload_1, wp_istore_1, wp_iload_2, wp_istore_2, wp_iload_3, wp_istore_3, wp_iload, wp_istore, wp_lload_0, wp_lstore_0, wp_lload_1, wp_lstore_1, wp_lload_2, wp_lstore_2, wp_lload_3, wp_lstore_3, wp_lload, wp_lstore, wp_aload_0, wp_astore_0, wp_aload_1, wp_astore_1, wp_aload_2, wp_astore_2, wp_aload_3, wp_astore_3, wp_aload, wp_astore, wp_iinc, wp_iadd, wp_isub, wp_imul, wp_iand, wp_ior, wp_ixor, wp_ishl, wp_ishr, wp_iushr, wp_irem, wp_ladd, wp_lsub, wp_lmul, wp_land, wp_lor, wp_lxor, wp_lshl, wp_lshr, wp_lushr, wp_lrem, wp_lcmp, wp_i2l, wp_l2i, wp_dupI, wp_dupA, wp_dup2J, wp_dup2IA, wp_popI, wp_popA, wp_pop2, wp_goto, wp_if_eq, wp_icmp_eq, wp_if_ne, wp_icmp_ne, wp_if_lt, wp_icmp_lt, wp_if_ge, wp_icmp_ge, wp_if_gt, wp_icmp_gt, wp_if_le, wp_icmp_le, wp_ifnull, wp_ifnonnull, wp_acmp_eq, wp_acmp_ne, wp_tableswitch, wp_get0, wp_put0, wp_get1, wp_put1, wp_get2, wp_put2, wp_get3, wp_put3, wp_new, wp_newarray, wp_anewarray, wp_alen, wp_iaload, wp_laload, wp_baload, wp_aaload, wp_iastore, wp_lastore, wp_bastore, wp_aastore, wp_return, wp_ireturnI, wp_ireturnZ, wp_lreturn, wp_areturnO, wp_areturnA, wp_max, wp_min, wp_obj, wp_virt, wp_nil, ld_I0, ld_Is, ld_J0, ld_Js, ld_A0, ld_As, ha_0, ha_s, cx_put1, cx_put2, cx_dl, cx_tgt, true_and, and_true, Nat.reduceAdd, Nat.reduceSub, Int.reduceAdd, Int.reduceNeg, Int.reduceToNat, Int.reduceSub, Int.cast_ofNat_Int, List.take_succ_cons, List.take_zero, List.drop_succ_cons, List.drop_zero, List.take_nil, List.drop_nil, Option.toList_some, Option.toList_none, List.cons_append, List.nil_append, wp_spec, ne_eq, Nat.reduceEqDiff, not_false_eq_true, true_or, or_true, hs, eb0, sb0, zb0, eb1, sb1, zb1, eb2, sb2, zb2, eb3, sb3, zb3, ra_171, ra_172, ra_173, ra_174, mm_sI, mm_sJ, mm_sA, mm_IJ, mm_IA, mm_JI, mm_JA, mm_AI, mm_AJ, mm_ssI, mm_ssJ, mm_ssA, mm_zI, mm_zJ, mm_zA, mm_nI, mm_nJ, mm_nA, n1, n3, Nat.left_eq_add, Nat.add_eq_left, Nat.add_left_cancel_iff, Nat.reduceEqDiff, Int.reduceEq, false_and, and_false, if_false, if_true, and_self, true_and, true_or, or_true, false_or, or_false, cx_rg]
  refine ⟨fun q => absurd q (by omega), fun q => ?_⟩
  (repeat' (with_reducible (first | refine And.intro ?_ ?_ | intro _)))
  all_goals (try omega)
  · cases o with
    | none => trivial
    | some t => exact ho t rfl
  · have H1 := H.sJ (a := b0) (j := cq_I h a 4) (v := u) sb0 (own_h (by decide))
    have H2 := H1.sI (a := b1) (j := cq_I h a 4) (v := p) sb1 (own_h (by decide)) True.intro rfl
    have H3 := H2.sJ (a := b2) (j := cq_I h a 4) (v := v) sb2 (own_h (by decide))
    have H4 := H3.s174 (p := b3) (j := cq_I h a 4) (v := o) sb3 hE (fun b q => ho b q)
    have H5 := H4.sI (a := a) (j := 4) (v := cq_I h a 4 + 1) hs (own_9 (by decide)) ⟨by omega, by omega⟩ rfl
    exact j61 _ (hK _ H5 (((ew.refl).t4 (h' := cq_sJ (cq_sI (cq_sJ h b0 (cq_I h a 4) u) b1 (cq_I h a 4) p) b2 (cq_I h a 4) v) (a := b3) sb3).cI) (fun d s => by
      funext r
      rw [mm_AI, mm_sA]
      by_cases e : d = b3
      · rw [if_pos e, e]
        by_cases e2 : r = cq_I h a 4
        · rw [if_pos ⟨rfl, e2⟩, if_pos e2]
        · rw [if_neg (fun z => e2 z.2), if_neg e2]
          rfl
      · rw [if_neg (fun z => e z.1), if_neg e]
        rfl) rfl)
theorem kdr_n {a b0 b1 b2 : Nat} {m k v : Int} (hm : m ≤ k) (n02 : b0 ≠ b2) (n1 : a ≠ b1) : cq_sJ (cq_sI (cq_sJ (kdr h a b0 b1 b2 m k v) b0 k (cq_J h b0 (k + 1))) b1 k (cq_I h b1 (k + 1))) b2 k (cq_J h b2 (k + 1)) = kdr h a b0 b1 b2 m (k + 1) v := by
  have sh : ∀ {α : Type} (f : Int → α) (r : Int), (if r = k then f (k + 1) else shT f m k r) = shT f m (k + 1) r := by
    intro α f r
    unfold shT
    by_cases w : r = k
    · rw [if_pos w, if_pos ⟨by omega, by omega⟩, w]
    · rw [if_neg w]
      by_cases w2 : m ≤ r ∧ r < k
      · rw [if_pos w2, if_pos ⟨w2.1, by omega⟩]
      · rw [if_neg w2, if_neg (fun e => w2 ⟨e.1, by omega⟩)]
  refine qext rfl rfl rfl (fun q r => ?_) (fun q r => ?_) (fun q r => rfl)
  · unfold kdr
    simp only [mm_sI, mm_IJ, rr_I, rr_IJ]
    by_cases w : q = a ∧ r = 4
    · rw [if_neg (fun e => n1 (w.1.symm.trans e.1)), if_pos w, if_pos w]
    · rw [if_neg w, if_neg w]
      by_cases w1 : q = b1
      · rw [if_pos w1, if_pos w1, ← sh]
        by_cases w2 : r = k
        · rw [if_pos ⟨w1, w2⟩, if_pos w2]
        · rw [if_neg (fun e => w2 e.2), if_neg w2]
      · rw [if_neg (fun e => w1 e.1), if_neg w1, if_neg w1]
  · unfold kdr
    simp only [mm_sJ, mm_JI, rr_J, rr_JI]
    by_cases w2 : q = b2
    · rw [if_pos w2, if_pos w2, ← sh]
      by_cases wk : r = k
      · rw [if_pos ⟨w2, wk⟩, if_pos wk]
      · rw [if_neg (fun e => wk e.2), if_neg wk, if_neg (fun e => n02 (e.1.symm.trans w2))]
    · rw [if_neg (fun e => w2 e.1), if_neg w2, if_neg w2]
      by_cases w0 : q = b0
      · rw [if_pos w0, if_pos w0, ← sh]
        by_cases wk : r = k
        · rw [if_pos ⟨w0, wk⟩, if_pos wk]
        · rw [if_neg (fun e => wk e.2), if_neg wk]
      · rw [if_neg (fun e => w0 e.1), if_neg w0, if_neg w0]
theorem shT_0 {α : Type} {f : Int → α} {m : Int} : shT f m m = f := by
  funext r
  unfold shT
  rw [if_neg (by omega)]
theorem e_X1_drop (hY : cY Y) {a b0 b1 b2 b3 : Nat} {m : Int} (H : CI c n L Z E h0 X h) (hX : a ∉ X) (hs : cq_s h a = 1) (eb0 : cq_A h a 0 = some b0) (eb1 : cq_A h a 1 = some b1) (eb2 : cq_A h a 2 = some b2) (eb3 : cq_A h a 3 = some b3) (hE : E b3 ≠ none) (hm : 0 ≤ m ∧ m < cq_I h a 4) (hK : ∀ g, CI c n L Z E h0 X g → ew (kdr h a b0 b1 b2 m (cq_I h a 4 - 1) (cq_I h a 4 - 1)) g → e4 h g b3 (fun r => if r = cq_I h a 4 - 1 then none else shT (cq_A h b3) m (cq_I h a 4 - 1) r) → K none g) : cw Y mi_X1_drop K 0 [some (.inr (.inr (some a))), some (.inl m), none] [] h 0 0 := by
  have i1 := H.i1_4 hs
  have sb0 : cq_s h b0 = 171 := H.ta hs (own_9 (by decide)) eb0
  have sb1 : cq_s h b1 = 172 := H.ta hs (own_9 (by decide)) eb1
  have sb2 : cq_s h b2 = 173 := H.ta hs (own_9 (by decide)) eb2
  have sb3 : cq_s h b3 = 174 := H.ta hs (own_9 (by decide)) eb3
  have n02 : b0 ≠ b2 := ns sb0 sb2 (by decide)
  have n1 : ¬ a = b1 := ns hs sb1 (by decide)
  have n10 : ¬ b1 = a := fun e => n1 e.symm
  have hs3 := sb3
  have j104 : ∀ g lv, K none g → cw Y mi_X1_drop K 104 lv [] g 0 0 := by
    intro g lv q
    refine bx_X1_drop_104 hY (pf2_ok hY) ?_
    simp only [wp_iconst, wp_bipush, wp_sipush, wp_ldc, wp_ldc2_w, wp_lconst0, wp_lconst1, wp_aconst_null, wp_iload_0, wp_istore_0, wp_iload_1, wp_istore_1, wp_iload_2, wp_istore_2, wp_iload_3, wp_istore_3, wp_iload, wp_istore, wp_lload_0, wp_lstore_0, wp_lload_1, wp_lstore_1, wp_lload_2, wp_lstore_2, wp_lload_3, wp_lstore_3, wp_lload, wp_lstore, wp_aload_0, wp_astore_0, wp_aload_1, wp_astore_1, wp_aload_2, wp_astore_2, wp_aload_3, wp_astore_3, wp_aload, wp_astore, wp_iinc, wp_iadd, wp_isub, wp_imul, wp_iand, wp_ior, wp_ixor, wp_ishl, wp_ishr, wp_iushr, wp_irem, wp_ladd, wp_lsub, wp_lmul, wp_land, wp_lor, wp_lxor, wp_lshl, wp_lshr, wp_lushr, wp_lrem, wp_lcmp, wp_i2l, wp_l2i, wp_dupI, wp_dupA, wp_dup2J, wp_dup2IA, wp_popI, wp_popA, wp_pop2, wp_goto, wp_if_eq, wp_icmp_eq, wp_if_ne, wp_icmp_ne, wp_if_lt, wp_icmp_lt, wp_if_ge, wp_icmp_ge, wp_if_gt, wp_icmp_gt, wp_if_le, wp_icmp_le, wp_ifnull, wp_ifnonnull, wp_acmp_eq, wp_acmp_ne, wp_tableswitch, wp_get0, wp_put0, wp_get1, wp_put1, wp_get2, wp_put2, wp_get3, wp_put3, wp_new, wp_newarray, wp_anewarray, wp_alen, wp_iaload, wp_laload, wp_baload, wp_aaload, wp_iastore, wp_lastore, wp_bastore, wp_aastore, wp_return, wp_ireturnI, wp_ireturnZ, wp_lreturn, wp_areturnO, wp_areturnA, wp_max, wp_min, wp_obj, wp_virt, wp_nil, ld_I0, ld_Is, ld_J0, ld_Js, ld_A0, ld_As, ha_0, ha_s, cx_put1, cx_put2, cx_dl, cx_tgt, true_and, and_true, Nat.reduceAdd, Nat.reduceSub, Int.reduceAdd, Int.reduceNeg, Int.reduceToNat, Int.reduceSub, Int.cast_ofNat_Int, List.take_succ_cons, List.take_zero, List.drop_succ_cons, List.drop_zero, List.take_nil, List.drop_nil, Option.toList_some, Option.toList_none, List.cons_append, List.nil_append, wp_spec, ne_eq, Nat.reduceEqDiff, not_false_eq_true, true_or, or_true]
    exact q
  have fact : ∀ (k : Int) (g : cx_Q), m ≤ k → k < cq_I h a 4 → ew (kdr h a b0 b1 b2 m k (cq_I h a 4 - 1)) g → cq_s g a = 1 ∧ cq_A g a 0 = some b0 ∧ cq_A g a 1 = some b1 ∧ cq_A g a 2 = some b2 ∧ cq_A g a 3 = some b3 ∧ cq_I g a 4 = cq_I h a 4 - 1 ∧ cq_J g b0 (k + 1) = cq_J h b0 (k + 1) ∧ cq_I g b1 (k + 1) = cq_I h b1 (k + 1) ∧ cq_J g b2 (k + 1) = cq_J h b2 (k + 1) := by
    intro k g hk1 hk2 eg
    have ks : ∀ q, cq_s (kdr h a b0 b1 b2 m k (cq_I h a 4 - 1)) q = cq_s h q := fun _ => rfl
    have gA : cq_A g a = cq_A h a := eg.A ((ks a).trans hs) rfl
    refine ⟨eg.s ((ks a).trans hs) (by decide), by rw [gA]; exact eb0, by rw [gA]; exact eb1, by rw [gA]; exact eb2, by rw [gA]; exact eb3, ?_, ?_, ?_, ?_⟩
    · rw [eg.I ((ks a).trans hs) rfl]
      unfold kdr
      rw [mm_sI, if_pos ⟨rfl, rfl⟩]
    · rw [eg.J ((ks b0).trans sb0) (by decide)]
      unfold kdr
      rw [mm_JI, rr_J, if_neg n02, rr_JI, rr_J, if_pos rfl]
      unfold shT
      rw [if_neg (by omega)]
    · rw [eg.I ((ks b1).trans sb1) rfl]
      unfold kdr
      rw [mm_sI, if_neg (fun e => n10 e.1), rr_IJ, rr_I, if_pos rfl]
      unfold shT
      rw [if_neg (by omega)]
    · rw [eg.J ((ks b2).trans sb2) (by decide)]
      unfold kdr
      rw [mm_JI, rr_J, if_pos rfl]
      unfold shT
      rw [if_neg (by omega)]
  have loop : ∀ (r : Nat) (k : Int) (g : cx_Q), m ≤ k → CI c n L Z E h0 X g → ew (kdr h a b0 b1 b2 m k (cq_I h a 4 - 1)) g → e4 h g b3 (shT (cq_A h b3) m k) → cq_I h a 4 - 1 - k = r → cw Y mi_X1_drop K 24 [some (.inr (.inr (some a))), some (.inl m), some (.inl k)] [] g 0 0 := by
    intro r
    induction r with
    | zero =>
      intro k g h1 G eg e4_ h2
      obtain ⟨gs, g0, g1, g2, eb3, gi, gj0, gi1, gj2⟩ := fact k g h1 (by omega) eg
      have sb3 : cq_s g b3 = 174 := G.ta gs (own_9 (by decide)) eb3
      have zb3 : cq_z g b3 = 20 := G.tz sb3
      refine bx_X1_drop_24 hY (pf2_ok hY) ?_
      simp only [wp_iconst, wp_bipush, wp_sipush, wp_ldc, wp_ldc2_w, wp_lconst0, wp_lconst1, wp_aconst_null, wp_iload_0, wp_istore_0, wp_iload_1, wp_istore_1, wp_iload_2, wp_istore_2, wp_iload_3, wp_istore_3, wp_iload, wp_istore, wp_lload_0, wp_lstore_0, wp_lload_1, wp_lstore_1, wp_lload_2, wp_lstore_2, wp_lload_3, wp_lstore_3, wp_lload, wp_lstore, wp_aload_0, wp_astore_0, wp_aload_1, wp_astore_1, wp_aload_2, wp_astore_2, wp_aload_3, wp_astore_3, wp_aload, wp_astore, wp_iinc, wp_iadd, wp_isub, wp_imul, wp_iand, wp_ior, wp_ixor, wp_ishl, wp_ishr, wp_iushr, wp_irem, wp_ladd, wp_lsub, wp_lmul, wp_land, wp_lor, wp_lxor, wp_lshl, wp_lshr, wp_lushr, wp_lrem, wp_lcmp, wp_i2l, wp_l2i, wp_dupI, wp_dupA, wp_dup2J, wp_dup2IA, wp_popI, wp_popA, wp_pop2, wp_goto, wp_if_eq, wp_icmp_eq, wp_if_ne, wp_icmp_ne, wp_if_lt, wp_icmp_lt, wp_if_ge, wp_icmp_ge, wp_if_gt, wp_icmp_gt, wp_if_le, wp_icmp_le, wp_ifnull, wp_ifnonnull, wp_acmp_eq, wp_acmp_ne, wp_tableswitch, wp_get0, wp_put0, wp_get1, wp_put1, wp_get2, wp_put2, wp_get3, wp_put3, wp_new, wp_newarray, wp_anewarray, wp_alen, wp_iaload, wp_laload, wp_baload, wp_aaload, wp_iastore, wp_lastore, wp_bastore, wp_aastore, wp_return, wp_ireturnI, wp_ireturnZ, wp_lreturn, wp_areturnO, wp_areturnA, wp_max, wp_min, wp_obj, wp_virt, wp_nil, ld_I0, ld_Is, ld_J0, ld_Js, ld_A0, ld_As, ha_0, ha_s, cx_put1, cx_put2, cx_dl, cx_tgt, true_and, and_true, Nat.reduceAdd, Nat.reduceSub, Int.reduceAdd, Int.reduceNeg, Int.reduceToNat, Int.reduceSub, Int.cast_ofNat_Int, List.take_succ_cons, List.take_zero, List.drop_succ_cons, List.drop_zero, List.take_nil, List.drop_nil, Option.toList_some, Option.toList_none, List.cons_append, List.nil_append, wp_spec, ne_eq, Nat.reduceEqDiff, not_false_eq_true, true_or, or_true, gs]
      refine ⟨fun _ => ?_, fun q => absurd q (by omega)⟩
      refine bx_X1_drop_94 hY (pf2_ok hY) ?_
      simp only [wp_iconst, wp_bipush, wp_sipush, wp_ldc, wp_ldc2_w, wp_lconst0, wp_lconst1, wp_aconst_null, wp_iload_0, wp_istore_0, wp_iload_1, wp_istore_1, wp_iload_2, wp_istore_2, wp_iload_3, wp_istore_3, wp_iload, wp_istore, wp_lload_0, wp_lstore_0, wp_lload_1, wp_lstore_1, wp_lload_2, wp_lstore_2, wp_lload_3, wp_lstore_3, wp_lload, wp_lstore, wp_aload_0, wp_astore_0, wp_aload_1, wp_astore_1, wp_aload_2, wp_astore_2, wp_aload_3, wp_astore_3, wp_aload, wp_astore, wp_iinc, wp_iadd, wp_isub, wp_imul, wp_iand, wp_ior, wp_ixor, wp_ishl, wp_ishr, wp_iushr, wp_irem, wp_ladd, wp_lsub, wp_lmul, wp_land, wp_lor, wp_lxor, wp_lshl, wp_lshr, wp_lushr, wp_lrem, wp_lcmp, wp_i2l, wp_l2i, wp_dupI, wp_dupA, wp_dup2J, wp_dup2IA, wp_popI, wp_popA, wp_pop2, wp_goto, wp_if_eq, wp_icmp_eq, wp_if_ne, wp_icmp_ne, wp_if_lt, wp_icmp_lt, wp_if_ge, wp_icmp_ge, wp_if_gt, wp_icmp_gt, wp_if_le, wp_icmp_le, wp_ifnull, wp_ifnonnull, wp_acmp_eq, wp_acmp_ne, wp_tableswitch, wp_get0, wp_put0, wp_get1, wp_put1, wp_get2, wp_put2, wp_get3, wp_put3, wp_new, wp_newarray, wp_anewarray, wp_alen, wp_iaload, wp_laload, wp_baload, wp_aaload, wp_iastore, wp_lastore, wp_bastore, wp_aastore, wp_return, wp_ireturnI, wp_ireturnZ, wp_lreturn, wp_areturnO, wp_areturnA, wp_max, wp_min, wp_obj, wp_virt, wp_nil, ld_I0, ld_Is, ld_J0, ld_Js, ld_A0, ld_As, ha_0, ha_s, cx_put1, cx_put2, cx_dl, cx_tgt, true_and, and_true, Nat.reduceAdd, Nat.reduceSub, Int.reduceAdd, Int.reduceNeg, Int.reduceToNat, Int.reduceSub, Int.cast_ofNat_Int, List.take_succ_cons, List.take_zero, List.drop_succ_cons, List.drop_zero, List.take_nil, List.drop_nil, Option.toList_some, Option.toList_none, List.cons_append, List.nil_append, wp_spec, ne_eq, Nat.reduceEqDiff, not_false_eq_true, true_or, or_true, gs, eb3, sb3, zb3, ra_174]
      (repeat' (with_reducible (first | refine And.intro ?_ ?_ | intro _)))
      all_goals (try omega)
      · trivial
      · have ek : k = cq_I h a 4 - 1 := by omega
        rw [ek] at eg
        rw [ek] at e4_
        exact j104 _ _ (hK _ (G.s174 sb3 hE (fun b q => (nomatch q))) (eg.t4 sb3) (fun d s => by
          funext r
          rw [mm_sA, gi, e4_ d s]
          by_cases e : d = b3
          · rw [if_pos e, if_pos e]
            by_cases e2 : r = cq_I h a 4 - 1
            · rw [if_pos ⟨e, e2⟩, if_pos e2]
            · rw [if_neg (fun z => e2 z.2), if_neg e2]
          · rw [if_neg e, if_neg e, if_neg (fun z => e z.1)]))
    | succ r ih =>
      intro k g h1 G eg e4_ h2
      obtain ⟨gs, g0, g1, g2, eb3, gi, gj0, gi1, gj2⟩ := fact k g h1 (by omega) eg
      have sb3 : cq_s g b3 = 174 := G.ta gs (own_9 (by decide)) eb3
      have zb3 : cq_z g b3 = 20 := G.tz sb3
      have ks : ∀ q, cq_s (kdr h a b0 b1 b2 m k (cq_I h a 4 - 1)) q = cq_s h q := fun _ => rfl
      have gb0 : cq_s g b0 = 171 := eg.s ((ks b0).trans sb0) (by decide)
      have gb1 : cq_s g b1 = 172 := eg.s ((ks b1).trans sb1) (by decide)
      have gb2 : cq_s g b2 = 173 := eg.s ((ks b2).trans sb2) (by decide)
      have zb0 : cq_z g b0 = 20 := G.tz gb0
      have zb1 : cq_z g b1 = 20 := G.tz gb1
      have zb2 : cq_z g b2 = 20 := G.tz gb2
      have n3 : ¬ a = b3 := ns gs sb3 (by decide)
      have n20 : ¬ b2 = b0 := fun e => n02 e.symm
      refine bx_X1_drop_24 hY (pf2_ok hY) ?_
      simp only [wp_iconst, wp_bipush, wp_sipush, wp_ldc, wp_ldc2_w, wp_lconst0, wp_lconst1, wp_aconst_null, wp_iload_0, wp_istore_0, wp_iload_1, wp_istore_1, wp_iload_2, wp_istore_2, wp_iload_3, wp_istore_3, wp_iload, wp_istore, wp_lload_0, wp_lstore_0, wp_lload_1, wp_lstore_1, wp_lload_2, wp_lstore_2, wp_lload_3, wp_lstore_3, wp_lload, wp_lstore, wp_aload_0, wp_astore_0, wp_aload_1, wp_astore_1, wp_aload_2, wp_astore_2, wp_aload_3, wp_astore_3, wp_aload, wp_astore, wp_iinc, wp_iadd, wp_isub, wp_imul, wp_iand, wp_ior, wp_ixor, wp_ishl, wp_ishr, wp_iushr, wp_irem, wp_ladd, wp_lsub, wp_lmul, wp_land, wp_lor, wp_lxor, wp_lshl, wp_lshr, wp_lushr, wp_lrem, wp_lcmp, wp_i2l, wp_l2i, wp_dupI, wp_dupA, wp_dup2J, wp_dup2IA, wp_popI, wp_popA, wp_pop2, wp_goto, wp_if_eq, wp_icmp_eq, wp_if_ne, wp_icmp_ne, wp_if_lt, wp_icmp_lt, wp_if_ge, wp_icmp_ge, wp_if_gt, wp_icmp_gt, wp_if_le, wp_icmp_le, wp_ifnull, wp_ifnonnull, wp_acmp_eq, wp_acmp_ne, wp_tableswitch, wp_get0, wp_put0, wp_get1, wp_put1, wp_get2, wp_put2, wp_get3, wp_put3, wp_new, wp_newarray, wp_anewarray, wp_alen, wp_iaload, wp_laload, wp_baload, wp_aaload, wp_iastore, wp_lastore, wp_bastore, wp_aastore, wp_return, wp_ireturnI, wp_ireturnZ, wp_lreturn, wp_areturnO, wp_areturnA, wp_max, wp_min, wp_obj, wp_virt, wp_nil, ld_I0, ld_Is, ld_J0, ld_Js, ld_A0, ld_As, ha_0, ha_s, cx_put1, cx_put2, cx_dl, cx_tgt, true_and, and_true, Nat.reduceAdd, Nat.reduceSub, Int.reduceAdd, Int.reduceNeg, Int.reduceToNat, Int.reduceSub, Int.cast_ofNat_Int, List.take_succ_cons, List.take_zero, List.drop_succ_cons, List.drop_zero, List.take_nil, List.drop_nil, Option.toList_some, Option.toList_none, List.cons_append, List.nil_append, wp_spec, ne_eq, Nat.reduceEqDiff, not_false_eq_true, true_or, or_true, gs, g0, gb0, zb0, g1, gb1, zb1, g2, gb2, zb2, eb3, sb3, zb3, ra_171, ra_172, ra_173, ra_174, mm_sI, mm_sJ, mm_sA, mm_IJ, mm_IA, mm_JI, mm_JA, mm_AI, mm_AJ, mm_ssI, mm_ssJ, mm_ssA, mm_zI, mm_zJ, mm_zA, mm_nI, mm_nJ, mm_nA, n1, n3, n20, Nat.left_eq_add, Nat.add_eq_left, Nat.add_left_cancel_iff, Nat.reduceEqDiff, Int.reduceEq, false_and, and_false, if_false, if_true, and_self, true_and, true_or, or_true, false_or, or_false, cx_rg, gj0, gi1, gj2]
      refine ⟨fun q => absurd q (by omega), fun q => ?_⟩
      (repeat' (with_reducible (first | refine And.intro ?_ ?_ | intro _)))
      all_goals (try omega)
      · cases q : cq_A g b3 (k + 1) with
        | none => trivial
        | some t => exact G.ta sb3 (own_h (by decide)) q
      · have H1 := G.sJ (a := b0) (j := k) (v := cq_J h b0 (k + 1)) gb0 (own_h (by decide))
        have H2 := H1.sI (a := b1) (j := k) (v := cq_I h b1 (k + 1)) gb1 (own_h (by decide)) True.intro rfl
        have H3 := H2.sJ (a := b2) (j := k) (v := cq_J h b2 (k + 1)) gb2 (own_h (by decide))
        have H4 := H3.s174 (p := b3) (j := k) (v := cq_A g b3 (k + 1)) sb3 hE (fun b q => (G.ta (j := k + 1) sb3 (own_h (by decide)) q : cq_s g b = 8))
        refine ih (k + 1) _ (by omega) H4 ?_ (fun d s => ?_) (by omega)
        rotate_left
        · funext r
          rw [mm_sA]
          show (if d = b3 ∧ r = k then cq_A g b3 (k + 1) else cq_A g d r) = _
          rw [e4_ d s, e4_ b3 hs3, if_pos rfl]
          by_cases e : d = b3
          · rw [if_pos e, if_pos e]
            unfold shT
            by_cases e2 : r = k
            · rw [if_pos ⟨e, e2⟩, if_neg (by omega), if_pos (by omega), e2]
            · rw [if_neg (fun z => e2 z.2)]
              by_cases e3 : m ≤ r ∧ r < k
              · rw [if_pos e3, if_pos (by omega)]
              · rw [if_neg e3, if_neg (by omega)]
          · rw [if_neg e, if_neg e, if_neg (fun z => e z.1)]
        rw [← kdr_n h1 n02 n1]
        exact (((eg.cJ (a := b0) (j := k) (w := cq_J h b0 (k + 1))).cI (a := b1) (j := k) (v := cq_I h b1 (k + 1))).cJ (a := b2) (j := k) (w := cq_J h b2 (k + 1))).t4 sb3
  refine bx_X1_drop_0 hY (pf2_ok hY) ?_
  simp only [wp_iconst, wp_bipush, wp_sipush, wp_ldc, wp_ldc2_w, wp_lconst0, wp_lconst1, wp_aconst_null, wp_iload_0, wp_istore_0, wp_iload_1, wp_istore_1, wp_iload_2, wp_istore_2, wp_iload_3, wp_istore_3, wp_iload, wp_istore, wp_lload_0, wp_lstore_0, wp_lload_1, wp_lstore_1, wp_lload_2, wp_lstore_2, wp_lload_3, wp_lstore_3, wp_lload, wp_lstore, wp_aload_0, wp_astore_0, wp_aload_1, wp_astore_1, wp_aload_2, wp_astore_2, wp_aload_3, wp_astore_3, wp_aload, wp_astore, wp_iinc, wp_iadd, wp_isub, wp_imul, wp_iand, wp_ior, wp_ixor, wp_ishl, wp_ishr, wp_iushr, wp_irem, wp_ladd, wp_lsub, wp_lmul, wp_land, wp_lor, wp_lxor, wp_lshl, wp_lshr, wp_lushr, wp_lrem, wp_lcmp, wp_i2l, wp_l2i, wp_dupI, wp_dupA, wp_dup2J, wp_dup2IA, wp_popI, wp_popA, wp_pop2, wp_goto, wp_if_eq, wp_icmp_eq, wp_if_ne, wp_icmp_ne, wp_if_lt, wp_icmp_lt, wp_if_ge, wp_icmp_ge, wp_if_gt, wp_icmp_gt, wp_if_le, wp_icmp_le, wp_ifnull, wp_ifnonnull, wp_acmp_eq, wp_acmp_ne, wp_tableswitch, wp_get0, wp_put0, wp_get1, wp_put1, wp_get2, wp_put2, wp_get3, wp_put3, wp_new, wp_newarray, wp_anewarray, wp_alen, wp_iaload, wp_laload, wp_baload, wp_aaload, wp_iastore, wp_lastore, wp_bastore, wp_aastore, wp_return, wp_ireturnI, wp_ireturnZ, wp_lreturn, wp_areturnO, wp_areturnA, wp_max, wp_min, wp_obj, wp_virt, wp_nil, ld_I0, ld_Is, ld_J0, ld_Js, ld_A0, ld_As, ha_0, ha_s, cx_put1, cx_put2, cx_dl, cx_tgt, true_and, and_true, Nat.reduceAdd, Nat.reduceSub, Int.reduceAdd, Int.reduceNeg, Int.reduceToNat, Int.reduceSub, Int.cast_ofNat_Int, List.take_succ_cons, List.take_zero, List.drop_succ_cons, List.drop_zero, List.take_nil, List.drop_nil, Option.toList_some, Option.toList_none, List.cons_append, List.nil_append, wp_spec, ne_eq, Nat.reduceEqDiff, not_false_eq_true, true_or, or_true, hs, cx_rg]
  refine ⟨fun q => absurd q (by omega), fun q => ⟨fun q => absurd q (by omega), fun q2 => ⟨by omega, ?_⟩⟩⟩
  refine loop (cq_I h a 4 - 1 - m).toNat m _ (Int.le_refl _) (H.sI hs (own_9 (by decide)) ⟨by omega, by omega⟩ rfl) ?_ (fun d s => ?_) (by omega)
  rotate_left
  · rw [shT_0]
    by_cases e : d = b3
    · rw [if_pos e, e]
      rfl
    · rw [if_neg e]
      rfl
  have : kdr h a b0 b1 b2 m m (cq_I h a 4 - 1) = cq_sI h a 4 (cq_I h a 4 - 1) := by
    unfold kdr
    rw [shT_0, shT_0, shT_0]
    refine qext rfl rfl rfl (fun q r => ?_) (fun q r => ?_) (fun q r => rfl)
    · simp only [mm_sI, rr_IJ, rr_I]
      split
      · rfl
      · split
        · rename_i w; rw [w]
        · rfl
    · simp only [mm_JI, rr_J, rr_JI]
      split
      · rename_i w; rw [w]
      · split
        · rename_i w; rw [w]
        · rfl
  rw [this]
  exact ew.refl
end
