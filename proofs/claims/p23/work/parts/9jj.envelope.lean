/-! the class, exactly: a letter is taken apart -/
/-- so many bytes as a number -/
def bF (f : Int → Int) (p m : Int) : Int64 := m_ba f p m.toNat 0 (Int64.ofInt 0)
theorem lsl_0 {a : Int64} : cx_lsl (Int64.ofInt 0) (Int32.ofInt 8) ||| a = a := by
  have : cx_lsl (Int64.ofInt 0) (Int32.ofInt 8) = 0 := by decide
  rw [this]
  exact Int64.zero_or
theorem bF_1 {f : Int → Int} {p : Int} (hf : 0 ≤ f p ∧ f p ≤ 255) : (bF f p 1).toInt32.toInt = f p := by
  have e : bF f p 1 = Int64.ofInt (f p) := by
    unfold bF
    have e2 : (1 : Int).toNat = 0 + 1 := rfl
    rw [e2, m_ba_s, lsl_0]
    unfold m_ba
    rw [m_fold, Int.add_zero]
  rw [e, two_i (by omega) (by omega)]
theorem bF_2 {f : Int → Int} {p : Int} (h1 : 0 ≤ f p ∧ f p ≤ 255) (h2 : 0 ≤ f (p + 1) ∧ f (p + 1) ≤ 255) : (bF f p 2).toInt32.toInt = 256 * f p + f (p + 1) := by
  have e : bF f p 2 = cx_lsl (Int64.ofInt (f p)) (Int32.ofInt 8) ||| Int64.ofInt (f (p + 1)) := by
    unfold bF
    have e2 : (2 : Int).toNat = 0 + 1 + 1 := rfl
    rw [e2, m_ba_s, m_ba_s, lsl_0]
    unfold m_ba
    rw [m_fold, Int.add_zero, Int.zero_add]
  rw [e]
  generalize f p = a at h1
  generalize f (p + 1) = b at h2
  obtain ⟨a', rfl⟩ := Int.eq_ofNat_of_zero_le h1.1
  obtain ⟨b', rfl⟩ := Int.eq_ofNat_of_zero_le h2.1
  rw [two_b (by omega) (by omega), two_i (by omega) (by omega)]
  omega
/-- the bytes of this letter, with nothing behind them -/
def bfP (h : cx_Q) (b : Nat) (f : Int → Int) : Prop := ∀ k, 0 ≤ k → f k = if k < cq_z h b then cq_I h b k else 0
section
variable {Y : cx_Y} {K : Option cx_V → cx_Q → Prop} {c : Nat} {n L Z : Int} {E : Nat → Option Int} {h0 : cx_Q} {X : List Nat} {h : cx_Q}
theorem e_X0_take (hY : cY Y) {a b : Nat} {m p : Int} {f : Int → Int} (H : CI c n L Z E h0 X h) (hs : cq_s h a = 0) (eb : cq_A h a 0 = some b) (hf : bfP h b f) (hp : cq_I h a 1 = p) (hm : 0 ≤ m ∧ m ≤ 8) (hat : 0 ≤ p ∧ p ≤ 300) (hK : ∀ g, CI c n L Z E h0 X g → g = cq_sI h a 1 (p + m) → K (some (.inr (.inl (bF f p m)))) g) : cw Y mi_X0_take K 0 [some (.inr (.inr (some a))), some (.inl m), none, none, none] [] h 0 0 := by
  have sb : cq_s h b = 100 := H.ta hs (own_9 (by decide)) eb
  have nba : ¬ b = a := ns sb hs (by decide)
  have loop : ∀ (r : Nat) (k : Int) (u : Int64) (g : cx_Q), 0 ≤ k → k + r = m → CI c n L Z E h0 X g → g = cq_sI h a 1 (p + k) → (∀ g, CI c n L Z E h0 X g → g = cq_sI h a 1 (p + m) → K (some (.inr (.inl (m_ba f p r k u)))) g) → cw Y mi_X0_take K 5 [some (.inr (.inr (some a))), some (.inl m), some (.inr (.inl u)), none, some (.inl k)] [] g 0 0 := by
    intro r
    induction r with
    | zero =>
      intro k u g h1 h2 G eg hK
      have ek : k = m := by omega
      have e : m_ba f p 0 k u = u := by unfold m_ba; rw [m_fold]
      rw [e] at hK
      refine bx_X0_take_5 hY (pf2_ok hY) ?_
      simp only [wp_iconst, wp_bipush, wp_sipush, wp_ldc, wp_ldc2_w, wp_lconst0, wp_lconst1, wp_aconst_null, wp_iload_0, wp_istore_0, wp_iload_1, wp_istore_1, wp_iload_2, wp_istore_2, wp_iload_3, wp_istore_3, wp_iload, wp_istore, wp_lload_0, wp_lstore_0, wp_lload_1, wp_lstore_1, wp_lload_2, wp_lstore_2, wp_lload_3, wp_lstore_3, wp_lload, wp_lstore, wp_aload_0, wp_astore_0, wp_aload_1, wp_astore_1, wp_aload_2, wp_astore_2, wp_aload_3, wp_astore_3, wp_aload, wp_astore, wp_iinc, wp_iadd, wp_isub, wp_imul, wp_iand, wp_ior, wp_ixor, wp_ishl, wp_ishr, wp_iushr, wp_irem, wp_ladd, wp_lsub, wp_lmul, wp_land, wp_lor, wp_lxor, wp_lshl, wp_lshr, wp_lushr, wp_lrem, wp_lcmp, wp_i2l, wp_l2i, wp_dupI, wp_dupA, wp_dup2J, wp_dup2IA, wp_popI, wp_popA, wp_pop2, wp_goto, wp_if_eq, wp_icmp_eq, wp_if_ne, wp_icmp_ne, wp_if_lt, wp_icmp_lt, wp_if_ge, wp_icmp_ge, wp_if_gt, wp_icmp_gt, wp_if_le, wp_icmp_le, wp_ifnull, wp_ifnonnull, wp_acmp_eq, wp_acmp_ne, wp_tableswitch, wp_get0, wp_put0, wp_get1, wp_put1, wp_get2, wp_put2, wp_get3, wp_put3, wp_new, wp_newarray, wp_anewarray, wp_alen, wp_iaload, wp_laload, wp_baload, wp_aaload, wp_iastore, wp_lastore, wp_bastore, wp_aastore, wp_return, wp_ireturnI, wp_ireturnZ, wp_lreturn, wp_areturnO, wp_areturnA, wp_max, wp_min, wp_obj, wp_virt, wp_nil, ld_I0, ld_Is, ld_J0, ld_Js, ld_A0, ld_As, ha_0, ha_s, cx_put1, cx_put2, cx_dl, cx_tgt, true_and, and_true, Nat.reduceAdd, Nat.reduceSub, Int.reduceAdd, Int.reduceNeg, Int.reduceToNat, Int.reduceSub, Int.cast_ofNat_Int, List.take_succ_cons, List.take_zero, List.drop_succ_cons, List.drop_zero, List.take_nil, List.drop_nil, Option.toList_some, Option.toList_none, List.cons_append, List.nil_append, wp_spec, ne_eq, Nat.reduceEqDiff, not_false_eq_true, true_or, or_true]
      refine ⟨fun _ => ?_, fun q => absurd q (by omega)⟩
      refine bx_X0_take_59 hY (pf2_ok hY) ?_
      simp only [wp_iconst, wp_bipush, wp_sipush, wp_ldc, wp_ldc2_w, wp_lconst0, wp_lconst1, wp_aconst_null, wp_iload_0, wp_istore_0, wp_iload_1, wp_istore_1, wp_iload_2, wp_istore_2, wp_iload_3, wp_istore_3, wp_iload, wp_istore, wp_lload_0, wp_lstore_0, wp_lload_1, wp_lstore_1, wp_lload_2, wp_lstore_2, wp_lload_3, wp_lstore_3, wp_lload, wp_lstore, wp_aload_0, wp_astore_0, wp_aload_1, wp_astore_1, wp_aload_2, wp_astore_2, wp_aload_3, wp_astore_3, wp_aload, wp_astore, wp_iinc, wp_iadd, wp_isub, wp_imul, wp_iand, wp_ior, wp_ixor, wp_ishl, wp_ishr, wp_iushr, wp_irem, wp_ladd, wp_lsub, wp_lmul, wp_land, wp_lor, wp_lxor, wp_lshl, wp_lshr, wp_lushr, wp_lrem, wp_lcmp, wp_i2l, wp_l2i, wp_dupI, wp_dupA, wp_dup2J, wp_dup2IA, wp_popI, wp_popA, wp_pop2, wp_goto, wp_if_eq, wp_icmp_eq, wp_if_ne, wp_icmp_ne, wp_if_lt, wp_icmp_lt, wp_if_ge, wp_icmp_ge, wp_if_gt, wp_icmp_gt, wp_if_le, wp_icmp_le, wp_ifnull, wp_ifnonnull, wp_acmp_eq, wp_acmp_ne, wp_tableswitch, wp_get0, wp_put0, wp_get1, wp_put1, wp_get2, wp_put2, wp_get3, wp_put3, wp_new, wp_newarray, wp_anewarray, wp_alen, wp_iaload, wp_laload, wp_baload, wp_aaload, wp_iastore, wp_lastore, wp_bastore, wp_aastore, wp_return, wp_ireturnI, wp_ireturnZ, wp_lreturn, wp_areturnO, wp_areturnA, wp_max, wp_min, wp_obj, wp_virt, wp_nil, ld_I0, ld_Is, ld_J0, ld_Js, ld_A0, ld_As, ha_0, ha_s, cx_put1, cx_put2, cx_dl, cx_tgt, true_and, and_true, Nat.reduceAdd, Nat.reduceSub, Int.reduceAdd, Int.reduceNeg, Int.reduceToNat, Int.reduceSub, Int.cast_ofNat_Int, List.take_succ_cons, List.take_zero, List.drop_succ_cons, List.drop_zero, List.take_nil, List.drop_nil, Option.toList_some, Option.toList_none, List.cons_append, List.nil_append, wp_spec, ne_eq, Nat.reduceEqDiff, not_false_eq_true, true_or, or_true]
      rw [ek] at eg
      exact hK g G eg
    | succ r ih =>
      intro k u g h1 h2 G eg hK
      rw [m_ba_s] at hK
      have gs : cq_s g a = 0 := by rw [eg]; exact hs
      have g1 : cq_I g a 1 = p + k := by rw [eg, mm_sI, if_pos ⟨rfl, rfl⟩]
      have gb : cq_A g a 0 = some b := by rw [eg]; exact eb
      have gsb : cq_s g b = 100 := by rw [eg]; exact sb
      have gz : cq_z g b = cq_z h b := by rw [eg]; rfl
      have gI : ∀ j, cq_I g b j = cq_I h b j := fun j => by rw [eg, mm_sI, if_neg (fun e => nba e.1)]
      have j40 : ∀ v, v = f (p + k) → cw Y mi_X0_take K 40 [some (.inr (.inr (some a))), some (.inl m), some (.inr (.inl u)), none, some (.inl k)] [.inl v, .inr (.inl (cx_lsl u (Int32.ofInt 8)))] g 0 0 := by
        intro v hv
        refine bx_X0_take_40 hY (pf2_ok hY) ?_
        simp only [wp_iconst, wp_bipush, wp_sipush, wp_ldc, wp_ldc2_w, wp_lconst0, wp_lconst1, wp_aconst_null, wp_iload_0, wp_istore_0, wp_iload_1, wp_istore_1, wp_iload_2, wp_istore_2, wp_iload_3, wp_istore_3, wp_iload, wp_istore, wp_lload_0, wp_lstore_0, wp_lload_1, wp_lstore_1, wp_lload_2, wp_lstore_2, wp_lload_3, wp_lstore_3, wp_lload, wp_lstore, wp_aload_0, wp_astore_0, wp_aload_1, wp_astore_1, wp_aload_2, wp_astore_2, wp_aload_3, wp_astore_3, wp_aload, wp_astore, wp_iinc, wp_iadd, wp_isub, wp_imul, wp_iand, wp_ior, wp_ixor, wp_ishl, wp_ishr, wp_iushr, wp_irem, wp_ladd, wp_lsub, wp_lmul, wp_land, wp_lor, wp_lxor, wp_lshl, wp_lshr, wp_lushr, wp_lrem, wp_lcmp, wp_i2l, wp_l2i, wp_dupI, wp_dupA, wp_dup2J, wp_dup2IA, wp_popI, wp_popA, wp_pop2, wp_goto, wp_if_eq, wp_icmp_eq, wp_if_ne, wp_icmp_ne, wp_if_lt, wp_icmp_lt, wp_if_ge, wp_icmp_ge, wp_if_gt, wp_icmp_gt, wp_if_le, wp_icmp_le, wp_ifnull, wp_ifnonnull, wp_acmp_eq, wp_acmp_ne, wp_tableswitch, wp_get0, wp_put0, wp_get1, wp_put1, wp_get2, wp_put2, wp_get3, wp_put3, wp_new, wp_newarray, wp_anewarray, wp_alen, wp_iaload, wp_laload, wp_baload, wp_aaload, wp_iastore, wp_lastore, wp_bastore, wp_aastore, wp_return, wp_ireturnI, wp_ireturnZ, wp_lreturn, wp_areturnO, wp_areturnA, wp_max, wp_min, wp_obj, wp_virt, wp_nil, ld_I0, ld_Is, ld_J0, ld_Js, ld_A0, ld_As, ha_0, ha_s, cx_put1, cx_put2, cx_dl, cx_tgt, true_and, and_true, Nat.reduceAdd, Nat.reduceSub, Int.reduceAdd, Int.reduceNeg, Int.reduceToNat, Int.reduceSub, Int.cast_ofNat_Int, List.take_succ_cons, List.take_zero, List.drop_succ_cons, List.drop_zero, List.take_nil, List.drop_nil, Option.toList_some, Option.toList_none, List.cons_append, List.nil_append, wp_spec, ne_eq, Nat.reduceEqDiff, not_false_eq_true, true_or, or_true, gs, cx_rg, g1]
        (repeat' (with_reducible (first | refine And.intro ?_ ?_ | intro _)))
        all_goals (try omega)
        refine ih (k + 1) _ _ (by omega) (by omega) (G.sI gs (own_9 (by decide)) ⟨by omega, by omega⟩ rfl) ?_ ?_
        · rw [eg, sI_sI, Int.add_assoc]
        · rw [hv]; exact hK
      refine bx_X0_take_5 hY (pf2_ok hY) ?_
      simp only [wp_iconst, wp_bipush, wp_sipush, wp_ldc, wp_ldc2_w, wp_lconst0, wp_lconst1, wp_aconst_null, wp_iload_0, wp_istore_0, wp_iload_1, wp_istore_1, wp_iload_2, wp_istore_2, wp_iload_3, wp_istore_3, wp_iload, wp_istore, wp_lload_0, wp_lstore_0, wp_lload_1, wp_lstore_1, wp_lload_2, wp_lstore_2, wp_lload_3, wp_lstore_3, wp_lload, wp_lstore, wp_aload_0, wp_astore_0, wp_aload_1, wp_astore_1, wp_aload_2, wp_astore_2, wp_aload_3, wp_astore_3, wp_aload, wp_astore, wp_iinc, wp_iadd, wp_isub, wp_imul, wp_iand, wp_ior, wp_ixor, wp_ishl, wp_ishr, wp_iushr, wp_irem, wp_ladd, wp_lsub, wp_lmul, wp_land, wp_lor, wp_lxor, wp_lshl, wp_lshr, wp_lushr, wp_lrem, wp_lcmp, wp_i2l, wp_l2i, wp_dupI, wp_dupA, wp_dup2J, wp_dup2IA, wp_popI, wp_popA, wp_pop2, wp_goto, wp_if_eq, wp_icmp_eq, wp_if_ne, wp_icmp_ne, wp_if_lt, wp_icmp_lt, wp_if_ge, wp_icmp_ge, wp_if_gt, wp_icmp_gt, wp_if_le, wp_icmp_le, wp_ifnull, wp_ifnonnull, wp_acmp_eq, wp_acmp_ne, wp_tableswitch, wp_get0, wp_put0, wp_get1, wp_put1, wp_get2, wp_put2, wp_get3, wp_put3, wp_new, wp_newarray, wp_anewarray, wp_alen, wp_iaload, wp_laload, wp_baload, wp_aaload, wp_iastore, wp_lastore, wp_bastore, wp_aastore, wp_return, wp_ireturnI, wp_ireturnZ, wp_lreturn, wp_areturnO, wp_areturnA, wp_max, wp_min, wp_obj, wp_virt, wp_nil, ld_I0, ld_Is, ld_J0, ld_Js, ld_A0, ld_As, ha_0, ha_s, cx_put1, cx_put2, cx_dl, cx_tgt, true_and, and_true, Nat.reduceAdd, Nat.reduceSub, Int.reduceAdd, Int.reduceNeg, Int.reduceToNat, Int.reduceSub, Int.cast_ofNat_Int, List.take_succ_cons, List.take_zero, List.drop_succ_cons, List.drop_zero, List.take_nil, List.drop_nil, Option.toList_some, Option.toList_none, List.cons_append, List.nil_append, wp_spec, ne_eq, Nat.reduceEqDiff, not_false_eq_true, true_or, or_true, gs, gb, gsb, ra_100, g1, gz, gI]
      have hfk := hf (p + k) (by omega)
      refine ⟨fun q => absurd q (by omega), fun _ => ⟨by omega, fun q => ?_, fun q => ⟨by omega, j40 _ (by rw [hfk, if_pos (by omega)])⟩⟩⟩
      refine bx_X0_take_39 hY (pf2_ok hY) ?_
      simp only [wp_iconst, wp_bipush, wp_sipush, wp_ldc, wp_ldc2_w, wp_lconst0, wp_lconst1, wp_aconst_null, wp_iload_0, wp_istore_0, wp_iload_1, wp_istore_1, wp_iload_2, wp_istore_2, wp_iload_3, wp_istore_3, wp_iload, wp_istore, wp_lload_0, wp_lstore_0, wp_lload_1, wp_lstore_1, wp_lload_2, wp_lstore_2, wp_lload_3, wp_lstore_3, wp_lload, wp_lstore, wp_aload_0, wp_astore_0, wp_aload_1, wp_astore_1, wp_aload_2, wp_astore_2, wp_aload_3, wp_astore_3, wp_aload, wp_astore, wp_iinc, wp_iadd, wp_isub, wp_imul, wp_iand, wp_ior, wp_ixor, wp_ishl, wp_ishr, wp_iushr, wp_irem, wp_ladd, wp_lsub, wp_lmul, wp_land, wp_lor, wp_lxor, wp_lshl, wp_lshr, wp_lushr, wp_lrem, wp_lcmp, wp_i2l, wp_l2i, wp_dupI, wp_dupA, wp_dup2J, wp_dup2IA, wp_popI, wp_popA, wp_pop2, wp_goto, wp_if_eq, wp_icmp_eq, wp_if_ne, wp_icmp_ne, wp_if_lt, wp_icmp_lt, wp_if_ge, wp_icmp_ge, wp_if_gt, wp_icmp_gt, wp_if_le, wp_icmp_le, wp_ifnull, wp_ifnonnull, wp_acmp_eq, wp_acmp_ne, wp_tableswitch, wp_get0, wp_put0, wp_get1, wp_put1, wp_get2, wp_put2, wp_get3, wp_put3, wp_new, wp_newarray, wp_anewarray, wp_alen, wp_iaload, wp_laload, wp_baload, wp_aaload, wp_iastore, wp_lastore, wp_bastore, wp_aastore, wp_return, wp_ireturnI, wp_ireturnZ, wp_lreturn, wp_areturnO, wp_areturnA, wp_max, wp_min, wp_obj, wp_virt, wp_nil, ld_I0, ld_Is, ld_J0, ld_Js, ld_A0, ld_As, ha_0, ha_s, cx_put1, cx_put2, cx_dl, cx_tgt, true_and, and_true, Nat.reduceAdd, Nat.reduceSub, Int.reduceAdd, Int.reduceNeg, Int.reduceToNat, Int.reduceSub, Int.cast_ofNat_Int, List.take_succ_cons, List.take_zero, List.drop_succ_cons, List.drop_zero, List.take_nil, List.drop_nil, Option.toList_some, Option.toList_none, List.cons_append, List.nil_append, wp_spec, ne_eq, Nat.reduceEqDiff, not_false_eq_true, true_or, or_true]
      exact j40 0 (by rw [hfk, if_neg (by omega)])
  refine bx_X0_take_0 hY (pf2_ok hY) ?_
  simp only [wp_iconst, wp_bipush, wp_sipush, wp_ldc, wp_ldc2_w, wp_lconst0, wp_lconst1, wp_aconst_null, wp_iload_0, wp_istore_0, wp_iload_1, wp_istore_1, wp_iload_2, wp_istore_2, wp_iload_3, wp_istore_3, wp_iload, wp_istore, wp_lload_0, wp_lstore_0, wp_lload_1, wp_lstore_1, wp_lload_2, wp_lstore_2, wp_lload_3, wp_lstore_3, wp_lload, wp_lstore, wp_aload_0, wp_astore_0, wp_aload_1, wp_astore_1, wp_aload_2, wp_astore_2, wp_aload_3, wp_astore_3, wp_aload, wp_astore, wp_iinc, wp_iadd, wp_isub, wp_imul, wp_iand, wp_ior, wp_ixor, wp_ishl, wp_ishr, wp_iushr, wp_irem, wp_ladd, wp_lsub, wp_lmul, wp_land, wp_lor, wp_lxor, wp_lshl, wp_lshr, wp_lushr, wp_lrem, wp_lcmp, wp_i2l, wp_l2i, wp_dupI, wp_dupA, wp_dup2J, wp_dup2IA, wp_popI, wp_popA, wp_pop2, wp_goto, wp_if_eq, wp_icmp_eq, wp_if_ne, wp_icmp_ne, wp_if_lt, wp_icmp_lt, wp_if_ge, wp_icmp_ge, wp_if_gt, wp_icmp_gt, wp_if_le, wp_icmp_le, wp_ifnull, wp_ifnonnull, wp_acmp_eq, wp_acmp_ne, wp_tableswitch, wp_get0, wp_put0, wp_get1, wp_put1, wp_get2, wp_put2, wp_get3, wp_put3, wp_new, wp_newarray, wp_anewarray, wp_alen, wp_iaload, wp_laload, wp_baload, wp_aaload, wp_iastore, wp_lastore, wp_bastore, wp_aastore, wp_return, wp_ireturnI, wp_ireturnZ, wp_lreturn, wp_areturnO, wp_areturnA, wp_max, wp_min, wp_obj, wp_virt, wp_nil, ld_I0, ld_Is, ld_J0, ld_Js, ld_A0, ld_As, ha_0, ha_s, cx_put1, cx_put2, cx_dl, cx_tgt, true_and, and_true, Nat.reduceAdd, Nat.reduceSub, Int.reduceAdd, Int.reduceNeg, Int.reduceToNat, Int.reduceSub, Int.cast_ofNat_Int, List.take_succ_cons, List.take_zero, List.drop_succ_cons, List.drop_zero, List.take_nil, List.drop_nil, Option.toList_some, Option.toList_none, List.cons_append, List.nil_append, wp_spec, ne_eq, Nat.reduceEqDiff, not_false_eq_true, true_or, or_true]
  unfold bF at hK
  exact loop m.toNat 0 _ h (by omega) (by omega) H (by rw [Int.add_zero, sI_id hp.symm]) hK
theorem e_X0_textByte (hY : cY Y) {a b : Nat} {m : Int} (H : CI c n L Z E h0 X h) (hs : cq_s h a = 0) (eb : cq_A h a 0 = some b) (hm : 0 ≤ m ∧ m ≤ 100) (hr : cq_I h a 13 + m < cq_z h b) (hK : K (some (.inl (cq_I h b (cq_I h a 13 + m)))) h) : cw Y mi_X0_textByte K 0 [some (.inr (.inr (some a))), some (.inl m), none] [] h 0 0 := by
  have i1 := H.i0_13 hs
  have sb : cq_s h b = 100 := H.ta hs (own_9 (by decide)) eb
  refine bx_X0_textByte_0 hY (pf2_ok hY) ?_
  simp only [wp_iconst, wp_bipush, wp_sipush, wp_ldc, wp_ldc2_w, wp_lconst0, wp_lconst1, wp_aconst_null, wp_iload_0, wp_istore_0, wp_iload_1, wp_istore_1, wp_iload_2, wp_istore_2, wp_iload_3, wp_istore_3, wp_iload, wp_istore, wp_lload_0, wp_lstore_0, wp_lload_1, wp_lstore_1, wp_lload_2, wp_lstore_2, wp_lload_3, wp_lstore_3, wp_lload, wp_lstore, wp_aload_0, wp_astore_0, wp_aload_1, wp_astore_1, wp_aload_2, wp_astore_2, wp_aload_3, wp_astore_3, wp_aload, wp_astore, wp_iinc, wp_iadd, wp_isub, wp_imul, wp_iand, wp_ior, wp_ixor, wp_ishl, wp_ishr, wp_iushr, wp_irem, wp_ladd, wp_lsub, wp_lmul, wp_land, wp_lor, wp_lxor, wp_lshl, wp_lshr, wp_lushr, wp_lrem, wp_lcmp, wp_i2l, wp_l2i, wp_dupI, wp_dupA, wp_dup2J, wp_dup2IA, wp_popI, wp_popA, wp_pop2, wp_goto, wp_if_eq, wp_icmp_eq, wp_if_ne, wp_icmp_ne, wp_if_lt, wp_icmp_lt, wp_if_ge, wp_icmp_ge, wp_if_gt, wp_icmp_gt, wp_if_le, wp_icmp_le, wp_ifnull, wp_ifnonnull, wp_acmp_eq, wp_acmp_ne, wp_tableswitch, wp_get0, wp_put0, wp_get1, wp_put1, wp_get2, wp_put2, wp_get3, wp_put3, wp_new, wp_newarray, wp_anewarray, wp_alen, wp_iaload, wp_laload, wp_baload, wp_aaload, wp_iastore, wp_lastore, wp_bastore, wp_aastore, wp_return, wp_ireturnI, wp_ireturnZ, wp_lreturn, wp_areturnO, wp_areturnA, wp_max, wp_min, wp_obj, wp_virt, wp_nil, ld_I0, ld_Is, ld_J0, ld_Js, ld_A0, ld_As, ha_0, ha_s, cx_put1, cx_put2, cx_dl, cx_tgt, true_and, and_true, Nat.reduceAdd, Nat.reduceSub, Int.reduceAdd, Int.reduceNeg, Int.reduceToNat, Int.reduceSub, Int.cast_ofNat_Int, List.take_succ_cons, List.take_zero, List.drop_succ_cons, List.drop_zero, List.take_nil, List.drop_nil, Option.toList_some, Option.toList_none, List.cons_append, List.nil_append, wp_spec, ne_eq, Nat.reduceEqDiff, not_false_eq_true, true_or, or_true, hs, eb, sb, ra_100, cx_rg]
  refine ⟨by omega, fun q => absurd q (by omega), fun _ => ⟨by omega, fun q => absurd q (by omega), fun _ => ⟨by omega, ?_⟩⟩⟩
  refine bx_X0_textByte_30 hY (pf2_ok hY) ?_
  simp only [wp_iconst, wp_bipush, wp_sipush, wp_ldc, wp_ldc2_w, wp_lconst0, wp_lconst1, wp_aconst_null, wp_iload_0, wp_istore_0, wp_iload_1, wp_istore_1, wp_iload_2, wp_istore_2, wp_iload_3, wp_istore_3, wp_iload, wp_istore, wp_lload_0, wp_lstore_0, wp_lload_1, wp_lstore_1, wp_lload_2, wp_lstore_2, wp_lload_3, wp_lstore_3, wp_lload, wp_lstore, wp_aload_0, wp_astore_0, wp_aload_1, wp_astore_1, wp_aload_2, wp_astore_2, wp_aload_3, wp_astore_3, wp_aload, wp_astore, wp_iinc, wp_iadd, wp_isub, wp_imul, wp_iand, wp_ior, wp_ixor, wp_ishl, wp_ishr, wp_iushr, wp_irem, wp_ladd, wp_lsub, wp_lmul, wp_land, wp_lor, wp_lxor, wp_lshl, wp_lshr, wp_lushr, wp_lrem, wp_lcmp, wp_i2l, wp_l2i, wp_dupI, wp_dupA, wp_dup2J, wp_dup2IA, wp_popI, wp_popA, wp_pop2, wp_goto, wp_if_eq, wp_icmp_eq, wp_if_ne, wp_icmp_ne, wp_if_lt, wp_icmp_lt, wp_if_ge, wp_icmp_ge, wp_if_gt, wp_icmp_gt, wp_if_le, wp_icmp_le, wp_ifnull, wp_ifnonnull, wp_acmp_eq, wp_acmp_ne, wp_tableswitch, wp_get0, wp_put0, wp_get1, wp_put1, wp_get2, wp_put2, wp_get3, wp_put3, wp_new, wp_newarray, wp_anewarray, wp_alen, wp_iaload, wp_laload, wp_baload, wp_aaload, wp_iastore, wp_lastore, wp_bastore, wp_aastore, wp_return, wp_ireturnI, wp_ireturnZ, wp_lreturn, wp_areturnO, wp_areturnA, wp_max, wp_min, wp_obj, wp_virt, wp_nil, ld_I0, ld_Is, ld_J0, ld_Js, ld_A0, ld_As, ha_0, ha_s, cx_put1, cx_put2, cx_dl, cx_tgt, true_and, and_true, Nat.reduceAdd, Nat.reduceSub, Int.reduceAdd, Int.reduceNeg, Int.reduceToNat, Int.reduceSub, Int.cast_ofNat_Int, List.take_succ_cons, List.take_zero, List.drop_succ_cons, List.drop_zero, List.take_nil, List.drop_nil, Option.toList_some, Option.toList_none, List.cons_append, List.nil_append, wp_spec, ne_eq, Nat.reduceEqDiff, not_false_eq_true, true_or, or_true]
  exact hK
theorem e_X0_hasTagOf (hY : cY Y) {a : Nat} {u : Int64} (hs : cq_s h a = 0) (hN : ¬ f_key 6 u (cq_J h a 14) = cq_J h a 15 → K (some (.inl 0)) h) (hK : f_key 6 u (cq_J h a 14) = cq_J h a 15 → K (some (.inl 1)) h) : cw Y mi_X0_hasTagOf K 0 [some (.inr (.inr (some a))), some (.inr (.inl u)), none] [] h 0 0 := by
  have j23 : ∀ m lv, (m = 0 ∨ m = 1) → K (some (.inl m)) h → cw Y mi_X0_hasTagOf K 23 lv [.inl m] h 0 0 := by
    intro m lv q w
    refine bx_X0_hasTagOf_23 hY (pf2_ok hY) ?_
    simp only [wp_iconst, wp_bipush, wp_sipush, wp_ldc, wp_ldc2_w, wp_lconst0, wp_lconst1, wp_aconst_null, wp_iload_0, wp_istore_0, wp_iload_1, wp_istore_1, wp_iload_2, wp_istore_2, wp_iload_3, wp_istore_3, wp_iload, wp_istore, wp_lload_0, wp_lstore_0, wp_lload_1, wp_lstore_1, wp_lload_2, wp_lstore_2, wp_lload_3, wp_lstore_3, wp_lload, wp_lstore, wp_aload_0, wp_astore_0, wp_aload_1, wp_astore_1, wp_aload_2, wp_astore_2, wp_aload_3, wp_astore_3, wp_aload, wp_astore, wp_iinc, wp_iadd, wp_isub, wp_imul, wp_iand, wp_ior, wp_ixor, wp_ishl, wp_ishr, wp_iushr, wp_irem, wp_ladd, wp_lsub, wp_lmul, wp_land, wp_lor, wp_lxor, wp_lshl, wp_lshr, wp_lushr, wp_lrem, wp_lcmp, wp_i2l, wp_l2i, wp_dupI, wp_dupA, wp_dup2J, wp_dup2IA, wp_popI, wp_popA, wp_pop2, wp_goto, wp_if_eq, wp_icmp_eq, wp_if_ne, wp_icmp_ne, wp_if_lt, wp_icmp_lt, wp_if_ge, wp_icmp_ge, wp_if_gt, wp_icmp_gt, wp_if_le, wp_icmp_le, wp_ifnull, wp_ifnonnull, wp_acmp_eq, wp_acmp_ne, wp_tableswitch, wp_get0, wp_put0, wp_get1, wp_put1, wp_get2, wp_put2, wp_get3, wp_put3, wp_new, wp_newarray, wp_anewarray, wp_alen, wp_iaload, wp_laload, wp_baload, wp_aaload, wp_iastore, wp_lastore, wp_bastore, wp_aastore, wp_return, wp_ireturnI, wp_ireturnZ, wp_lreturn, wp_areturnO, wp_areturnA, wp_max, wp_min, wp_obj, wp_virt, wp_nil, ld_I0, ld_Is, ld_J0, ld_Js, ld_A0, ld_As, ha_0, ha_s, cx_put1, cx_put2, cx_dl, cx_tgt, true_and, and_true, Nat.reduceAdd, Nat.reduceSub, Int.reduceAdd, Int.reduceNeg, Int.reduceToNat, Int.reduceSub, Int.cast_ofNat_Int, List.take_succ_cons, List.take_zero, List.drop_succ_cons, List.drop_zero, List.take_nil, List.drop_nil, Option.toList_some, Option.toList_none, List.cons_append, List.nil_append, wp_spec, ne_eq, Nat.reduceEqDiff, not_false_eq_true, true_or, or_true]
    exact ⟨q, w⟩
  refine bx_X0_hasTagOf_0 hY (pf2_ok hY) ?_
  simp only [wp_iconst, wp_bipush, wp_sipush, wp_ldc, wp_ldc2_w, wp_lconst0, wp_lconst1, wp_aconst_null, wp_iload_0, wp_istore_0, wp_iload_1, wp_istore_1, wp_iload_2, wp_istore_2, wp_iload_3, wp_istore_3, wp_iload, wp_istore, wp_lload_0, wp_lstore_0, wp_lload_1, wp_lstore_1, wp_lload_2, wp_lstore_2, wp_lload_3, wp_lstore_3, wp_lload, wp_lstore, wp_aload_0, wp_astore_0, wp_aload_1, wp_astore_1, wp_aload_2, wp_astore_2, wp_aload_3, wp_astore_3, wp_aload, wp_astore, wp_iinc, wp_iadd, wp_isub, wp_imul, wp_iand, wp_ior, wp_ixor, wp_ishl, wp_ishr, wp_iushr, wp_irem, wp_ladd, wp_lsub, wp_lmul, wp_land, wp_lor, wp_lxor, wp_lshl, wp_lshr, wp_lushr, wp_lrem, wp_lcmp, wp_i2l, wp_l2i, wp_dupI, wp_dupA, wp_dup2J, wp_dup2IA, wp_popI, wp_popA, wp_pop2, wp_goto, wp_if_eq, wp_icmp_eq, wp_if_ne, wp_icmp_ne, wp_if_lt, wp_icmp_lt, wp_if_ge, wp_icmp_ge, wp_if_gt, wp_icmp_gt, wp_if_le, wp_icmp_le, wp_ifnull, wp_ifnonnull, wp_acmp_eq, wp_acmp_ne, wp_tableswitch, wp_get0, wp_put0, wp_get1, wp_put1, wp_get2, wp_put2, wp_get3, wp_put3, wp_new, wp_newarray, wp_anewarray, wp_alen, wp_iaload, wp_laload, wp_baload, wp_aaload, wp_iastore, wp_lastore, wp_bastore, wp_aastore, wp_return, wp_ireturnI, wp_ireturnZ, wp_lreturn, wp_areturnO, wp_areturnA, wp_max, wp_min, wp_obj, wp_virt, wp_nil, ld_I0, ld_Is, ld_J0, ld_Js, ld_A0, ld_As, ha_0, ha_s, cx_put1, cx_put2, cx_dl, cx_tgt, true_and, and_true, Nat.reduceAdd, Nat.reduceSub, Int.reduceAdd, Int.reduceNeg, Int.reduceToNat, Int.reduceSub, Int.cast_ofNat_Int, List.take_succ_cons, List.take_zero, List.drop_succ_cons, List.drop_zero, List.take_nil, List.drop_nil, Option.toList_some, Option.toList_none, List.cons_append, List.nil_append, wp_spec, ne_eq, Nat.reduceEqDiff, not_false_eq_true, true_or, or_true, wf_X3_mix, wf_X3_key, wf_X3_times, wf_X3_timesModuloQ, wf_X3_power, wf_X3_rest, wf_X3_secretOf, wf_X3_sealSum, wf_X3_sum, wf_X3_letterKey, wf_X3_nextOf, wf_X3_isOpen, wf_X3_veil, wf_X3_sealIsRight, cx_sz, cx_c2, cond_true, cond_false, Nat.reduceLeDiff, hs, cx_lcp_eq]
  refine ⟨fun q => ?_, fun q => j23 1 _ (Or.inr rfl) (hK (Classical.not_not.mp q).symm)⟩
  refine bx_X0_hasTagOf_22 hY (pf2_ok hY) ?_
  simp only [wp_iconst, wp_bipush, wp_sipush, wp_ldc, wp_ldc2_w, wp_lconst0, wp_lconst1, wp_aconst_null, wp_iload_0, wp_istore_0, wp_iload_1, wp_istore_1, wp_iload_2, wp_istore_2, wp_iload_3, wp_istore_3, wp_iload, wp_istore, wp_lload_0, wp_lstore_0, wp_lload_1, wp_lstore_1, wp_lload_2, wp_lstore_2, wp_lload_3, wp_lstore_3, wp_lload, wp_lstore, wp_aload_0, wp_astore_0, wp_aload_1, wp_astore_1, wp_aload_2, wp_astore_2, wp_aload_3, wp_astore_3, wp_aload, wp_astore, wp_iinc, wp_iadd, wp_isub, wp_imul, wp_iand, wp_ior, wp_ixor, wp_ishl, wp_ishr, wp_iushr, wp_irem, wp_ladd, wp_lsub, wp_lmul, wp_land, wp_lor, wp_lxor, wp_lshl, wp_lshr, wp_lushr, wp_lrem, wp_lcmp, wp_i2l, wp_l2i, wp_dupI, wp_dupA, wp_dup2J, wp_dup2IA, wp_popI, wp_popA, wp_pop2, wp_goto, wp_if_eq, wp_icmp_eq, wp_if_ne, wp_icmp_ne, wp_if_lt, wp_icmp_lt, wp_if_ge, wp_icmp_ge, wp_if_gt, wp_icmp_gt, wp_if_le, wp_icmp_le, wp_ifnull, wp_ifnonnull, wp_acmp_eq, wp_acmp_ne, wp_tableswitch, wp_get0, wp_put0, wp_get1, wp_put1, wp_get2, wp_put2, wp_get3, wp_put3, wp_new, wp_newarray, wp_anewarray, wp_alen, wp_iaload, wp_laload, wp_baload, wp_aaload, wp_iastore, wp_lastore, wp_bastore, wp_aastore, wp_return, wp_ireturnI, wp_ireturnZ, wp_lreturn, wp_areturnO, wp_areturnA, wp_max, wp_min, wp_obj, wp_virt, wp_nil, ld_I0, ld_Is, ld_J0, ld_Js, ld_A0, ld_As, ha_0, ha_s, cx_put1, cx_put2, cx_dl, cx_tgt, true_and, and_true, Nat.reduceAdd, Nat.reduceSub, Int.reduceAdd, Int.reduceNeg, Int.reduceToNat, Int.reduceSub, Int.cast_ofNat_Int, List.take_succ_cons, List.take_zero, List.drop_succ_cons, List.drop_zero, List.take_nil, List.drop_nil, Option.toList_some, Option.toList_none, List.cons_append, List.nil_append, wp_spec, ne_eq, Nat.reduceEqDiff, not_false_eq_true, true_or, or_true]
  exact j23 0 _ (Or.inl rfl) (hN (fun e => q e.symm))
/-- of the envelope alone something is other -/
def apX (a : Nat) (g g' : cx_Q) : Prop := g'.1 = g.1 ∧ cq_s g' = cq_s g ∧ cq_z g' = cq_z g ∧ ∀ d, d ≠ a → cq_I g' d = cq_I g d ∧ cq_J g' d = cq_J g d ∧ cq_A g' d = cq_A g d
theorem apX.refl {a : Nat} {g : cx_Q} : apX a g g := ⟨rfl, rfl, rfl, fun _ _ => ⟨rfl, rfl, rfl⟩⟩
theorem apX.sI {a : Nat} {g g' : cx_Q} {j v : Int} (p : apX a g g') : apX a g (cq_sI g' a j v) := ⟨p.1, p.2.1, p.2.2.1, fun d w => ⟨by rw [← (p.2.2.2 d w).1]; funext r; rw [mm_sI, if_neg (fun e => w e.1)], (p.2.2.2 d w).2⟩⟩
theorem apX.sJ {a : Nat} {g g' : cx_Q} {j : Int} {v : Int64} (p : apX a g g') : apX a g (cq_sJ g' a j v) := ⟨p.1, p.2.1, p.2.2.1, fun d w => ⟨(p.2.2.2 d w).1, by rw [← (p.2.2.2 d w).2.1]; funext r; rw [mm_sJ, if_neg (fun e => w e.1)], (p.2.2.2 d w).2.2⟩⟩
theorem apX.sA {a : Nat} {g g' : cx_Q} {j : Int} {v : Option Nat} (p : apX a g g') : apX a g (cq_sA g' a j v) := ⟨p.1, p.2.1, p.2.2.1, fun d w => ⟨(p.2.2.2 d w).1, (p.2.2.2 d w).2.1, by rw [← (p.2.2.2 d w).2.2]; funext r; rw [mm_sA, if_neg (fun e => w e.1)]⟩⟩
theorem apX.trans {a : Nat} {g g1 g2 : cx_Q} (p : apX a g g1) (q : apX a g1 g2) : apX a g g2 := ⟨q.1.trans p.1, q.2.1.trans p.2.1, q.2.2.1.trans p.2.2.1, fun d w => ⟨(q.2.2.2 d w).1.trans (p.2.2.2 d w).1, (q.2.2.2 d w).2.1.trans (p.2.2.2 d w).2.1, (q.2.2.2 d w).2.2.trans (p.2.2.2 d w).2.2⟩⟩
/-- such a row of bytes, its head from hd on -/
def apR (f : Int → Int) (hd z : Int) : Prop := 1 ≤ f (hd + 12) ∧ f (hd + 12) ≤ 40 ∧ z = hd + 13 + f (hd + 12) + 8
/-- what is told of head, text and TAG -/
def apV (a b : Nat) (g g' : cx_Q) (f : Int → Int) (hd : Int) : Prop := cq_J g' a 9 = bF f hd 8 ∧ cq_I g' a 10 = 256 * f (hd + 8) + f (hd + 9) ∧ cq_I g' a 11 = 256 * f (hd + 10) + f (hd + 11) ∧ cq_I g' a 12 = f (hd + 12) ∧ cq_I g' a 13 = hd + 13 ∧ cq_J g' a 14 = m_sb (cq_I g b) 0 (hd + 13 + f (hd + 12)).toNat 0 (Int64.ofInt 0) ∧ cq_J g' a 15 = bF f (hd + 13 + f (hd + 12)) 8
/-- what was told before stays -/
def apO (a : Nat) (g g' : cx_Q) : Prop := cq_A g' a = cq_A g a ∧ (∀ j, j < 9 → j ≠ 1 → cq_I g' a j = cq_I g a j) ∧ ∀ j, j < 9 → cq_J g' a j = cq_J g a j
/-- where the taking apart stands: at p, with these fields -/
def apS (a : Nat) (g M : cx_Q) (p : Int) (FI : Int → Int) (FJ : Int → Int64) : Prop := cq_s M a = 0 ∧ cq_A M a = cq_A g a ∧ apX a g M ∧ cq_I M a 1 = p ∧ (∀ j, j ≠ 1 → cq_I M a j = FI j) ∧ ∀ j, cq_J M a j = FJ j
theorem apS.tI {a : Nat} {g M : cx_Q} {p q j v : Int} {FI : Int → Int} {FJ : Int → Int64} (H : apS a g M p FI FJ) (hj : j ≠ 1) : apS a g (cq_sI (cq_sI M a 1 q) a j v) q (fun r => if r = j then v else FI r) FJ := by
  obtain ⟨h1, h2, h3, h4, h5, h6⟩ := H
  refine ⟨h1, h2, h3.sI.sI, ?_, fun r w => ?_, h6⟩
  · rw [mm_sI, if_neg (fun e => hj e.2.symm), mm_sI, if_pos ⟨rfl, rfl⟩]
  · dsimp only
    rw [mm_sI]
    by_cases e : r = j
    · rw [if_pos ⟨rfl, e⟩, if_pos e]
    · rw [if_neg (fun x => e x.2), if_neg e, mm_sI, if_neg (fun x => w x.2)]
      exact h5 r w
theorem apS.tJ {a : Nat} {g M : cx_Q} {p q j : Int} {v : Int64} {FI : Int → Int} {FJ : Int → Int64} (H : apS a g M p FI FJ) : apS a g (cq_sJ (cq_sI M a 1 q) a j v) q FI (fun r => if r = j then v else FJ r) := by
  obtain ⟨h1, h2, h3, h4, h5, h6⟩ := H
  refine ⟨h1, h2, h3.sI.sJ, ?_, fun r w => ?_, fun r => ?_⟩
  · rw [mm_IJ, mm_sI, if_pos ⟨rfl, rfl⟩]
  · rw [mm_IJ, mm_sI, if_neg (fun x => w x.2)]
    exact h5 r w
  · dsimp only
    rw [mm_sJ]
    by_cases e : r = j
    · rw [if_pos ⟨rfl, e⟩, if_pos e]
    · rw [if_neg (fun x => e x.2), if_neg e]
      exact h6 r
theorem e_ap (hY : cY Y) {a b : Nat} {g : cx_Q} {f : Int → Int} {hd : Int} {lv2 : Option cx_V} (G : CI c n L Z E h0 [] g) (sg : cq_s g a = 0) (eb : cq_A g a 0 = some b) (hp : cq_I g a 1 = hd) (hd0 : hd = 3 ∨ hd = 23) (hf : bfP g b f) (h0' : ∀ g', CI c n L Z E h0 [] g' → apX a g g' → ¬ apR f hd (cq_z g b) → K (some (.inl 0)) g') (h1 : ∀ g', CI c n L Z E h0 [] g' → apX a g g' → apR f hd (cq_z g b) → apO a g g' → apV a b g g' f hd → K (some (.inl 1)) g') : cw Y mi_X0_takeApart K 112 [some (.inr (.inr (some a))), some (.inr (.inr (some b))), lv2] [] g 0 0 := by
  have sb : cq_s g b = 100 := G.ta sg (own_9 (by decide)) eb
  have zb : 0 ≤ cq_z g b ∧ cq_z g b ≤ 100 := G.tz sb
  have nba : ¬ b = a := ns sb sg (by decide)
  have bfr : ∀ k, 0 ≤ k → 0 ≤ f k ∧ f k ≤ 255 := by
    intro k hk
    rw [hf k hk]
    split
    · exact G.i100 sb
    · omega
  have bI : ∀ {g' : cx_Q}, apX a g g' → bfP g' b f := by
    intro g' p k hk
    rw [hf k hk, p.2.2.1, (p.2.2.2 b nba).1]
  have S0 : apS a g g hd (cq_I g a) (cq_J g a) := ⟨sg, rfl, apX.refl, hp, fun _ _ => rfl, fun _ => rfl⟩
  refine bx_X0_takeApart_112 hY (pf2_ok hY) ?_
  simp only [wp_iconst, wp_bipush, wp_sipush, wp_ldc, wp_ldc2_w, wp_lconst0, wp_lconst1, wp_aconst_null, wp_iload_0, wp_istore_0, wp_iload_1, wp_istore_1, wp_iload_2, wp_istore_2, wp_iload_3, wp_istore_3, wp_iload, wp_istore, wp_lload_0, wp_lstore_0, wp_lload_1, wp_lstore_1, wp_lload_2, wp_lstore_2, wp_lload_3, wp_lstore_3, wp_lload, wp_lstore, wp_aload_0, wp_astore_0, wp_aload_1, wp_astore_1, wp_aload_2, wp_astore_2, wp_aload_3, wp_astore_3, wp_aload, wp_astore, wp_iinc, wp_iadd, wp_isub, wp_imul, wp_iand, wp_ior, wp_ixor, wp_ishl, wp_ishr, wp_iushr, wp_irem, wp_ladd, wp_lsub, wp_lmul, wp_land, wp_lor, wp_lxor, wp_lshl, wp_lshr, wp_lushr, wp_lrem, wp_lcmp, wp_i2l, wp_l2i, wp_dupI, wp_dupA, wp_dup2J, wp_dup2IA, wp_popI, wp_popA, wp_pop2, wp_goto, wp_if_eq, wp_icmp_eq, wp_if_ne, wp_icmp_ne, wp_if_lt, wp_icmp_lt, wp_if_ge, wp_icmp_ge, wp_if_gt, wp_icmp_gt, wp_if_le, wp_icmp_le, wp_ifnull, wp_ifnonnull, wp_acmp_eq, wp_acmp_ne, wp_tableswitch, wp_get0, wp_put0, wp_get1, wp_put1, wp_get2, wp_put2, wp_get3, wp_put3, wp_new, wp_newarray, wp_anewarray, wp_alen, wp_iaload, wp_laload, wp_baload, wp_aaload, wp_iastore, wp_lastore, wp_bastore, wp_aastore, wp_return, wp_ireturnI, wp_ireturnZ, wp_lreturn, wp_areturnO, wp_areturnA, wp_max, wp_min, wp_obj, wp_virt, wp_nil, ld_I0, ld_Is, ld_J0, ld_Js, ld_A0, ld_As, ha_0, ha_s, cx_put1, cx_put2, cx_dl, cx_tgt, true_and, and_true, Nat.reduceAdd, Nat.reduceSub, Int.reduceAdd, Int.reduceNeg, Int.reduceToNat, Int.reduceSub, Int.cast_ofNat_Int, List.take_succ_cons, List.take_zero, List.drop_succ_cons, List.drop_zero, List.take_nil, List.drop_nil, Option.toList_some, Option.toList_none, List.cons_append, List.nil_append, wp_spec, ne_eq, Nat.reduceEqDiff, not_false_eq_true, true_or, or_true]
  refine cl_X0_take (Nat.le_of_ble_eq_true rfl) sg (Nat.le_refl _) (Nat.le_refl _) (e_X0_take hY G sg eb hf hp (by omega) (by omega) (fun g1 G1 e1 => ?_))
  have s1 : cq_s g1 a = 0 := by rw [e1]; exact sg
  refine bx_X0_takeApart_119 hY (pf2_ok hY) ?_
  simp only [wp_iconst, wp_bipush, wp_sipush, wp_ldc, wp_ldc2_w, wp_lconst0, wp_lconst1, wp_aconst_null, wp_iload_0, wp_istore_0, wp_iload_1, wp_istore_1, wp_iload_2, wp_istore_2, wp_iload_3, wp_istore_3, wp_iload, wp_istore, wp_lload_0, wp_lstore_0, wp_lload_1, wp_lstore_1, wp_lload_2, wp_lstore_2, wp_lload_3, wp_lstore_3, wp_lload, wp_lstore, wp_aload_0, wp_astore_0, wp_aload_1, wp_astore_1, wp_aload_2, wp_astore_2, wp_aload_3, wp_astore_3, wp_aload, wp_astore, wp_iinc, wp_iadd, wp_isub, wp_imul, wp_iand, wp_ior, wp_ixor, wp_ishl, wp_ishr, wp_iushr, wp_irem, wp_ladd, wp_lsub, wp_lmul, wp_land, wp_lor, wp_lxor, wp_lshl, wp_lshr, wp_lushr, wp_lrem, wp_lcmp, wp_i2l, wp_l2i, wp_dupI, wp_dupA, wp_dup2J, wp_dup2IA, wp_popI, wp_popA, wp_pop2, wp_goto, wp_if_eq, wp_icmp_eq, wp_if_ne, wp_icmp_ne, wp_if_lt, wp_icmp_lt, wp_if_ge, wp_icmp_ge, wp_if_gt, wp_icmp_gt, wp_if_le, wp_icmp_le, wp_ifnull, wp_ifnonnull, wp_acmp_eq, wp_acmp_ne, wp_tableswitch, wp_get0, wp_put0, wp_get1, wp_put1, wp_get2, wp_put2, wp_get3, wp_put3, wp_new, wp_newarray, wp_anewarray, wp_alen, wp_iaload, wp_laload, wp_baload, wp_aaload, wp_iastore, wp_lastore, wp_bastore, wp_aastore, wp_return, wp_ireturnI, wp_ireturnZ, wp_lreturn, wp_areturnO, wp_areturnA, wp_max, wp_min, wp_obj, wp_virt, wp_nil, ld_I0, ld_Is, ld_J0, ld_Js, ld_A0, ld_As, ha_0, ha_s, cx_put1, cx_put2, cx_dl, cx_tgt, true_and, and_true, Nat.reduceAdd, Nat.reduceSub, Int.reduceAdd, Int.reduceNeg, Int.reduceToNat, Int.reduceSub, Int.cast_ofNat_Int, List.take_succ_cons, List.take_zero, List.drop_succ_cons, List.drop_zero, List.take_nil, List.drop_nil, Option.toList_some, Option.toList_none, List.cons_append, List.nil_append, wp_spec, ne_eq, Nat.reduceEqDiff, not_false_eq_true, true_or, or_true, s1]
  have S1 := S0.tJ (q := hd + 8) (j := 9) (v := bF f hd 8)
  have G1' := G1.sJ (a := a) (j := 9) (v := bF f hd 8) s1 (own_9 (by decide))
  rw [← e1] at S1
  clear e1 S0
  generalize cq_sJ g1 a 9 (bF f hd 8) = M1 at S1 G1' ⊢
  clear G1 s1
  have q1 := S1.1
  refine cl_X0_take (Nat.le_of_ble_eq_true rfl) q1 (Nat.le_refl _) (Nat.le_refl _) (e_X0_take hY G1' q1 (by rw [S1.2.1]; exact eb) (bI S1.2.2.1) S1.2.2.2.1 (by omega) (by omega) (fun g2 G2 e2 => ?_))
  have v2 := bF_2 (bfr (hd + 8) (by omega)) (bfr (hd + 8 + 1) (by omega))
  have r8 := bfr (hd + 8) (by omega)
  have r9 := bfr (hd + 8 + 1) (by omega)
  have s2 : cq_s g2 a = 0 := by rw [e2]; exact q1
  refine bx_X0_takeApart_128 hY (pf2_ok hY) ?_
  simp only [wp_iconst, wp_bipush, wp_sipush, wp_ldc, wp_ldc2_w, wp_lconst0, wp_lconst1, wp_aconst_null, wp_iload_0, wp_istore_0, wp_iload_1, wp_istore_1, wp_iload_2, wp_istore_2, wp_iload_3, wp_istore_3, wp_iload, wp_istore, wp_lload_0, wp_lstore_0, wp_lload_1, wp_lstore_1, wp_lload_2, wp_lstore_2, wp_lload_3, wp_lstore_3, wp_lload, wp_lstore, wp_aload_0, wp_astore_0, wp_aload_1, wp_astore_1, wp_aload_2, wp_astore_2, wp_aload_3, wp_astore_3, wp_aload, wp_astore, wp_iinc, wp_iadd, wp_isub, wp_imul, wp_iand, wp_ior, wp_ixor, wp_ishl, wp_ishr, wp_iushr, wp_irem, wp_ladd, wp_lsub, wp_lmul, wp_land, wp_lor, wp_lxor, wp_lshl, wp_lshr, wp_lushr, wp_lrem, wp_lcmp, wp_i2l, wp_l2i, wp_dupI, wp_dupA, wp_dup2J, wp_dup2IA, wp_popI, wp_popA, wp_pop2, wp_goto, wp_if_eq, wp_icmp_eq, wp_if_ne, wp_icmp_ne, wp_if_lt, wp_icmp_lt, wp_if_ge, wp_icmp_ge, wp_if_gt, wp_icmp_gt, wp_if_le, wp_icmp_le, wp_ifnull, wp_ifnonnull, wp_acmp_eq, wp_acmp_ne, wp_tableswitch, wp_get0, wp_put0, wp_get1, wp_put1, wp_get2, wp_put2, wp_get3, wp_put3, wp_new, wp_newarray, wp_anewarray, wp_alen, wp_iaload, wp_laload, wp_baload, wp_aaload, wp_iastore, wp_lastore, wp_bastore, wp_aastore, wp_return, wp_ireturnI, wp_ireturnZ, wp_lreturn, wp_areturnO, wp_areturnA, wp_max, wp_min, wp_obj, wp_virt, wp_nil, ld_I0, ld_Is, ld_J0, ld_Js, ld_A0, ld_As, ha_0, ha_s, cx_put1, cx_put2, cx_dl, cx_tgt, true_and, and_true, Nat.reduceAdd, Nat.reduceSub, Int.reduceAdd, Int.reduceNeg, Int.reduceToNat, Int.reduceSub, Int.cast_ofNat_Int, List.take_succ_cons, List.take_zero, List.drop_succ_cons, List.drop_zero, List.take_nil, List.drop_nil, Option.toList_some, Option.toList_none, List.cons_append, List.nil_append, wp_spec, ne_eq, Nat.reduceEqDiff, not_false_eq_true, true_or, or_true, s2]
  rw [v2]
  have S2 := S1.tI (q := hd + 8 + 2) (j := 10) (v := 256 * f (hd + 8) + f (hd + 8 + 1)) (by decide)
  have G2' := G2.sI (a := a) (j := 10) (v := 256 * f (hd + 8) + f (hd + 8 + 1)) s2 (own_9 (by decide)) ⟨by omega, by omega⟩ rfl
  rw [← e2] at S2
  clear e2 S1
  generalize cq_sI g2 a 10 (256 * f (hd + 8) + f (hd + 8 + 1)) = M2 at S2 G2' ⊢
  clear G2 s2 q1 G1'
  have q2 := S2.1
  refine cl_X0_take (Nat.le_of_ble_eq_true rfl) q2 (Nat.le_refl _) (Nat.le_refl _) (e_X0_take hY G2' q2 (by rw [S2.2.1]; exact eb) (bI S2.2.2.1) S2.2.2.2.1 (by omega) (by omega) (fun g3 G3 e3 => ?_))
  have v3 := bF_2 (bfr (hd + 8 + 2) (by omega)) (bfr (hd + 8 + 2 + 1) (by omega))
  have r10 := bfr (hd + 8 + 2) (by omega)
  have r11 := bfr (hd + 8 + 2 + 1) (by omega)
  have s3 : cq_s g3 a = 0 := by rw [e3]; exact q2
  refine bx_X0_takeApart_138 hY (pf2_ok hY) ?_
  simp only [wp_iconst, wp_bipush, wp_sipush, wp_ldc, wp_ldc2_w, wp_lconst0, wp_lconst1, wp_aconst_null, wp_iload_0, wp_istore_0, wp_iload_1, wp_istore_1, wp_iload_2, wp_istore_2, wp_iload_3, wp_istore_3, wp_iload, wp_istore, wp_lload_0, wp_lstore_0, wp_lload_1, wp_lstore_1, wp_lload_2, wp_lstore_2, wp_lload_3, wp_lstore_3, wp_lload, wp_lstore, wp_aload_0, wp_astore_0, wp_aload_1, wp_astore_1, wp_aload_2, wp_astore_2, wp_aload_3, wp_astore_3, wp_aload, wp_astore, wp_iinc, wp_iadd, wp_isub, wp_imul, wp_iand, wp_ior, wp_ixor, wp_ishl, wp_ishr, wp_iushr, wp_irem, wp_ladd, wp_lsub, wp_lmul, wp_land, wp_lor, wp_lxor, wp_lshl, wp_lshr, wp_lushr, wp_lrem, wp_lcmp, wp_i2l, wp_l2i, wp_dupI, wp_dupA, wp_dup2J, wp_dup2IA, wp_popI, wp_popA, wp_pop2, wp_goto, wp_if_eq, wp_icmp_eq, wp_if_ne, wp_icmp_ne, wp_if_lt, wp_icmp_lt, wp_if_ge, wp_icmp_ge, wp_if_gt, wp_icmp_gt, wp_if_le, wp_icmp_le, wp_ifnull, wp_ifnonnull, wp_acmp_eq, wp_acmp_ne, wp_tableswitch, wp_get0, wp_put0, wp_get1, wp_put1, wp_get2, wp_put2, wp_get3, wp_put3, wp_new, wp_newarray, wp_anewarray, wp_alen, wp_iaload, wp_laload, wp_baload, wp_aaload, wp_iastore, wp_lastore, wp_bastore, wp_aastore, wp_return, wp_ireturnI, wp_ireturnZ, wp_lreturn, wp_areturnO, wp_areturnA, wp_max, wp_min, wp_obj, wp_virt, wp_nil, ld_I0, ld_Is, ld_J0, ld_Js, ld_A0, ld_As, ha_0, ha_s, cx_put1, cx_put2, cx_dl, cx_tgt, true_and, and_true, Nat.reduceAdd, Nat.reduceSub, Int.reduceAdd, Int.reduceNeg, Int.reduceToNat, Int.reduceSub, Int.cast_ofNat_Int, List.take_succ_cons, List.take_zero, List.drop_succ_cons, List.drop_zero, List.take_nil, List.drop_nil, Option.toList_some, Option.toList_none, List.cons_append, List.nil_append, wp_spec, ne_eq, Nat.reduceEqDiff, not_false_eq_true, true_or, or_true, s3]
  rw [v3]
  have S3 := S2.tI (q := hd + 8 + 2 + 2) (j := 11) (v := 256 * f (hd + 8 + 2) + f (hd + 8 + 2 + 1)) (by decide)
  have G3' := G3.sI (a := a) (j := 11) (v := 256 * f (hd + 8 + 2) + f (hd + 8 + 2 + 1)) s3 (own_9 (by decide)) ⟨by omega, by omega⟩ rfl
  rw [← e3] at S3
  clear e3 S2
  generalize cq_sI g3 a 11 (256 * f (hd + 8 + 2) + f (hd + 8 + 2 + 1)) = M3 at S3 G3' ⊢
  clear G3 s3 q2 G2'
  have q3 := S3.1
  refine cl_X0_take (Nat.le_of_ble_eq_true rfl) q3 (Nat.le_refl _) (Nat.le_refl _) (e_X0_take hY G3' q3 (by rw [S3.2.1]; exact eb) (bI S3.2.2.1) S3.2.2.2.1 (by omega) (by omega) (fun g4 G4 e4 => ?_))
  have v4 := bF_1 (bfr (hd + 8 + 2 + 2) (by omega))
  have t12 : hd + 8 + 2 + 2 = hd + 12 := by omega
  have t13 : hd + 12 + 1 = hd + 13 := by omega
  rw [t12] at v4 e4
  rw [t13] at e4
  have r12 := bfr (hd + 12) (by omega)
  have s4 : cq_s g4 a = 0 := by rw [e4]; exact q3
  have A4 : cq_A g4 a 0 = some b := by rw [e4]; show cq_A M3 a 0 = some b; rw [S3.2.1]; exact eb
  have sb4 : cq_s g4 b = 100 := by rw [e4]; show cq_s M3 b = 100; rw [S3.2.2.1.2.1]; exact sb
  have z4 : cq_z g4 b = cq_z g b := by rw [e4]; show cq_z M3 b = cq_z g b; rw [S3.2.2.1.2.2.1]
  have i4 : cq_I g4 a 1 = hd + 13 := by rw [e4, mm_sI, if_pos ⟨rfl, rfl⟩]
  have S4 := S3.tI (q := hd + 13) (j := 12) (v := f (hd + 12)) (by decide)
  rw [← e4] at S4
  have S5 := S4.tI (q := hd + 13) (j := 13) (v := hd + 13) (by decide)
  have ei : cq_sI (cq_sI g4 a 12 (f (hd + 12))) a 1 (hd + 13) = cq_sI g4 a 12 (f (hd + 12)) := sI_id (by rw [mm_sI, if_neg (fun e => absurd e.2 (by decide)), i4])
  rw [ei] at S5
  have G5 := (G4.sI (a := a) (j := 12) (v := f (hd + 12)) s4 (own_9 (by decide)) r12 rfl).sI (a := a) (j := 13) (v := hd + 13) s4 (own_9 (by decide)) ⟨by omega, by omega⟩ rfl
  rw [t12]
  refine bx_X0_takeApart_148 hY (pf2_ok hY) ?_
  simp only [wp_iconst, wp_bipush, wp_sipush, wp_ldc, wp_ldc2_w, wp_lconst0, wp_lconst1, wp_aconst_null, wp_iload_0, wp_istore_0, wp_iload_1, wp_istore_1, wp_iload_2, wp_istore_2, wp_iload_3, wp_istore_3, wp_iload, wp_istore, wp_lload_0, wp_lstore_0, wp_lload_1, wp_lstore_1, wp_lload_2, wp_lstore_2, wp_lload_3, wp_lstore_3, wp_lload, wp_lstore, wp_aload_0, wp_astore_0, wp_aload_1, wp_astore_1, wp_aload_2, wp_astore_2, wp_aload_3, wp_astore_3, wp_aload, wp_astore, wp_iinc, wp_iadd, wp_isub, wp_imul, wp_iand, wp_ior, wp_ixor, wp_ishl, wp_ishr, wp_iushr, wp_irem, wp_ladd, wp_lsub, wp_lmul, wp_land, wp_lor, wp_lxor, wp_lshl, wp_lshr, wp_lushr, wp_lrem, wp_lcmp, wp_i2l, wp_l2i, wp_dupI, wp_dupA, wp_dup2J, wp_dup2IA, wp_popI, wp_popA, wp_pop2, wp_goto, wp_if_eq, wp_icmp_eq, wp_if_ne, wp_icmp_ne, wp_if_lt, wp_icmp_lt, wp_if_ge, wp_icmp_ge, wp_if_gt, wp_icmp_gt, wp_if_le, wp_icmp_le, wp_ifnull, wp_ifnonnull, wp_acmp_eq, wp_acmp_ne, wp_tableswitch, wp_get0, wp_put0, wp_get1, wp_put1, wp_get2, wp_put2, wp_get3, wp_put3, wp_new, wp_newarray, wp_anewarray, wp_alen, wp_iaload, wp_laload, wp_baload, wp_aaload, wp_iastore, wp_lastore, wp_bastore, wp_aastore, wp_return, wp_ireturnI, wp_ireturnZ, wp_lreturn, wp_areturnO, wp_areturnA, wp_max, wp_min, wp_obj, wp_virt, wp_nil, ld_I0, ld_Is, ld_J0, ld_Js, ld_A0, ld_As, ha_0, ha_s, cx_put1, cx_put2, cx_dl, cx_tgt, true_and, and_true, Nat.reduceAdd, Nat.reduceSub, Int.reduceAdd, Int.reduceNeg, Int.reduceToNat, Int.reduceSub, Int.cast_ofNat_Int, List.take_succ_cons, List.take_zero, List.drop_succ_cons, List.drop_zero, List.take_nil, List.drop_nil, Option.toList_some, Option.toList_none, List.cons_append, List.nil_append, wp_spec, ne_eq, Nat.reduceEqDiff, not_false_eq_true, true_or, or_true, s4, A4, sb4, z4, i4, ra_100, mm_sI, mm_sJ, mm_sA, mm_IJ, mm_IA, mm_JI, mm_JA, mm_AI, mm_AJ, mm_ssI, mm_ssJ, mm_ssA, mm_zI, mm_zJ, mm_zA, mm_nI, mm_nJ, mm_nA, Nat.left_eq_add, Nat.add_eq_left, Nat.add_left_cancel_iff, Nat.reduceEqDiff, Int.reduceEq, false_and, and_false, if_false, if_true, and_self, true_and, true_or, or_true, false_or, or_false, cx_rg]
  rw [v4]
  clear e4 ei S4 S3 G4 G3' q3
  generalize cq_sI (cq_sI g4 a 12 (f (hd + 12))) a 13 (hd + 13) = M at S5 G5 ⊢
  clear s4 A4 sb4 z4 i4
  obtain ⟨sM, AM, x5, _, FI, FJ⟩ := S5
  have sMb : cq_s M b = 100 := by rw [x5.2.1]; exact sb
  have eM : cq_A M a 0 = some b := by rw [AM]; exact eb
  have zM : cq_z M b = cq_z g b := by rw [x5.2.2.1]
  have IM : cq_I M b = cq_I g b := (x5.2.2.2 b nba).1
  have j197 : ¬ apR f hd (cq_z g b) → ∀ lv, cw Y mi_X0_takeApart K 197 lv [] M 0 0 := by
    intro w lv
    refine bx_X0_takeApart_197 hY (pf2_ok hY) ?_
    simp only [wp_iconst, wp_bipush, wp_sipush, wp_ldc, wp_ldc2_w, wp_lconst0, wp_lconst1, wp_aconst_null, wp_iload_0, wp_istore_0, wp_iload_1, wp_istore_1, wp_iload_2, wp_istore_2, wp_iload_3, wp_istore_3, wp_iload, wp_istore, wp_lload_0, wp_lstore_0, wp_lload_1, wp_lstore_1, wp_lload_2, wp_lstore_2, wp_lload_3, wp_lstore_3, wp_lload, wp_lstore, wp_aload_0, wp_astore_0, wp_aload_1, wp_astore_1, wp_aload_2, wp_astore_2, wp_aload_3, wp_astore_3, wp_aload, wp_astore, wp_iinc, wp_iadd, wp_isub, wp_imul, wp_iand, wp_ior, wp_ixor, wp_ishl, wp_ishr, wp_iushr, wp_irem, wp_ladd, wp_lsub, wp_lmul, wp_land, wp_lor, wp_lxor, wp_lshl, wp_lshr, wp_lushr, wp_lrem, wp_lcmp, wp_i2l, wp_l2i, wp_dupI, wp_dupA, wp_dup2J, wp_dup2IA, wp_popI, wp_popA, wp_pop2, wp_goto, wp_if_eq, wp_icmp_eq, wp_if_ne, wp_icmp_ne, wp_if_lt, wp_icmp_lt, wp_if_ge, wp_icmp_ge, wp_if_gt, wp_icmp_gt, wp_if_le, wp_icmp_le, wp_ifnull, wp_ifnonnull, wp_acmp_eq, wp_acmp_ne, wp_tableswitch, wp_get0, wp_put0, wp_get1, wp_put1, wp_get2, wp_put2, wp_get3, wp_put3, wp_new, wp_newarray, wp_anewarray, wp_alen, wp_iaload, wp_laload, wp_baload, wp_aaload, wp_iastore, wp_lastore, wp_bastore, wp_aastore, wp_return, wp_ireturnI, wp_ireturnZ, wp_lreturn, wp_areturnO, wp_areturnA, wp_max, wp_min, wp_obj, wp_virt, wp_nil, ld_I0, ld_Is, ld_J0, ld_Js, ld_A0, ld_As, ha_0, ha_s, cx_put1, cx_put2, cx_dl, cx_tgt, true_and, and_true, Nat.reduceAdd, Nat.reduceSub, Int.reduceAdd, Int.reduceNeg, Int.reduceToNat, Int.reduceSub, Int.cast_ofNat_Int, List.take_succ_cons, List.take_zero, List.drop_succ_cons, List.drop_zero, List.take_nil, List.drop_nil, Option.toList_some, Option.toList_none, List.cons_append, List.nil_append, wp_spec, ne_eq, Nat.reduceEqDiff, not_false_eq_true, true_or, or_true]
    exact h0' M G5 x5 w
  refine ⟨fun q => j197 (fun w => ?_) _, fun q1 => ⟨fun q => j197 (fun w => ?_) _, fun q2 => ?_⟩⟩
  · unfold apR at w; omega
  · unfold apR at w; omega
  have fin : apR f hd (cq_z g b) → cw Y mi_X0_takeApart K 199 [some (.inr (.inr (some a))), some (.inr (.inr (some b))), lv2] [] M 0 0 := by
    intro ok
    have ok' := ok
    unfold apR at ok'
    have M12 : cq_I M a 12 = f (hd + 12) := by rw [FI 12 (by decide)]; rfl
    have M13 : cq_I M a 13 = hd + 13 := by rw [FI 13 (by decide)]; rfl
    refine bx_X0_takeApart_199 hY (pf2_ok hY) ?_
    simp only [wp_iconst, wp_bipush, wp_sipush, wp_ldc, wp_ldc2_w, wp_lconst0, wp_lconst1, wp_aconst_null, wp_iload_0, wp_istore_0, wp_iload_1, wp_istore_1, wp_iload_2, wp_istore_2, wp_iload_3, wp_istore_3, wp_iload, wp_istore, wp_lload_0, wp_lstore_0, wp_lload_1, wp_lstore_1, wp_lload_2, wp_lstore_2, wp_lload_3, wp_lstore_3, wp_lload, wp_lstore, wp_aload_0, wp_astore_0, wp_aload_1, wp_astore_1, wp_aload_2, wp_astore_2, wp_aload_3, wp_astore_3, wp_aload, wp_astore, wp_iinc, wp_iadd, wp_isub, wp_imul, wp_iand, wp_ior, wp_ixor, wp_ishl, wp_ishr, wp_iushr, wp_irem, wp_ladd, wp_lsub, wp_lmul, wp_land, wp_lor, wp_lxor, wp_lshl, wp_lshr, wp_lushr, wp_lrem, wp_lcmp, wp_i2l, wp_l2i, wp_dupI, wp_dupA, wp_dup2J, wp_dup2IA, wp_popI, wp_popA, wp_pop2, wp_goto, wp_if_eq, wp_icmp_eq, wp_if_ne, wp_icmp_ne, wp_if_lt, wp_icmp_lt, wp_if_ge, wp_icmp_ge, wp_if_gt, wp_icmp_gt, wp_if_le, wp_icmp_le, wp_ifnull, wp_ifnonnull, wp_acmp_eq, wp_acmp_ne, wp_tableswitch, wp_get0, wp_put0, wp_get1, wp_put1, wp_get2, wp_put2, wp_get3, wp_put3, wp_new, wp_newarray, wp_anewarray, wp_alen, wp_iaload, wp_laload, wp_baload, wp_aaload, wp_iastore, wp_lastore, wp_bastore, wp_aastore, wp_return, wp_ireturnI, wp_ireturnZ, wp_lreturn, wp_areturnO, wp_areturnA, wp_max, wp_min, wp_obj, wp_virt, wp_nil, ld_I0, ld_Is, ld_J0, ld_Js, ld_A0, ld_As, ha_0, ha_s, cx_put1, cx_put2, cx_dl, cx_tgt, true_and, and_true, Nat.reduceAdd, Nat.reduceSub, Int.reduceAdd, Int.reduceNeg, Int.reduceToNat, Int.reduceSub, Int.cast_ofNat_Int, List.take_succ_cons, List.take_zero, List.drop_succ_cons, List.drop_zero, List.take_nil, List.drop_nil, Option.toList_some, Option.toList_none, List.cons_append, List.nil_append, wp_spec, ne_eq, Nat.reduceEqDiff, not_false_eq_true, true_or, or_true, sM, eM, M12, M13, mm_sI, mm_sJ, mm_sA, mm_IJ, mm_IA, mm_JI, mm_JA, mm_AI, mm_AJ, mm_ssI, mm_ssJ, mm_ssA, mm_zI, mm_zJ, mm_zA, mm_nI, mm_nJ, mm_nA, Nat.left_eq_add, Nat.add_eq_left, Nat.add_left_cancel_iff, Nat.reduceEqDiff, Int.reduceEq, false_and, and_false, if_false, if_true, and_self, true_and, true_or, or_true, false_or, or_false, cx_rg]
    refine ⟨by omega, ?_⟩
    have G6 := G5.sI (a := a) (j := 1) (v := hd + 13 + f (hd + 12)) sM (own_9 (by decide)) ⟨by omega, by omega⟩ rfl
    have x6 := x5.sI (j := 1) (v := hd + 13 + f (hd + 12))
    refine cl_X3_sumOfBytes (Nat.le_of_ble_eq_true rfl) (Nat.le_refl _) (Nat.le_refl _) (e_X3_sumOfBytes hY sMb (by rw [mm_zI, zM]; omega) (by rw [mm_zI, zM]; omega) ?_)
    have es : cq_I (cq_sI M a 1 (hd + 13 + f (hd + 12))) b = cq_I g b := (x6.2.2.2 b nba).1
    rw [es]
    refine bx_X0_takeApart_224 hY (pf2_ok hY) ?_
    simp only [wp_iconst, wp_bipush, wp_sipush, wp_ldc, wp_ldc2_w, wp_lconst0, wp_lconst1, wp_aconst_null, wp_iload_0, wp_istore_0, wp_iload_1, wp_istore_1, wp_iload_2, wp_istore_2, wp_iload_3, wp_istore_3, wp_iload, wp_istore, wp_lload_0, wp_lstore_0, wp_lload_1, wp_lstore_1, wp_lload_2, wp_lstore_2, wp_lload_3, wp_lstore_3, wp_lload, wp_lstore, wp_aload_0, wp_astore_0, wp_aload_1, wp_astore_1, wp_aload_2, wp_astore_2, wp_aload_3, wp_astore_3, wp_aload, wp_astore, wp_iinc, wp_iadd, wp_isub, wp_imul, wp_iand, wp_ior, wp_ixor, wp_ishl, wp_ishr, wp_iushr, wp_irem, wp_ladd, wp_lsub, wp_lmul, wp_land, wp_lor, wp_lxor, wp_lshl, wp_lshr, wp_lushr, wp_lrem, wp_lcmp, wp_i2l, wp_l2i, wp_dupI, wp_dupA, wp_dup2J, wp_dup2IA, wp_popI, wp_popA, wp_pop2, wp_goto, wp_if_eq, wp_icmp_eq, wp_if_ne, wp_icmp_ne, wp_if_lt, wp_icmp_lt, wp_if_ge, wp_icmp_ge, wp_if_gt, wp_icmp_gt, wp_if_le, wp_icmp_le, wp_ifnull, wp_ifnonnull, wp_acmp_eq, wp_acmp_ne, wp_tableswitch, wp_get0, wp_put0, wp_get1, wp_put1, wp_get2, wp_put2, wp_get3, wp_put3, wp_new, wp_newarray, wp_anewarray, wp_alen, wp_iaload, wp_laload, wp_baload, wp_aaload, wp_iastore, wp_lastore, wp_bastore, wp_aastore, wp_return, wp_ireturnI, wp_ireturnZ, wp_lreturn, wp_areturnO, wp_areturnA, wp_max, wp_min, wp_obj, wp_virt, wp_nil, ld_I0, ld_Is, ld_J0, ld_Js, ld_A0, ld_As, ha_0, ha_s, cx_put1, cx_put2, cx_dl, cx_tgt, true_and, and_true, Nat.reduceAdd, Nat.reduceSub, Int.reduceAdd, Int.reduceNeg, Int.reduceToNat, Int.reduceSub, Int.cast_ofNat_Int, List.take_succ_cons, List.take_zero, List.drop_succ_cons, List.drop_zero, List.take_nil, List.drop_nil, Option.toList_some, Option.toList_none, List.cons_append, List.nil_append, wp_spec, ne_eq, Nat.reduceEqDiff, not_false_eq_true, true_or, or_true, sM, mm_sI, mm_sJ, mm_sA, mm_IJ, mm_IA, mm_JI, mm_JA, mm_AI, mm_AJ, mm_ssI, mm_ssJ, mm_ssA, mm_zI, mm_zJ, mm_zA, mm_nI, mm_nJ, mm_nA]
    have x7 := x6.sJ (j := 14) (v := m_sb (cq_I g b) 0 (hd + 13 + f (hd + 12)).toNat 0 (Int64.ofInt 0))
    refine cl_X0_take (Nat.le_of_ble_eq_true rfl) sM (Nat.le_refl _) (Nat.le_refl _) (e_X0_take (p := hd + 13 + f (hd + 12)) hY (G6.sJ sM (own_9 (by decide))) sM eM (bI x7) (by simp only [mm_sI, mm_sJ, mm_sA, mm_IJ, mm_IA, mm_JI, mm_JA, mm_AI, mm_AJ, mm_ssI, mm_ssJ, mm_ssA, mm_zI, mm_zJ, mm_zA, mm_nI, mm_nJ, mm_nA, Nat.left_eq_add, Nat.add_eq_left, Nat.add_left_cancel_iff, Nat.reduceEqDiff, Int.reduceEq, false_and, and_false, if_false, if_true, and_self, true_and, true_or, or_true, false_or, or_false]) (by omega) (by omega) (fun g7 G7 e7 => ?_))
    have s7 : cq_s g7 a = 0 := by rw [e7]; exact sM
    refine bx_X0_takeApart_234 hY (pf2_ok hY) ?_
    simp only [wp_iconst, wp_bipush, wp_sipush, wp_ldc, wp_ldc2_w, wp_lconst0, wp_lconst1, wp_aconst_null, wp_iload_0, wp_istore_0, wp_iload_1, wp_istore_1, wp_iload_2, wp_istore_2, wp_iload_3, wp_istore_3, wp_iload, wp_istore, wp_lload_0, wp_lstore_0, wp_lload_1, wp_lstore_1, wp_lload_2, wp_lstore_2, wp_lload_3, wp_lstore_3, wp_lload, wp_lstore, wp_aload_0, wp_astore_0, wp_aload_1, wp_astore_1, wp_aload_2, wp_astore_2, wp_aload_3, wp_astore_3, wp_aload, wp_astore, wp_iinc, wp_iadd, wp_isub, wp_imul, wp_iand, wp_ior, wp_ixor, wp_ishl, wp_ishr, wp_iushr, wp_irem, wp_ladd, wp_lsub, wp_lmul, wp_land, wp_lor, wp_lxor, wp_lshl, wp_lshr, wp_lushr, wp_lrem, wp_lcmp, wp_i2l, wp_l2i, wp_dupI, wp_dupA, wp_dup2J, wp_dup2IA, wp_popI, wp_popA, wp_pop2, wp_goto, wp_if_eq, wp_icmp_eq, wp_if_ne, wp_icmp_ne, wp_if_lt, wp_icmp_lt, wp_if_ge, wp_icmp_ge, wp_if_gt, wp_icmp_gt, wp_if_le, wp_icmp_le, wp_ifnull, wp_ifnonnull, wp_acmp_eq, wp_acmp_ne, wp_tableswitch, wp_get0, wp_put0, wp_get1, wp_put1, wp_get2, wp_put2, wp_get3, wp_put3, wp_new, wp_newarray, wp_anewarray, wp_alen, wp_iaload, wp_laload, wp_baload, wp_aaload, wp_iastore, wp_lastore, wp_bastore, wp_aastore, wp_return, wp_ireturnI, wp_ireturnZ, wp_lreturn, wp_areturnO, wp_areturnA, wp_max, wp_min, wp_obj, wp_virt, wp_nil, ld_I0, ld_Is, ld_J0, ld_Js, ld_A0, ld_As, ha_0, ha_s, cx_put1, cx_put2, cx_dl, cx_tgt, true_and, and_true, Nat.reduceAdd, Nat.reduceSub, Int.reduceAdd, Int.reduceNeg, Int.reduceToNat, Int.reduceSub, Int.cast_ofNat_Int, List.take_succ_cons, List.take_zero, List.drop_succ_cons, List.drop_zero, List.take_nil, List.drop_nil, Option.toList_some, Option.toList_none, List.cons_append, List.nil_append, wp_spec, ne_eq, Nat.reduceEqDiff, not_false_eq_true, true_or, or_true, s7]
    refine h1 _ (G7.sJ s7 (own_9 (by decide))) (by rw [e7]; exact x7.sI.sJ) ok ⟨by rw [e7]; exact AM, fun j w w1 => ?_, fun j w => ?_⟩ ⟨?_, ?_, ?_, ?_, ?_, ?_, ?_⟩
    · rw [e7]
      simp only [mm_sI, mm_sJ, mm_sA, mm_IJ, mm_IA, mm_JI, mm_JA, mm_AI, mm_AJ, mm_ssI, mm_ssJ, mm_ssA, mm_zI, mm_zJ, mm_zA, mm_nI, mm_nJ, mm_nA]
      rw [if_neg (by omega), if_neg (by omega), FI j w1]
      dsimp only
      rw [if_neg (by omega), if_neg (by omega), if_neg (by omega), if_neg (by omega)]
    · rw [e7]
      simp only [mm_sI, mm_sJ, mm_sA, mm_IJ, mm_IA, mm_JI, mm_JA, mm_AI, mm_AJ, mm_ssI, mm_ssJ, mm_ssA, mm_zI, mm_zJ, mm_zA, mm_nI, mm_nJ, mm_nA]
      rw [if_neg (by omega), if_neg (by omega), FJ j]
      dsimp only
      rw [if_neg (by omega)]
    · rw [e7]
      simp only [mm_sI, mm_sJ, mm_sA, mm_IJ, mm_IA, mm_JI, mm_JA, mm_AI, mm_AJ, mm_ssI, mm_ssJ, mm_ssA, mm_zI, mm_zJ, mm_zA, mm_nI, mm_nJ, mm_nA, Nat.left_eq_add, Nat.add_eq_left, Nat.add_left_cancel_iff, Nat.reduceEqDiff, Int.reduceEq, false_and, and_false, if_false, if_true, and_self, true_and, true_or, or_true, false_or, or_false]
      rw [FJ 9]; rfl
    · rw [e7]
      simp only [mm_sI, mm_sJ, mm_sA, mm_IJ, mm_IA, mm_JI, mm_JA, mm_AI, mm_AJ, mm_ssI, mm_ssJ, mm_ssA, mm_zI, mm_zJ, mm_zA, mm_nI, mm_nJ, mm_nA, Nat.left_eq_add, Nat.add_eq_left, Nat.add_left_cancel_iff, Nat.reduceEqDiff, Int.reduceEq, false_and, and_false, if_false, if_true, and_self, true_and, true_or, or_true, false_or, or_false]
      rw [FI 10 (by decide)]
      show 256 * f (hd + 8) + f (hd + 8 + 1) = _
      rw [show hd + 8 + 1 = hd + 9 by omega]
    · rw [e7]
      simp only [mm_sI, mm_sJ, mm_sA, mm_IJ, mm_IA, mm_JI, mm_JA, mm_AI, mm_AJ, mm_ssI, mm_ssJ, mm_ssA, mm_zI, mm_zJ, mm_zA, mm_nI, mm_nJ, mm_nA, Nat.left_eq_add, Nat.add_eq_left, Nat.add_left_cancel_iff, Nat.reduceEqDiff, Int.reduceEq, false_and, and_false, if_false, if_true, and_self, true_and, true_or, or_true, false_or, or_false]
      rw [FI 11 (by decide)]
      show 256 * f (hd + 8 + 2) + f (hd + 8 + 2 + 1) = _
      rw [show hd + 8 + 2 = hd + 10 by omega, show hd + 10 + 1 = hd + 11 by omega]
    · rw [e7]
      simp only [mm_sI, mm_sJ, mm_sA, mm_IJ, mm_IA, mm_JI, mm_JA, mm_AI, mm_AJ, mm_ssI, mm_ssJ, mm_ssA, mm_zI, mm_zJ, mm_zA, mm_nI, mm_nJ, mm_nA, Nat.left_eq_add, Nat.add_eq_left, Nat.add_left_cancel_iff, Nat.reduceEqDiff, Int.reduceEq, false_and, and_false, if_false, if_true, and_self, true_and, true_or, or_true, false_or, or_false]
      exact M12
    · rw [e7]
      simp only [mm_sI, mm_sJ, mm_sA, mm_IJ, mm_IA, mm_JI, mm_JA, mm_AI, mm_AJ, mm_ssI, mm_ssJ, mm_ssA, mm_zI, mm_zJ, mm_zA, mm_nI, mm_nJ, mm_nA, Nat.left_eq_add, Nat.add_eq_left, Nat.add_left_cancel_iff, Nat.reduceEqDiff, Int.reduceEq, false_and, and_false, if_false, if_true, and_self, true_and, true_or, or_true, false_or, or_false]
      exact M13
    · rw [e7]
      simp only [mm_sI, mm_sJ, mm_sA, mm_IJ, mm_IA, mm_JI, mm_JA, mm_AI, mm_AJ, mm_ssI, mm_ssJ, mm_ssA, mm_zI, mm_zJ, mm_zA, mm_nI, mm_nJ, mm_nA, Nat.left_eq_add, Nat.add_eq_left, Nat.add_left_cancel_iff, Nat.reduceEqDiff, Int.reduceEq, false_and, and_false, if_false, if_true, and_self, true_and, true_or, or_true, false_or, or_false]
    · simp only [mm_sI, mm_sJ, mm_sA, mm_IJ, mm_IA, mm_JI, mm_JA, mm_AI, mm_AJ, mm_ssI, mm_ssJ, mm_ssA, mm_zI, mm_zJ, mm_zA, mm_nI, mm_nJ, mm_nA, Nat.left_eq_add, Nat.add_eq_left, Nat.add_left_cancel_iff, Nat.reduceEqDiff, Int.reduceEq, false_and, and_false, if_false, if_true, and_self, true_and, true_or, or_true, false_or, or_false]
  exact ⟨by omega, by omega, by omega, fun q3 => fin (by unfold apR; omega), fun q3 => j197 (fun w => by unfold apR at w; omega) _⟩
end
/-! the class, exactly: a letter is taken apart, from its first byte on -/
def hdF (f : Int → Int) : Int := if f 0 = 1 then 23 else 3
def apK (f : Int → Int) (z : Int) : Prop := (f 0 = 1 ∨ f 0 = 2) ∧ apR f (hdF f) z
def apW (a b : Nat) (h g' : cx_Q) (f : Int → Int) : Prop := cq_A g' a 0 = some b ∧ cq_I g' a 2 = (if f 0 = 1 then 1 else 0) ∧ cq_I g' a 3 = f 1 ∧ cq_I g' a 4 = f 2 ∧ (f 0 = 1 → cq_J g' a 5 = bF f 3 8 ∧ cq_J g' a 6 = bF f 11 8 ∧ cq_I g' a 7 = 256 * f 19 + f 20 ∧ cq_I g' a 8 = 256 * f 21 + f 22) ∧ apV a b h g' f (hdF f)
section
variable {Y : cx_Y} {K : Option cx_V → cx_Q → Prop} {c : Nat} {n L Z : Int} {E : Nat → Option Int} {h0 : cx_Q} {X : List Nat} {h : cx_Q}
theorem e_X0_takeApart (hY : cY Y) {a b : Nat} {f : Int → Int} (H : CI c n L Z E h0 [] h) (hs : cq_s h a = 0) (hb : cq_s h b = 100) (hf : bfP h b f) (h0' : ∀ g', CI c n L Z E h0 [] g' → apX a h g' → ¬ apK f (cq_z h b) → K (some (.inl 0)) g') (h1 : ∀ g', CI c n L Z E h0 [] g' → apX a h g' → apK f (cq_z h b) → apW a b h g' f → K (some (.inl 1)) g') : cw Y mi_X0_takeApart K 0 [some (.inr (.inr (some a))), some (.inr (.inr (some b))), none] [] h 0 0 := by
  have nba : ¬ b = a := ns hb hs (by decide)
  have bfr : ∀ k, 0 ≤ k → 0 ≤ f k ∧ f k ≤ 255 := by
    intro k hk
    rw [hf k hk]
    split
    · exact H.i100 hb
    · omega
  have bI : ∀ {g' : cx_Q}, apX a h g' → bfP g' b f := by
    intro g' p k hk
    rw [hf k hk, p.2.2.1, (p.2.2.2 b nba).1]
  have G0 := (H.sA (a := a) (j := 0) (v := some b) hs (own_9 (by decide)) (fun d q => by cases q; exact hb) (fun q => (nomatch q)) rfl).sI (a := a) (j := 1) (v := 0) hs (own_9 (by decide)) ⟨by omega, by omega⟩ rfl
  have x0 : apX a h (cq_sI (cq_sA h a 0 (some b)) a 1 0) := apX.refl.sA.sI
  have i0 : cq_I (cq_sI (cq_sA h a 0 (some b)) a 1 0) a 1 = 0 := by simp only [mm_sI, mm_sJ, mm_sA, mm_IJ, mm_IA, mm_JI, mm_JA, mm_AI, mm_AJ, mm_ssI, mm_ssJ, mm_ssA, mm_zI, mm_zJ, mm_zA, mm_nI, mm_nJ, mm_nA, Nat.left_eq_add, Nat.add_eq_left, Nat.add_left_cancel_iff, Nat.reduceEqDiff, Int.reduceEq, false_and, and_false, if_false, if_true, and_self, true_and, true_or, or_true, false_or, or_false]
  have A0 : cq_A (cq_sI (cq_sA h a 0 (some b)) a 1 0) a 0 = some b := by simp only [mm_sI, mm_sJ, mm_sA, mm_IJ, mm_IA, mm_JI, mm_JA, mm_AI, mm_AJ, mm_ssI, mm_ssJ, mm_ssA, mm_zI, mm_zJ, mm_zA, mm_nI, mm_nJ, mm_nA, Nat.left_eq_add, Nat.add_eq_left, Nat.add_left_cancel_iff, Nat.reduceEqDiff, Int.reduceEq, false_and, and_false, if_false, if_true, and_self, true_and, true_or, or_true, false_or, or_false]
  refine bx_X0_takeApart_0 hY (pf2_ok hY) ?_
  simp only [wp_iconst, wp_bipush, wp_sipush, wp_ldc, wp_ldc2_w, wp_lconst0, wp_lconst1, wp_aconst_null, wp_iload_0, wp_istore_0, wp_iload_1, wp_istore_1, wp_iload_2, wp_istore_2, wp_iload_3, wp_istore_3, wp_iload, wp_istore, wp_lload_0, wp_lstore_0, wp_lload_1, wp_lstore_1, wp_lload_2, wp_lstore_2, wp_lload_3, wp_lstore_3, wp_lload, wp_lstore, wp_aload_0, wp_astore_0, wp_aload_1, wp_astore_1, wp_aload_2, wp_astore_2, wp_aload_3, wp_astore_3, wp_aload, wp_astore, wp_iinc, wp_iadd, wp_isub, wp_imul, wp_iand, wp_ior, wp_ixor, wp_ishl, wp_ishr, wp_iushr, wp_irem, wp_ladd, wp_lsub, wp_lmul, wp_land, wp_lor, wp_lxor, wp_lshl, wp_lshr, wp_lushr, wp_lrem, wp_lcmp, wp_i2l, wp_l2i, wp_dupI, wp_dupA, wp_dup2J, wp_dup2IA, wp_popI, wp_popA, wp_pop2, wp_goto, wp_if_eq, wp_icmp_eq, wp_if_ne, wp_icmp_ne, wp_if_lt, wp_icmp_lt, wp_if_ge, wp_icmp_ge, wp_if_gt, wp_icmp_gt, wp_if_le, wp_icmp_le, wp_ifnull, wp_ifnonnull, wp_acmp_eq, wp_acmp_ne, wp_tableswitch, wp_get0, wp_put0, wp_get1, wp_put1, wp_get2, wp_put2, wp_get3, wp_put3, wp_new, wp_newarray, wp_anewarray, wp_alen, wp_iaload, wp_laload, wp_baload, wp_aaload, wp_iastore, wp_lastore, wp_bastore, wp_aastore, wp_return, wp_ireturnI, wp_ireturnZ, wp_lreturn, wp_areturnO, wp_areturnA, wp_max, wp_min, wp_obj, wp_virt, wp_nil, ld_I0, ld_Is, ld_J0, ld_Js, ld_A0, ld_As, ha_0, ha_s, cx_put1, cx_put2, cx_dl, cx_tgt, true_and, and_true, Nat.reduceAdd, Nat.reduceSub, Int.reduceAdd, Int.reduceNeg, Int.reduceToNat, Int.reduceSub, Int.cast_ofNat_Int, List.take_succ_cons, List.take_zero, List.drop_succ_cons, List.drop_zero, List.take_nil, List.drop_nil, Option.toList_some, Option.toList_none, List.cons_append, List.nil_append, wp_spec, ne_eq, Nat.reduceEqDiff, not_false_eq_true, true_or, or_true, hs, mm_sI, mm_sJ, mm_sA, mm_IJ, mm_IA, mm_JI, mm_JA, mm_AI, mm_AJ, mm_ssI, mm_ssJ, mm_ssA, mm_zI, mm_zJ, mm_zA, mm_nI, mm_nJ, mm_nA]
  generalize cq_sI (cq_sA h a 0 (some b)) a 1 0 = g0 at G0 x0 i0 A0
  have s0 : cq_s g0 a = 0 := by rw [x0.2.1]; exact hs
  have S0 : apS a g0 g0 0 (cq_I g0 a) (cq_J g0 a) := ⟨s0, rfl, apX.refl, i0, fun _ _ => rfl, fun _ => rfl⟩
  refine cl_X0_take (Nat.le_of_ble_eq_true rfl) s0 (Nat.le_refl _) (Nat.le_refl _) (e_X0_take hY G0 s0 A0 (bI x0) i0 (by omega) (by omega) (fun g1 G1 e1 => ?_))
  have e1 : g1 = cq_sI g0 a 1 1 := e1
  have v1 := bF_1 (bfr 0 (by omega))
  have s1 : cq_s g1 a = 0 := by rw [e1]; exact s0
  -- what stays of it behind the whole
  have out0 : ∀ {M g' : cx_Q} {p : Int} {FI : Int → Int} {FJ : Int → Int64}, apS a g0 M p FI FJ → apX a M g' → apX a h g' := fun S p => (x0.trans S.2.2.1).trans p
  have outW : ∀ {M g' : cx_Q} {p hd : Int} {FI : Int → Int} {FJ : Int → Int64}, apS a g0 M p FI FJ → hd = hdF f → apX a M g' → apO a M g' → apV a b M g' f hd → FI 2 = (if f 0 = 1 then 1 else 0) → FI 3 = f 1 → FI 4 = f 2 → (f 0 = 1 → FJ 5 = bF f 3 8 ∧ FJ 6 = bF f 11 8 ∧ FI 7 = 256 * f 19 + f 20 ∧ FI 8 = 256 * f 21 + f 22) → apW a b h g' f := by
    intro M g' p hd FI FJ S eh X1 O V w2 w3 w4 w5
    have eI : cq_I M b = cq_I h b := (((x0.trans S.2.2.1)).2.2.2 b nba).1
    refine ⟨by rw [O.1, S.2.1]; exact A0, ?_, ?_, ?_, fun q => ⟨?_, ?_, ?_, ?_⟩, ?_⟩
    · rw [O.2.1 2 (by decide) (by decide), S.2.2.2.2.1 2 (by decide), w2]
    · rw [O.2.1 3 (by decide) (by decide), S.2.2.2.2.1 3 (by decide), w3]
    · rw [O.2.1 4 (by decide) (by decide), S.2.2.2.2.1 4 (by decide), w4]
    · rw [O.2.2 5 (by decide), S.2.2.2.2.2 5, (w5 q).1]
    · rw [O.2.2 6 (by decide), S.2.2.2.2.2 6, (w5 q).2.1]
    · rw [O.2.1 7 (by decide) (by decide), S.2.2.2.2.1 7 (by decide), (w5 q).2.2.1]
    · rw [O.2.1 8 (by decide) (by decide), S.2.2.2.2.1 8 (by decide), (w5 q).2.2.2]
    · unfold apV at V ⊢
      rw [eI] at V
      rw [← eh]
      exact V
  have j45 : ∀ (w v : Int), (v = if f 0 = 1 then 1 else 0) → (f 0 = 1 ∨ f 0 = 2) → cw Y mi_X0_takeApart K 45 [some (.inr (.inr (some a))), some (.inr (.inr (some b))), some (.inl w)] [] (cq_sI g1 a 2 v) 0 0 := by
    intro w v hv ok
    have S1 := S0.tI (q := 1) (j := 2) (v := v) (by decide)
    have G1' := G1.sI (a := a) (j := 2) (v := v) s1 (own_9 (by decide)) True.intro rfl
    rw [← e1] at S1
    generalize cq_sI g1 a 2 v = M1 at S1 G1' ⊢
    have q1 := S1.1
    refine bx_X0_takeApart_45 hY (pf2_ok hY) ?_
    simp only [wp_iconst, wp_bipush, wp_sipush, wp_ldc, wp_ldc2_w, wp_lconst0, wp_lconst1, wp_aconst_null, wp_iload_0, wp_istore_0, wp_iload_1, wp_istore_1, wp_iload_2, wp_istore_2, wp_iload_3, wp_istore_3, wp_iload, wp_istore, wp_lload_0, wp_lstore_0, wp_lload_1, wp_lstore_1, wp_lload_2, wp_lstore_2, wp_lload_3, wp_lstore_3, wp_lload, wp_lstore, wp_aload_0, wp_astore_0, wp_aload_1, wp_astore_1, wp_aload_2, wp_astore_2, wp_aload_3, wp_astore_3, wp_aload, wp_astore, wp_iinc, wp_iadd, wp_isub, wp_imul, wp_iand, wp_ior, wp_ixor, wp_ishl, wp_ishr, wp_iushr, wp_irem, wp_ladd, wp_lsub, wp_lmul, wp_land, wp_lor, wp_lxor, wp_lshl, wp_lshr, wp_lushr, wp_lrem, wp_lcmp, wp_i2l, wp_l2i, wp_dupI, wp_dupA, wp_dup2J, wp_dup2IA, wp_popI, wp_popA, wp_pop2, wp_goto, wp_if_eq, wp_icmp_eq, wp_if_ne, wp_icmp_ne, wp_if_lt, wp_icmp_lt, wp_if_ge, wp_icmp_ge, wp_if_gt, wp_icmp_gt, wp_if_le, wp_icmp_le, wp_ifnull, wp_ifnonnull, wp_acmp_eq, wp_acmp_ne, wp_tableswitch, wp_get0, wp_put0, wp_get1, wp_put1, wp_get2, wp_put2, wp_get3, wp_put3, wp_new, wp_newarray, wp_anewarray, wp_alen, wp_iaload, wp_laload, wp_baload, wp_aaload, wp_iastore, wp_lastore, wp_bastore, wp_aastore, wp_return, wp_ireturnI, wp_ireturnZ, wp_lreturn, wp_areturnO, wp_areturnA, wp_max, wp_min, wp_obj, wp_virt, wp_nil, ld_I0, ld_Is, ld_J0, ld_Js, ld_A0, ld_As, ha_0, ha_s, cx_put1, cx_put2, cx_dl, cx_tgt, true_and, and_true, Nat.reduceAdd, Nat.reduceSub, Int.reduceAdd, Int.reduceNeg, Int.reduceToNat, Int.reduceSub, Int.cast_ofNat_Int, List.take_succ_cons, List.take_zero, List.drop_succ_cons, List.drop_zero, List.take_nil, List.drop_nil, Option.toList_some, Option.toList_none, List.cons_append, List.nil_append, wp_spec, ne_eq, Nat.reduceEqDiff, not_false_eq_true, true_or, or_true]
    refine cl_X0_take (Nat.le_of_ble_eq_true rfl) q1 (Nat.le_refl _) (Nat.le_refl _) (e_X0_take hY G1' q1 (by rw [S1.2.1]; exact A0) (bI (x0.trans S1.2.2.1)) S1.2.2.2.1 (by omega) (by omega) (fun g2 G2 e2 => ?_))
    have e2 : g2 = cq_sI M1 a 1 2 := e2
    have v2 := bF_1 (bfr (1) (by omega))
    have s2 : cq_s g2 a = 0 := by rw [e2]; exact q1
    refine bx_X0_takeApart_51 hY (pf2_ok hY) ?_
    simp only [wp_iconst, wp_bipush, wp_sipush, wp_ldc, wp_ldc2_w, wp_lconst0, wp_lconst1, wp_aconst_null, wp_iload_0, wp_istore_0, wp_iload_1, wp_istore_1, wp_iload_2, wp_istore_2, wp_iload_3, wp_istore_3, wp_iload, wp_istore, wp_lload_0, wp_lstore_0, wp_lload_1, wp_lstore_1, wp_lload_2, wp_lstore_2, wp_lload_3, wp_lstore_3, wp_lload, wp_lstore, wp_aload_0, wp_astore_0, wp_aload_1, wp_astore_1, wp_aload_2, wp_astore_2, wp_aload_3, wp_astore_3, wp_aload, wp_astore, wp_iinc, wp_iadd, wp_isub, wp_imul, wp_iand, wp_ior, wp_ixor, wp_ishl, wp_ishr, wp_iushr, wp_irem, wp_ladd, wp_lsub, wp_lmul, wp_land, wp_lor, wp_lxor, wp_lshl, wp_lshr, wp_lushr, wp_lrem, wp_lcmp, wp_i2l, wp_l2i, wp_dupI, wp_dupA, wp_dup2J, wp_dup2IA, wp_popI, wp_popA, wp_pop2, wp_goto, wp_if_eq, wp_icmp_eq, wp_if_ne, wp_icmp_ne, wp_if_lt, wp_icmp_lt, wp_if_ge, wp_icmp_ge, wp_if_gt, wp_icmp_gt, wp_if_le, wp_icmp_le, wp_ifnull, wp_ifnonnull, wp_acmp_eq, wp_acmp_ne, wp_tableswitch, wp_get0, wp_put0, wp_get1, wp_put1, wp_get2, wp_put2, wp_get3, wp_put3, wp_new, wp_newarray, wp_anewarray, wp_alen, wp_iaload, wp_laload, wp_baload, wp_aaload, wp_iastore, wp_lastore, wp_bastore, wp_aastore, wp_return, wp_ireturnI, wp_ireturnZ, wp_lreturn, wp_areturnO, wp_areturnA, wp_max, wp_min, wp_obj, wp_virt, wp_nil, ld_I0, ld_Is, ld_J0, ld_Js, ld_A0, ld_As, ha_0, ha_s, cx_put1, cx_put2, cx_dl, cx_tgt, true_and, and_true, Nat.reduceAdd, Nat.reduceSub, Int.reduceAdd, Int.reduceNeg, Int.reduceToNat, Int.reduceSub, Int.cast_ofNat_Int, List.take_succ_cons, List.take_zero, List.drop_succ_cons, List.drop_zero, List.take_nil, List.drop_nil, Option.toList_some, Option.toList_none, List.cons_append, List.nil_append, wp_spec, ne_eq, Nat.reduceEqDiff, not_false_eq_true, true_or, or_true, s2]
    rw [v2]
    have S2 := S1.tI (q := 2) (j := 3) (v := f (1)) (by decide)
    have G2' := G2.sI (a := a) (j := 3) (v := f (1)) s2 (own_9 (by decide)) True.intro rfl
    rw [← e2] at S2
    clear e2 S1
    generalize cq_sI g2 a 3 (f (1)) = M2 at S2 G2' ⊢
    have q2 := S2.1
    refine cl_X0_take (Nat.le_of_ble_eq_true rfl) q2 (Nat.le_refl _) (Nat.le_refl _) (e_X0_take hY G2' q2 (by rw [S2.2.1]; exact A0) (bI (x0.trans S2.2.2.1)) S2.2.2.2.1 (by omega) (by omega) (fun g3 G3 e3 => ?_))
    have e3 : g3 = cq_sI M2 a 1 3 := e3
    have v3 := bF_1 (bfr (2) (by omega))
    have s3 : cq_s g3 a = 0 := by rw [e3]; exact q2
    have S3 := S2.tI (q := 3) (j := 4) (v := f (2)) (by decide)
    have G3' := G3.sI (a := a) (j := 4) (v := f (2)) s3 (own_9 (by decide)) True.intro rfl
    rw [← e3] at S3
    have b3 : cq_I g3 a 2 = v := by
      have := S3.2.2.2.2.1 2 (by decide)
      rw [mm_sI, if_neg (fun e => absurd e.2 (by decide))] at this
      exact this
    refine bx_X0_takeApart_61 hY (pf2_ok hY) ?_
    simp only [wp_iconst, wp_bipush, wp_sipush, wp_ldc, wp_ldc2_w, wp_lconst0, wp_lconst1, wp_aconst_null, wp_iload_0, wp_istore_0, wp_iload_1, wp_istore_1, wp_iload_2, wp_istore_2, wp_iload_3, wp_istore_3, wp_iload, wp_istore, wp_lload_0, wp_lstore_0, wp_lload_1, wp_lstore_1, wp_lload_2, wp_lstore_2, wp_lload_3, wp_lstore_3, wp_lload, wp_lstore, wp_aload_0, wp_astore_0, wp_aload_1, wp_astore_1, wp_aload_2, wp_astore_2, wp_aload_3, wp_astore_3, wp_aload, wp_astore, wp_iinc, wp_iadd, wp_isub, wp_imul, wp_iand, wp_ior, wp_ixor, wp_ishl, wp_ishr, wp_iushr, wp_irem, wp_ladd, wp_lsub, wp_lmul, wp_land, wp_lor, wp_lxor, wp_lshl, wp_lshr, wp_lushr, wp_lrem, wp_lcmp, wp_i2l, wp_l2i, wp_dupI, wp_dupA, wp_dup2J, wp_dup2IA, wp_popI, wp_popA, wp_pop2, wp_goto, wp_if_eq, wp_icmp_eq, wp_if_ne, wp_icmp_ne, wp_if_lt, wp_icmp_lt, wp_if_ge, wp_icmp_ge, wp_if_gt, wp_icmp_gt, wp_if_le, wp_icmp_le, wp_ifnull, wp_ifnonnull, wp_acmp_eq, wp_acmp_ne, wp_tableswitch, wp_get0, wp_put0, wp_get1, wp_put1, wp_get2, wp_put2, wp_get3, wp_put3, wp_new, wp_newarray, wp_anewarray, wp_alen, wp_iaload, wp_laload, wp_baload, wp_aaload, wp_iastore, wp_lastore, wp_bastore, wp_aastore, wp_return, wp_ireturnI, wp_ireturnZ, wp_lreturn, wp_areturnO, wp_areturnA, wp_max, wp_min, wp_obj, wp_virt, wp_nil, ld_I0, ld_Is, ld_J0, ld_Js, ld_A0, ld_As, ha_0, ha_s, cx_put1, cx_put2, cx_dl, cx_tgt, true_and, and_true, Nat.reduceAdd, Nat.reduceSub, Int.reduceAdd, Int.reduceNeg, Int.reduceToNat, Int.reduceSub, Int.cast_ofNat_Int, List.take_succ_cons, List.take_zero, List.drop_succ_cons, List.drop_zero, List.take_nil, List.drop_nil, Option.toList_some, Option.toList_none, List.cons_append, List.nil_append, wp_spec, ne_eq, Nat.reduceEqDiff, not_false_eq_true, true_or, or_true, s3, b3, mm_sI, mm_sJ, mm_sA, mm_IJ, mm_IA, mm_JI, mm_JA, mm_AI, mm_AJ, mm_ssI, mm_ssJ, mm_ssA, mm_zI, mm_zJ, mm_zA, mm_nI, mm_nJ, mm_nA, Nat.left_eq_add, Nat.add_eq_left, Nat.add_left_cancel_iff, Nat.reduceEqDiff, Int.reduceEq, false_and, and_false, if_false, if_true, and_self, true_and, true_or, or_true, false_or, or_false]
    rw [v3]
    clear e3 S2
    generalize cq_sI g3 a 4 (f (2)) = M3 at S3 G3' ⊢
    clear b3
    have q3 := S3.1
    have A3 : cq_A M3 a 0 = some b := by rw [S3.2.1]; exact A0
    have z3 : cq_z M3 b = cq_z h b := by rw [(x0.trans S3.2.2.1).2.2.1]
    refine ⟨fun w0 => ?_, fun w0 => ?_⟩
    · have f0 : ¬ f 0 = 1 := fun e => by rw [e, if_pos rfl] at hv; omega
      have hh : (3 : Int) = hdF f := by unfold hdF; rw [if_neg f0]
      refine e_ap (hd := 3) hY G3' q3 A3 S3.2.2.2.1 (Or.inl rfl) (bI (x0.trans S3.2.2.1)) (fun g' G' X1 nr => h0' g' G' (out0 S3 X1) (fun k => nr (by rw [hh, z3]; exact k.2))) (fun g' G' X1 r O V => h1 g' G' (out0 S3 X1) ⟨ok, by rw [← hh, ← z3]; exact r⟩ (outW S3 hh X1 O V hv rfl rfl (fun q => absurd q f0)))
    · have f0 : f 0 = 1 := by
        by_cases e : f 0 = 1
        · exact e
        · rw [if_neg e] at hv; exact absurd hv w0
      have hh : (23 : Int) = hdF f := by unfold hdF; rw [if_pos f0]
      refine cl_X0_take (Nat.le_of_ble_eq_true rfl) q3 (Nat.le_refl _) (Nat.le_refl _) (e_X0_take hY G3' q3 A3 (bI (x0.trans S3.2.2.1)) S3.2.2.2.1 (by omega) (by omega) (fun g4 G4 e4 => ?_))
      have e4 : g4 = cq_sI M3 a 1 11 := e4
      have s4 : cq_s g4 a = 0 := by rw [e4]; exact q3
      refine bx_X0_takeApart_79 hY (pf2_ok hY) ?_
      simp only [wp_iconst, wp_bipush, wp_sipush, wp_ldc, wp_ldc2_w, wp_lconst0, wp_lconst1, wp_aconst_null, wp_iload_0, wp_istore_0, wp_iload_1, wp_istore_1, wp_iload_2, wp_istore_2, wp_iload_3, wp_istore_3, wp_iload, wp_istore, wp_lload_0, wp_lstore_0, wp_lload_1, wp_lstore_1, wp_lload_2, wp_lstore_2, wp_lload_3, wp_lstore_3, wp_lload, wp_lstore, wp_aload_0, wp_astore_0, wp_aload_1, wp_astore_1, wp_aload_2, wp_astore_2, wp_aload_3, wp_astore_3, wp_aload, wp_astore, wp_iinc, wp_iadd, wp_isub, wp_imul, wp_iand, wp_ior, wp_ixor, wp_ishl, wp_ishr, wp_iushr, wp_irem, wp_ladd, wp_lsub, wp_lmul, wp_land, wp_lor, wp_lxor, wp_lshl, wp_lshr, wp_lushr, wp_lrem, wp_lcmp, wp_i2l, wp_l2i, wp_dupI, wp_dupA, wp_dup2J, wp_dup2IA, wp_popI, wp_popA, wp_pop2, wp_goto, wp_if_eq, wp_icmp_eq, wp_if_ne, wp_icmp_ne, wp_if_lt, wp_icmp_lt, wp_if_ge, wp_icmp_ge, wp_if_gt, wp_icmp_gt, wp_if_le, wp_icmp_le, wp_ifnull, wp_ifnonnull, wp_acmp_eq, wp_acmp_ne, wp_tableswitch, wp_get0, wp_put0, wp_get1, wp_put1, wp_get2, wp_put2, wp_get3, wp_put3, wp_new, wp_newarray, wp_anewarray, wp_alen, wp_iaload, wp_laload, wp_baload, wp_aaload, wp_iastore, wp_lastore, wp_bastore, wp_aastore, wp_return, wp_ireturnI, wp_ireturnZ, wp_lreturn, wp_areturnO, wp_areturnA, wp_max, wp_min, wp_obj, wp_virt, wp_nil, ld_I0, ld_Is, ld_J0, ld_Js, ld_A0, ld_As, ha_0, ha_s, cx_put1, cx_put2, cx_dl, cx_tgt, true_and, and_true, Nat.reduceAdd, Nat.reduceSub, Int.reduceAdd, Int.reduceNeg, Int.reduceToNat, Int.reduceSub, Int.cast_ofNat_Int, List.take_succ_cons, List.take_zero, List.drop_succ_cons, List.drop_zero, List.take_nil, List.drop_nil, Option.toList_some, Option.toList_none, List.cons_append, List.nil_append, wp_spec, ne_eq, Nat.reduceEqDiff, not_false_eq_true, true_or, or_true, s4]
      have S4 := S3.tJ (q := 11) (j := 5) (v := bF f (3) 8)
      have G4' := G4.sJ (a := a) (j := 5) (v := bF f (3) 8) s4 (own_9 (by decide))
      rw [← e4] at S4
      clear e4
      generalize cq_sJ g4 a 5 (bF f (3) 8) = M4 at S4 G4' ⊢
      have q4 := S4.1
      refine cl_X0_take (Nat.le_of_ble_eq_true rfl) q4 (Nat.le_refl _) (Nat.le_refl _) (e_X0_take hY G4' q4 (by rw [S4.2.1]; exact A0) (bI (x0.trans S4.2.2.1)) S4.2.2.2.1 (by omega) (by omega) (fun g5 G5 e5 => ?_))
      have e5 : g5 = cq_sI M4 a 1 19 := e5
      have s5 : cq_s g5 a = 0 := by rw [e5]; exact q4
      refine bx_X0_takeApart_89 hY (pf2_ok hY) ?_
      simp only [wp_iconst, wp_bipush, wp_sipush, wp_ldc, wp_ldc2_w, wp_lconst0, wp_lconst1, wp_aconst_null, wp_iload_0, wp_istore_0, wp_iload_1, wp_istore_1, wp_iload_2, wp_istore_2, wp_iload_3, wp_istore_3, wp_iload, wp_istore, wp_lload_0, wp_lstore_0, wp_lload_1, wp_lstore_1, wp_lload_2, wp_lstore_2, wp_lload_3, wp_lstore_3, wp_lload, wp_lstore, wp_aload_0, wp_astore_0, wp_aload_1, wp_astore_1, wp_aload_2, wp_astore_2, wp_aload_3, wp_astore_3, wp_aload, wp_astore, wp_iinc, wp_iadd, wp_isub, wp_imul, wp_iand, wp_ior, wp_ixor, wp_ishl, wp_ishr, wp_iushr, wp_irem, wp_ladd, wp_lsub, wp_lmul, wp_land, wp_lor, wp_lxor, wp_lshl, wp_lshr, wp_lushr, wp_lrem, wp_lcmp, wp_i2l, wp_l2i, wp_dupI, wp_dupA, wp_dup2J, wp_dup2IA, wp_popI, wp_popA, wp_pop2, wp_goto, wp_if_eq, wp_icmp_eq, wp_if_ne, wp_icmp_ne, wp_if_lt, wp_icmp_lt, wp_if_ge, wp_icmp_ge, wp_if_gt, wp_icmp_gt, wp_if_le, wp_icmp_le, wp_ifnull, wp_ifnonnull, wp_acmp_eq, wp_acmp_ne, wp_tableswitch, wp_get0, wp_put0, wp_get1, wp_put1, wp_get2, wp_put2, wp_get3, wp_put3, wp_new, wp_newarray, wp_anewarray, wp_alen, wp_iaload, wp_laload, wp_baload, wp_aaload, wp_iastore, wp_lastore, wp_bastore, wp_aastore, wp_return, wp_ireturnI, wp_ireturnZ, wp_lreturn, wp_areturnO, wp_areturnA, wp_max, wp_min, wp_obj, wp_virt, wp_nil, ld_I0, ld_Is, ld_J0, ld_Js, ld_A0, ld_As, ha_0, ha_s, cx_put1, cx_put2, cx_dl, cx_tgt, true_and, and_true, Nat.reduceAdd, Nat.reduceSub, Int.reduceAdd, Int.reduceNeg, Int.reduceToNat, Int.reduceSub, Int.cast_ofNat_Int, List.take_succ_cons, List.take_zero, List.drop_succ_cons, List.drop_zero, List.take_nil, List.drop_nil, Option.toList_some, Option.toList_none, List.cons_append, List.nil_append, wp_spec, ne_eq, Nat.reduceEqDiff, not_false_eq_true, true_or, or_true, s5]
      have S5 := S4.tJ (q := 19) (j := 6) (v := bF f (11) 8)
      have G5' := G5.sJ (a := a) (j := 6) (v := bF f (11) 8) s5 (own_9 (by decide))
      rw [← e5] at S5
      clear e5
      generalize cq_sJ g5 a 6 (bF f (11) 8) = M5 at S5 G5' ⊢
      have q5 := S5.1
      refine cl_X0_take (Nat.le_of_ble_eq_true rfl) q5 (Nat.le_refl _) (Nat.le_refl _) (e_X0_take hY G5' q5 (by rw [S5.2.1]; exact A0) (bI (x0.trans S5.2.2.1)) S5.2.2.2.1 (by omega) (by omega) (fun g6 G6 e6 => ?_))
      have e6 : g6 = cq_sI M5 a 1 21 := e6
      have s6 : cq_s g6 a = 0 := by rw [e6]; exact q5
      have v6 : (bF f 19 2).toInt32.toInt = 256 * f 19 + f 20 := bF_2 (bfr (19) (by omega)) (bfr (20) (by omega))
      have r1 := bfr (19) (by omega)
      have r2 := bfr (20) (by omega)
      refine bx_X0_takeApart_98 hY (pf2_ok hY) ?_
      simp only [wp_iconst, wp_bipush, wp_sipush, wp_ldc, wp_ldc2_w, wp_lconst0, wp_lconst1, wp_aconst_null, wp_iload_0, wp_istore_0, wp_iload_1, wp_istore_1, wp_iload_2, wp_istore_2, wp_iload_3, wp_istore_3, wp_iload, wp_istore, wp_lload_0, wp_lstore_0, wp_lload_1, wp_lstore_1, wp_lload_2, wp_lstore_2, wp_lload_3, wp_lstore_3, wp_lload, wp_lstore, wp_aload_0, wp_astore_0, wp_aload_1, wp_astore_1, wp_aload_2, wp_astore_2, wp_aload_3, wp_astore_3, wp_aload, wp_astore, wp_iinc, wp_iadd, wp_isub, wp_imul, wp_iand, wp_ior, wp_ixor, wp_ishl, wp_ishr, wp_iushr, wp_irem, wp_ladd, wp_lsub, wp_lmul, wp_land, wp_lor, wp_lxor, wp_lshl, wp_lshr, wp_lushr, wp_lrem, wp_lcmp, wp_i2l, wp_l2i, wp_dupI, wp_dupA, wp_dup2J, wp_dup2IA, wp_popI, wp_popA, wp_pop2, wp_goto, wp_if_eq, wp_icmp_eq, wp_if_ne, wp_icmp_ne, wp_if_lt, wp_icmp_lt, wp_if_ge, wp_icmp_ge, wp_if_gt, wp_icmp_gt, wp_if_le, wp_icmp_le, wp_ifnull, wp_ifnonnull, wp_acmp_eq, wp_acmp_ne, wp_tableswitch, wp_get0, wp_put0, wp_get1, wp_put1, wp_get2, wp_put2, wp_get3, wp_put3, wp_new, wp_newarray, wp_anewarray, wp_alen, wp_iaload, wp_laload, wp_baload, wp_aaload, wp_iastore, wp_lastore, wp_bastore, wp_aastore, wp_return, wp_ireturnI, wp_ireturnZ, wp_lreturn, wp_areturnO, wp_areturnA, wp_max, wp_min, wp_obj, wp_virt, wp_nil, ld_I0, ld_Is, ld_J0, ld_Js, ld_A0, ld_As, ha_0, ha_s, cx_put1, cx_put2, cx_dl, cx_tgt, true_and, and_true, Nat.reduceAdd, Nat.reduceSub, Int.reduceAdd, Int.reduceNeg, Int.reduceToNat, Int.reduceSub, Int.cast_ofNat_Int, List.take_succ_cons, List.take_zero, List.drop_succ_cons, List.drop_zero, List.take_nil, List.drop_nil, Option.toList_some, Option.toList_none, List.cons_append, List.nil_append, wp_spec, ne_eq, Nat.reduceEqDiff, not_false_eq_true, true_or, or_true, s6]
      rw [v6]
      have S6 := S5.tI (q := 21) (j := 7) (v := 256 * f (19) + f (20)) (by decide)
      have G6' := G6.sI (a := a) (j := 7) (v := 256 * f (19) + f (20)) s6 (own_9 (by decide)) ⟨by omega, by omega⟩ rfl
      rw [← e6] at S6
      clear e6
      generalize cq_sI g6 a 7 (256 * f (19) + f (20)) = M6 at S6 G6' ⊢
      have q6 := S6.1
      refine cl_X0_take (Nat.le_of_ble_eq_true rfl) q6 (Nat.le_refl _) (Nat.le_refl _) (e_X0_take hY G6' q6 (by rw [S6.2.1]; exact A0) (bI (x0.trans S6.2.2.1)) S6.2.2.2.1 (by omega) (by omega) (fun g7 G7 e7 => ?_))
      have e7 : g7 = cq_sI M6 a 1 23 := e7
      have s7 : cq_s g7 a = 0 := by rw [e7]; exact q6
      have v7 : (bF f 21 2).toInt32.toInt = 256 * f 21 + f 22 := bF_2 (bfr (21) (by omega)) (bfr (22) (by omega))
      have r3 := bfr (21) (by omega)
      have r4 := bfr (22) (by omega)
      refine bx_X0_takeApart_108 hY (pf2_ok hY) ?_
      simp only [wp_iconst, wp_bipush, wp_sipush, wp_ldc, wp_ldc2_w, wp_lconst0, wp_lconst1, wp_aconst_null, wp_iload_0, wp_istore_0, wp_iload_1, wp_istore_1, wp_iload_2, wp_istore_2, wp_iload_3, wp_istore_3, wp_iload, wp_istore, wp_lload_0, wp_lstore_0, wp_lload_1, wp_lstore_1, wp_lload_2, wp_lstore_2, wp_lload_3, wp_lstore_3, wp_lload, wp_lstore, wp_aload_0, wp_astore_0, wp_aload_1, wp_astore_1, wp_aload_2, wp_astore_2, wp_aload_3, wp_astore_3, wp_aload, wp_astore, wp_iinc, wp_iadd, wp_isub, wp_imul, wp_iand, wp_ior, wp_ixor, wp_ishl, wp_ishr, wp_iushr, wp_irem, wp_ladd, wp_lsub, wp_lmul, wp_land, wp_lor, wp_lxor, wp_lshl, wp_lshr, wp_lushr, wp_lrem, wp_lcmp, wp_i2l, wp_l2i, wp_dupI, wp_dupA, wp_dup2J, wp_dup2IA, wp_popI, wp_popA, wp_pop2, wp_goto, wp_if_eq, wp_icmp_eq, wp_if_ne, wp_icmp_ne, wp_if_lt, wp_icmp_lt, wp_if_ge, wp_icmp_ge, wp_if_gt, wp_icmp_gt, wp_if_le, wp_icmp_le, wp_ifnull, wp_ifnonnull, wp_acmp_eq, wp_acmp_ne, wp_tableswitch, wp_get0, wp_put0, wp_get1, wp_put1, wp_get2, wp_put2, wp_get3, wp_put3, wp_new, wp_newarray, wp_anewarray, wp_alen, wp_iaload, wp_laload, wp_baload, wp_aaload, wp_iastore, wp_lastore, wp_bastore, wp_aastore, wp_return, wp_ireturnI, wp_ireturnZ, wp_lreturn, wp_areturnO, wp_areturnA, wp_max, wp_min, wp_obj, wp_virt, wp_nil, ld_I0, ld_Is, ld_J0, ld_Js, ld_A0, ld_As, ha_0, ha_s, cx_put1, cx_put2, cx_dl, cx_tgt, true_and, and_true, Nat.reduceAdd, Nat.reduceSub, Int.reduceAdd, Int.reduceNeg, Int.reduceToNat, Int.reduceSub, Int.cast_ofNat_Int, List.take_succ_cons, List.take_zero, List.drop_succ_cons, List.drop_zero, List.take_nil, List.drop_nil, Option.toList_some, Option.toList_none, List.cons_append, List.nil_append, wp_spec, ne_eq, Nat.reduceEqDiff, not_false_eq_true, true_or, or_true, s7]
      rw [v7]
      have S7 := S6.tI (q := 23) (j := 8) (v := 256 * f (21) + f (22)) (by decide)
      have G7' := G7.sI (a := a) (j := 8) (v := 256 * f (21) + f (22)) s7 (own_9 (by decide)) ⟨by omega, by omega⟩ rfl
      rw [← e7] at S7
      clear e7
      generalize cq_sI g7 a 8 (256 * f (21) + f (22)) = M7 at S7 G7' ⊢
      have z7 : cq_z M7 b = cq_z h b := by rw [(x0.trans S7.2.2.1).2.2.1]
      refine e_ap (hd := 23) hY G7' S7.1 (by rw [S7.2.1]; exact A0) S7.2.2.2.1 (Or.inr rfl) (bI (x0.trans S7.2.2.1)) (fun g' G' X1 nr => h0' g' G' (out0 S7 X1) (fun k => nr (by rw [hh, z7]; exact k.2))) (fun g' G' X1 r O V => h1 g' G' (out0 S7 X1) ⟨ok, by rw [← hh, ← z7]; exact r⟩ (outW S7 hh X1 O V hv rfl rfl (fun _ => ⟨rfl, rfl, rfl, rfl⟩)))
  have j28 : ∀ (v : Int), (v = if f 0 = 1 then 1 else 0) → cw Y mi_X0_takeApart K 28 [some (.inr (.inr (some a))), some (.inr (.inr (some b))), some (.inl (f 0))] [.inl v, .inr (.inr (some a))] g1 0 0 := by
    intro v hv
    have v01 : v = 0 ∨ v = 1 := by rw [hv]; split <;> omega
    refine bx_X0_takeApart_28 hY (pf2_ok hY) ?_
    simp only [wp_iconst, wp_bipush, wp_sipush, wp_ldc, wp_ldc2_w, wp_lconst0, wp_lconst1, wp_aconst_null, wp_iload_0, wp_istore_0, wp_iload_1, wp_istore_1, wp_iload_2, wp_istore_2, wp_iload_3, wp_istore_3, wp_iload, wp_istore, wp_lload_0, wp_lstore_0, wp_lload_1, wp_lstore_1, wp_lload_2, wp_lstore_2, wp_lload_3, wp_lstore_3, wp_lload, wp_lstore, wp_aload_0, wp_astore_0, wp_aload_1, wp_astore_1, wp_aload_2, wp_astore_2, wp_aload_3, wp_astore_3, wp_aload, wp_astore, wp_iinc, wp_iadd, wp_isub, wp_imul, wp_iand, wp_ior, wp_ixor, wp_ishl, wp_ishr, wp_iushr, wp_irem, wp_ladd, wp_lsub, wp_lmul, wp_land, wp_lor, wp_lxor, wp_lshl, wp_lshr, wp_lushr, wp_lrem, wp_lcmp, wp_i2l, wp_l2i, wp_dupI, wp_dupA, wp_dup2J, wp_dup2IA, wp_popI, wp_popA, wp_pop2, wp_goto, wp_if_eq, wp_icmp_eq, wp_if_ne, wp_icmp_ne, wp_if_lt, wp_icmp_lt, wp_if_ge, wp_icmp_ge, wp_if_gt, wp_icmp_gt, wp_if_le, wp_icmp_le, wp_ifnull, wp_ifnonnull, wp_acmp_eq, wp_acmp_ne, wp_tableswitch, wp_get0, wp_put0, wp_get1, wp_put1, wp_get2, wp_put2, wp_get3, wp_put3, wp_new, wp_newarray, wp_anewarray, wp_alen, wp_iaload, wp_laload, wp_baload, wp_aaload, wp_iastore, wp_lastore, wp_bastore, wp_aastore, wp_return, wp_ireturnI, wp_ireturnZ, wp_lreturn, wp_areturnO, wp_areturnA, wp_max, wp_min, wp_obj, wp_virt, wp_nil, ld_I0, ld_Is, ld_J0, ld_Js, ld_A0, ld_As, ha_0, ha_s, cx_put1, cx_put2, cx_dl, cx_tgt, true_and, and_true, Nat.reduceAdd, Nat.reduceSub, Int.reduceAdd, Int.reduceNeg, Int.reduceToNat, Int.reduceSub, Int.cast_ofNat_Int, List.take_succ_cons, List.take_zero, List.drop_succ_cons, List.drop_zero, List.take_nil, List.drop_nil, Option.toList_some, Option.toList_none, List.cons_append, List.nil_append, wp_spec, ne_eq, Nat.reduceEqDiff, not_false_eq_true, true_or, or_true, s1, mm_sI, mm_sJ, mm_sA, mm_IJ, mm_IA, mm_JI, mm_JA, mm_AI, mm_AJ, mm_ssI, mm_ssJ, mm_ssA, mm_zI, mm_zJ, mm_zA, mm_nI, mm_nJ, mm_nA, Nat.left_eq_add, Nat.add_eq_left, Nat.add_left_cancel_iff, Nat.reduceEqDiff, Int.reduceEq, false_and, and_false, if_false, if_true, and_self, true_and, true_or, or_true, false_or, or_false]
    refine ⟨v01, fun w => j45 _ v hv (Or.inl ?_), fun w => ⟨fun w2 => j45 _ v hv (Or.inr w2), fun w2 => h0' _ (G1.sI (a := a) (j := 2) (v := v) s1 (own_9 (by decide)) True.intro rfl) ?_ (fun k => ?_)⟩⟩
    · by_cases e : f 0 = 1
      · exact e
      · rw [if_neg e] at hv; exact absurd hv w
    · rw [e1]
      exact x0.sI.sI
    · rcases k.1 with e | e
      · rw [if_pos e] at hv; omega
      · exact w2 e
  refine bx_X0_takeApart_15 hY (pf2_ok hY) ?_
  simp only [wp_iconst, wp_bipush, wp_sipush, wp_ldc, wp_ldc2_w, wp_lconst0, wp_lconst1, wp_aconst_null, wp_iload_0, wp_istore_0, wp_iload_1, wp_istore_1, wp_iload_2, wp_istore_2, wp_iload_3, wp_istore_3, wp_iload, wp_istore, wp_lload_0, wp_lstore_0, wp_lload_1, wp_lstore_1, wp_lload_2, wp_lstore_2, wp_lload_3, wp_lstore_3, wp_lload, wp_lstore, wp_aload_0, wp_astore_0, wp_aload_1, wp_astore_1, wp_aload_2, wp_astore_2, wp_aload_3, wp_astore_3, wp_aload, wp_astore, wp_iinc, wp_iadd, wp_isub, wp_imul, wp_iand, wp_ior, wp_ixor, wp_ishl, wp_ishr, wp_iushr, wp_irem, wp_ladd, wp_lsub, wp_lmul, wp_land, wp_lor, wp_lxor, wp_lshl, wp_lshr, wp_lushr, wp_lrem, wp_lcmp, wp_i2l, wp_l2i, wp_dupI, wp_dupA, wp_dup2J, wp_dup2IA, wp_popI, wp_popA, wp_pop2, wp_goto, wp_if_eq, wp_icmp_eq, wp_if_ne, wp_icmp_ne, wp_if_lt, wp_icmp_lt, wp_if_ge, wp_icmp_ge, wp_if_gt, wp_icmp_gt, wp_if_le, wp_icmp_le, wp_ifnull, wp_ifnonnull, wp_acmp_eq, wp_acmp_ne, wp_tableswitch, wp_get0, wp_put0, wp_get1, wp_put1, wp_get2, wp_put2, wp_get3, wp_put3, wp_new, wp_newarray, wp_anewarray, wp_alen, wp_iaload, wp_laload, wp_baload, wp_aaload, wp_iastore, wp_lastore, wp_bastore, wp_aastore, wp_return, wp_ireturnI, wp_ireturnZ, wp_lreturn, wp_areturnO, wp_areturnA, wp_max, wp_min, wp_obj, wp_virt, wp_nil, ld_I0, ld_Is, ld_J0, ld_Js, ld_A0, ld_As, ha_0, ha_s, cx_put1, cx_put2, cx_dl, cx_tgt, true_and, and_true, Nat.reduceAdd, Nat.reduceSub, Int.reduceAdd, Int.reduceNeg, Int.reduceToNat, Int.reduceSub, Int.cast_ofNat_Int, List.take_succ_cons, List.take_zero, List.drop_succ_cons, List.drop_zero, List.take_nil, List.drop_nil, Option.toList_some, Option.toList_none, List.cons_append, List.nil_append, wp_spec, ne_eq, Nat.reduceEqDiff, not_false_eq_true, true_or, or_true]
  rw [v1]
  refine ⟨fun w => ?_, fun w => j28 1 (by rw [if_pos (Classical.not_not.mp w)])⟩
  refine bx_X0_takeApart_27 hY (pf2_ok hY) ?_
  simp only [wp_iconst, wp_bipush, wp_sipush, wp_ldc, wp_ldc2_w, wp_lconst0, wp_lconst1, wp_aconst_null, wp_iload_0, wp_istore_0, wp_iload_1, wp_istore_1, wp_iload_2, wp_istore_2, wp_iload_3, wp_istore_3, wp_iload, wp_istore, wp_lload_0, wp_lstore_0, wp_lload_1, wp_lstore_1, wp_lload_2, wp_lstore_2, wp_lload_3, wp_lstore_3, wp_lload, wp_lstore, wp_aload_0, wp_astore_0, wp_aload_1, wp_astore_1, wp_aload_2, wp_astore_2, wp_aload_3, wp_astore_3, wp_aload, wp_astore, wp_iinc, wp_iadd, wp_isub, wp_imul, wp_iand, wp_ior, wp_ixor, wp_ishl, wp_ishr, wp_iushr, wp_irem, wp_ladd, wp_lsub, wp_lmul, wp_land, wp_lor, wp_lxor, wp_lshl, wp_lshr, wp_lushr, wp_lrem, wp_lcmp, wp_i2l, wp_l2i, wp_dupI, wp_dupA, wp_dup2J, wp_dup2IA, wp_popI, wp_popA, wp_pop2, wp_goto, wp_if_eq, wp_icmp_eq, wp_if_ne, wp_icmp_ne, wp_if_lt, wp_icmp_lt, wp_if_ge, wp_icmp_ge, wp_if_gt, wp_icmp_gt, wp_if_le, wp_icmp_le, wp_ifnull, wp_ifnonnull, wp_acmp_eq, wp_acmp_ne, wp_tableswitch, wp_get0, wp_put0, wp_get1, wp_put1, wp_get2, wp_put2, wp_get3, wp_put3, wp_new, wp_newarray, wp_anewarray, wp_alen, wp_iaload, wp_laload, wp_baload, wp_aaload, wp_iastore, wp_lastore, wp_bastore, wp_aastore, wp_return, wp_ireturnI, wp_ireturnZ, wp_lreturn, wp_areturnO, wp_areturnA, wp_max, wp_min, wp_obj, wp_virt, wp_nil, ld_I0, ld_Is, ld_J0, ld_Js, ld_A0, ld_As, ha_0, ha_s, cx_put1, cx_put2, cx_dl, cx_tgt, true_and, and_true, Nat.reduceAdd, Nat.reduceSub, Int.reduceAdd, Int.reduceNeg, Int.reduceToNat, Int.reduceSub, Int.cast_ofNat_Int, List.take_succ_cons, List.take_zero, List.drop_succ_cons, List.drop_zero, List.take_nil, List.drop_nil, Option.toList_some, Option.toList_none, List.cons_append, List.nil_append, wp_spec, ne_eq, Nat.reduceEqDiff, not_false_eq_true, true_or, or_true]
  exact j28 0 (by rw [if_neg w])
end
/-! the class, exactly: an opening's steps -/
/-- a chain so many letters on -/
def itN (f : Int64 → Int64) : Nat → Int64 → Int64
  | 0, u => u
  | k + 1, u => itN f k (f u)
theorem itN_0 {f : Int64 → Int64} {u : Int64} : itN f 0 u = u := by rw [itN]
theorem itN_t {f : Int64 → Int64} {k : Nat} {u : Int64} : itN f (k + 1) u = itN f k (f u) := by rw [itN]
theorem itN_s {f : Int64 → Int64} : ∀ {k : Nat} {u : Int64}, itN f (k + 1) u = f (itN f k u) := by
  intro k
  induction k with
  | zero => intro u; rw [itN_t, itN_0, itN_0]
  | succ k ih => intro u; rw [itN_t, ih, ← itN_t]
def nx1 (u : Int64) : Int64 := f_key 4 u (Int64.ofInt 0)
def nxI (k : Nat) (u : Int64) : Int64 := itN nx1 k u
theorem nxI_0 {u : Int64} : nxI 0 u = u := by unfold nxI; rw [itN_0]
theorem nxI_s {k : Nat} {u : Int64} : nxI (k + 1) u = nx1 (nxI k u) := by unfold nxI; rw [itN_s]
/-- the key of a letter of this chain -/
def lkC (u : Int64) : Int64 := f_key 3 u (Int64.ofInt 0)
/-- keys of so many letters from f on -/
def stF (g : Int → Int64) (f m : Int) (u : Int64) (k : Int) : Int64 := if f ≤ k ∧ k < f + m then lkC (nxI (k - f).toNat u) else g k
/-- of the opening alone something is other -/
def ox (a b : Nat) (h h' : cx_Q) : Prop := h'.1 = h.1 ∧ cq_s h' = cq_s h ∧ cq_z h' = cq_z h ∧ cq_A h' = cq_A h ∧ (∀ d, d ≠ a → cq_I h' d = cq_I h d) ∧ ∀ d, d ≠ a → d ≠ b → cq_J h' d = cq_J h d
section
variable {Y : cx_Y} {K : Option cx_V → cx_Q → Prop} {c : Nat} {n L Z : Int} {E : Nat → Option Int} {h0 : cx_Q} {X : List Nat} {h : cx_Q}
theorem ox.refl {a b : Nat} : ox a b h h := ⟨rfl, rfl, rfl, rfl, fun _ _ => rfl, fun _ _ _ => rfl⟩
theorem ox.trans {a b : Nat} {h1 h2 : cx_Q} (p : ox a b h h1) (q : ox a b h1 h2) : ox a b h h2 := ⟨q.1.trans p.1, q.2.1.trans p.2.1, q.2.2.1.trans p.2.2.1, q.2.2.2.1.trans p.2.2.2.1, fun d w => (q.2.2.2.2.1 d w).trans (p.2.2.2.2.1 d w), fun d w w2 => (q.2.2.2.2.2 d w w2).trans (p.2.2.2.2.2 d w w2)⟩
theorem ox.sI {a b : Nat} {h' : cx_Q} {j v : Int} (p : ox a b h h') : ox a b h (cq_sI h' a j v) := ⟨p.1, p.2.1, p.2.2.1, p.2.2.2.1, fun d w => by
  rw [← p.2.2.2.2.1 d w]
  funext r
  rw [mm_sI, if_neg (fun e => w e.1)], p.2.2.2.2.2⟩
theorem ox.sJ {a b : Nat} {h' : cx_Q} {j : Int} {v : Int64} (p : ox a b h h') : ox a b h (cq_sJ h' a j v) := ⟨p.1, p.2.1, p.2.2.1, p.2.2.2.1, p.2.2.2.2.1, fun d w w2 => by
  rw [← p.2.2.2.2.2 d w w2]
  funext r
  rw [mm_sJ, if_neg (fun e => w e.1)]⟩
theorem ox.rJ {a b : Nat} {h' : cx_Q} {f : Int → Int64} (p : ox a b h h') : ox a b h (cq_rJ h' b f) := ⟨p.1, p.2.1, p.2.2.1, p.2.2.2.1, p.2.2.2.2.1, fun d w w2 => by
  rw [← p.2.2.2.2.2 d w w2, rr_J, if_neg w2]⟩
theorem ox.s {a b d k : Nat} {h' : cx_Q} (p : ox a b h h') (hs : cq_s h d = k) : cq_s h' d = k := by rw [p.2.1]; exact hs
theorem e_X4_step (hY : cY Y) {a b : Nat} {f m : Int} (H : CI c n L Z E h0 X h) (hs : cq_s h a = 3) (eb : cq_A h a 0 = some b) (hf : 0 ≤ f ∧ 0 ≤ m ∧ f + m ≤ 10) (hK : ∀ g, CI c n L Z E h0 X g → g = cq_sJ (cq_rJ h b (stF (cq_J h b) f m (cq_J h a 6))) a 6 (nxI m.toNat (cq_J h a 6)) → K none g) : cw Y mi_X4_step K 0 [some (.inr (.inr (some a))), some (.inl f), some (.inl m), none] [] h 0 0 := by
  have sb : cq_s h b = 175 := H.ta hs (own_9 (by decide)) eb
  have zb : cq_z h b = 10 := H.tz sb
  have nab : ¬ a = b := ns hs sb (by decide)
  have nba : ¬ b = a := fun e => nab e.symm
  have k1 : ∀ u, g_letterKey u = lkC u := fun u => by unfold g_letterKey lkC f_key; rfl
  have k2 : ∀ u, g_nextOf u = nx1 u := fun u => by unfold g_nextOf nx1 f_key; rfl
  have loop : ∀ (r : Nat) (k : Int) (g : cx_Q), f ≤ k → k + r = f + m → CI c n L Z E h0 X g → g = cq_sJ (cq_rJ h b (stF (cq_J h b) f (k - f) (cq_J h a 6))) a 6 (nxI (k - f).toNat (cq_J h a 6)) → cw Y mi_X4_step K 2 [some (.inr (.inr (some a))), some (.inl f), some (.inl m), some (.inl k)] [] g 0 0 := by
    intro r
    induction r with
    | zero =>
      intro k g h1 h2 G eg
      refine bx_X4_step_2 hY (pf2_ok hY) ?_
      simp only [wp_iconst, wp_bipush, wp_sipush, wp_ldc, wp_ldc2_w, wp_lconst0, wp_lconst1, wp_aconst_null, wp_iload_0, wp_istore_0, wp_iload_1, wp_istore_1, wp_iload_2, wp_istore_2, wp_iload_3, wp_istore_3, wp_iload, wp_istore, wp_lload_0, wp_lstore_0, wp_lload_1, wp_lstore_1, wp_lload_2, wp_lstore_2, wp_lload_3, wp_lstore_3, wp_lload, wp_lstore, wp_aload_0, wp_astore_0, wp_aload_1, wp_astore_1, wp_aload_2, wp_astore_2, wp_aload_3, wp_astore_3, wp_aload, wp_astore, wp_iinc, wp_iadd, wp_isub, wp_imul, wp_iand, wp_ior, wp_ixor, wp_ishl, wp_ishr, wp_iushr, wp_irem, wp_ladd, wp_lsub, wp_lmul, wp_land, wp_lor, wp_lxor, wp_lshl, wp_lshr, wp_lushr, wp_lrem, wp_lcmp, wp_i2l, wp_l2i, wp_dupI, wp_dupA, wp_dup2J, wp_dup2IA, wp_popI, wp_popA, wp_pop2, wp_goto, wp_if_eq, wp_icmp_eq, wp_if_ne, wp_icmp_ne, wp_if_lt, wp_icmp_lt, wp_if_ge, wp_icmp_ge, wp_if_gt, wp_icmp_gt, wp_if_le, wp_icmp_le, wp_ifnull, wp_ifnonnull, wp_acmp_eq, wp_acmp_ne, wp_tableswitch, wp_get0, wp_put0, wp_get1, wp_put1, wp_get2, wp_put2, wp_get3, wp_put3, wp_new, wp_newarray, wp_anewarray, wp_alen, wp_iaload, wp_laload, wp_baload, wp_aaload, wp_iastore, wp_lastore, wp_bastore, wp_aastore, wp_return, wp_ireturnI, wp_ireturnZ, wp_lreturn, wp_areturnO, wp_areturnA, wp_max, wp_min, wp_obj, wp_virt, wp_nil, ld_I0, ld_Is, ld_J0, ld_Js, ld_A0, ld_As, ha_0, ha_s, cx_put1, cx_put2, cx_dl, cx_tgt, true_and, and_true, Nat.reduceAdd, Nat.reduceSub, Int.reduceAdd, Int.reduceNeg, Int.reduceToNat, Int.reduceSub, Int.cast_ofNat_Int, List.take_succ_cons, List.take_zero, List.drop_succ_cons, List.drop_zero, List.take_nil, List.drop_nil, Option.toList_some, Option.toList_none, List.cons_append, List.nil_append, wp_spec, ne_eq, Nat.reduceEqDiff, not_false_eq_true, true_or, or_true, cx_rg]
      refine ⟨by omega, fun _ => ?_, fun q => absurd q (by omega)⟩
      refine bx_X4_step_48 hY (pf2_ok hY) ?_
      simp only [wp_iconst, wp_bipush, wp_sipush, wp_ldc, wp_ldc2_w, wp_lconst0, wp_lconst1, wp_aconst_null, wp_iload_0, wp_istore_0, wp_iload_1, wp_istore_1, wp_iload_2, wp_istore_2, wp_iload_3, wp_istore_3, wp_iload, wp_istore, wp_lload_0, wp_lstore_0, wp_lload_1, wp_lstore_1, wp_lload_2, wp_lstore_2, wp_lload_3, wp_lstore_3, wp_lload, wp_lstore, wp_aload_0, wp_astore_0, wp_aload_1, wp_astore_1, wp_aload_2, wp_astore_2, wp_aload_3, wp_astore_3, wp_aload, wp_astore, wp_iinc, wp_iadd, wp_isub, wp_imul, wp_iand, wp_ior, wp_ixor, wp_ishl, wp_ishr, wp_iushr, wp_irem, wp_ladd, wp_lsub, wp_lmul, wp_land, wp_lor, wp_lxor, wp_lshl, wp_lshr, wp_lushr, wp_lrem, wp_lcmp, wp_i2l, wp_l2i, wp_dupI, wp_dupA, wp_dup2J, wp_dup2IA, wp_popI, wp_popA, wp_pop2, wp_goto, wp_if_eq, wp_icmp_eq, wp_if_ne, wp_icmp_ne, wp_if_lt, wp_icmp_lt, wp_if_ge, wp_icmp_ge, wp_if_gt, wp_icmp_gt, wp_if_le, wp_icmp_le, wp_ifnull, wp_ifnonnull, wp_acmp_eq, wp_acmp_ne, wp_tableswitch, wp_get0, wp_put0, wp_get1, wp_put1, wp_get2, wp_put2, wp_get3, wp_put3, wp_new, wp_newarray, wp_anewarray, wp_alen, wp_iaload, wp_laload, wp_baload, wp_aaload, wp_iastore, wp_lastore, wp_bastore, wp_aastore, wp_return, wp_ireturnI, wp_ireturnZ, wp_lreturn, wp_areturnO, wp_areturnA, wp_max, wp_min, wp_obj, wp_virt, wp_nil, ld_I0, ld_Is, ld_J0, ld_Js, ld_A0, ld_As, ha_0, ha_s, cx_put1, cx_put2, cx_dl, cx_tgt, true_and, and_true, Nat.reduceAdd, Nat.reduceSub, Int.reduceAdd, Int.reduceNeg, Int.reduceToNat, Int.reduceSub, Int.cast_ofNat_Int, List.take_succ_cons, List.take_zero, List.drop_succ_cons, List.drop_zero, List.take_nil, List.drop_nil, Option.toList_some, Option.toList_none, List.cons_append, List.nil_append, wp_spec, ne_eq, Nat.reduceEqDiff, not_false_eq_true, true_or, or_true]
      have e : k - f = m := by omega
      rw [e] at eg
      exact hK g G eg
    | succ r ih =>
      intro k g h1 h2 G eg
      have gs : cq_s g a = 3 := by rw [eg]; exact hs
      have gA : cq_A g a 0 = some b := by rw [eg]; exact eb
      have gsb : cq_s g b = 175 := by rw [eg]; exact sb
      have gz : cq_z g b = 10 := by rw [eg]; exact zb
      have gJ : cq_J g a 6 = nxI (k - f).toNat (cq_J h a 6) := by rw [eg, mm_sJ, if_pos ⟨rfl, rfl⟩]
      have en : (k + 1 - f).toNat = (k - f).toNat + 1 := by omega
      refine bx_X4_step_2 hY (pf2_ok hY) ?_
      simp only [wp_iconst, wp_bipush, wp_sipush, wp_ldc, wp_ldc2_w, wp_lconst0, wp_lconst1, wp_aconst_null, wp_iload_0, wp_istore_0, wp_iload_1, wp_istore_1, wp_iload_2, wp_istore_2, wp_iload_3, wp_istore_3, wp_iload, wp_istore, wp_lload_0, wp_lstore_0, wp_lload_1, wp_lstore_1, wp_lload_2, wp_lstore_2, wp_lload_3, wp_lstore_3, wp_lload, wp_lstore, wp_aload_0, wp_astore_0, wp_aload_1, wp_astore_1, wp_aload_2, wp_astore_2, wp_aload_3, wp_astore_3, wp_aload, wp_astore, wp_iinc, wp_iadd, wp_isub, wp_imul, wp_iand, wp_ior, wp_ixor, wp_ishl, wp_ishr, wp_iushr, wp_irem, wp_ladd, wp_lsub, wp_lmul, wp_land, wp_lor, wp_lxor, wp_lshl, wp_lshr, wp_lushr, wp_lrem, wp_lcmp, wp_i2l, wp_l2i, wp_dupI, wp_dupA, wp_dup2J, wp_dup2IA, wp_popI, wp_popA, wp_pop2, wp_goto, wp_if_eq, wp_icmp_eq, wp_if_ne, wp_icmp_ne, wp_if_lt, wp_icmp_lt, wp_if_ge, wp_icmp_ge, wp_if_gt, wp_icmp_gt, wp_if_le, wp_icmp_le, wp_ifnull, wp_ifnonnull, wp_acmp_eq, wp_acmp_ne, wp_tableswitch, wp_get0, wp_put0, wp_get1, wp_put1, wp_get2, wp_put2, wp_get3, wp_put3, wp_new, wp_newarray, wp_anewarray, wp_alen, wp_iaload, wp_laload, wp_baload, wp_aaload, wp_iastore, wp_lastore, wp_bastore, wp_aastore, wp_return, wp_ireturnI, wp_ireturnZ, wp_lreturn, wp_areturnO, wp_areturnA, wp_max, wp_min, wp_obj, wp_virt, wp_nil, ld_I0, ld_Is, ld_J0, ld_Js, ld_A0, ld_As, ha_0, ha_s, cx_put1, cx_put2, cx_dl, cx_tgt, true_and, and_true, Nat.reduceAdd, Nat.reduceSub, Int.reduceAdd, Int.reduceNeg, Int.reduceToNat, Int.reduceSub, Int.cast_ofNat_Int, List.take_succ_cons, List.take_zero, List.drop_succ_cons, List.drop_zero, List.take_nil, List.drop_nil, Option.toList_some, Option.toList_none, List.cons_append, List.nil_append, wp_spec, ne_eq, Nat.reduceEqDiff, not_false_eq_true, true_or, or_true, wf_X3_mix, wf_X3_key, wf_X3_times, wf_X3_timesModuloQ, wf_X3_power, wf_X3_rest, wf_X3_secretOf, wf_X3_sealSum, wf_X3_sum, wf_X3_letterKey, wf_X3_nextOf, wf_X3_isOpen, wf_X3_veil, wf_X3_sealIsRight, cx_sz, cx_c2, cond_true, cond_false, Nat.reduceLeDiff, gs, gA, gsb, gz, ra_175, cx_rg, mm_sI, mm_sJ, mm_sA, mm_IJ, mm_IA, mm_JI, mm_JA, mm_AI, mm_AJ, mm_ssI, mm_ssJ, mm_ssA, mm_zI, mm_zJ, mm_zA, mm_nI, mm_nJ, mm_nA, nab, Nat.left_eq_add, Nat.add_eq_left, Nat.add_left_cancel_iff, Nat.reduceEqDiff, Int.reduceEq, false_and, and_false, if_false, if_true, and_self, true_and, true_or, or_true, false_or, or_false, k1, k2, gJ]
      refine ⟨by omega, fun q => absurd q (by omega), fun _ => ⟨by omega, fun q => absurd q (by omega), fun q => ?_⟩⟩
      (repeat' (with_reducible (first | refine And.intro ?_ ?_ | intro _)))
      all_goals (try omega)
      refine ih (k + 1) _ (by omega) (by omega) ((G.sJ gsb (own_h (by decide))).sJ gs (own_9 (by decide))) ?_
      rw [eg, en, nxI_s]
      refine qext rfl rfl rfl (fun q r => rfl) (fun q r => ?_) (fun q r => rfl)
      simp only [mm_sJ, rr_J]
      by_cases w : q = a ∧ r = 6
      · rw [if_pos w, if_pos w]
      · rw [if_neg w, if_neg w, if_neg w]
        by_cases w2 : q = b
        · rw [if_pos w2, if_pos w2]
          unfold stF
          by_cases w3 : r = k
          · rw [if_pos ⟨w2, w3⟩, if_pos (by omega), w3]
          · rw [if_neg (fun e => w3 e.2)]
            by_cases w4 : f ≤ r ∧ r < f + (k - f)
            · rw [if_pos w4, if_pos (by omega)]
            · rw [if_neg w4, if_neg (by omega)]
        · rw [if_neg (fun e => w2 e.1), if_neg w2, if_neg w2]
  refine bx_X4_step_0 hY (pf2_ok hY) ?_
  simp only [wp_iconst, wp_bipush, wp_sipush, wp_ldc, wp_ldc2_w, wp_lconst0, wp_lconst1, wp_aconst_null, wp_iload_0, wp_istore_0, wp_iload_1, wp_istore_1, wp_iload_2, wp_istore_2, wp_iload_3, wp_istore_3, wp_iload, wp_istore, wp_lload_0, wp_lstore_0, wp_lload_1, wp_lstore_1, wp_lload_2, wp_lstore_2, wp_lload_3, wp_lstore_3, wp_lload, wp_lstore, wp_aload_0, wp_astore_0, wp_aload_1, wp_astore_1, wp_aload_2, wp_astore_2, wp_aload_3, wp_astore_3, wp_aload, wp_astore, wp_iinc, wp_iadd, wp_isub, wp_imul, wp_iand, wp_ior, wp_ixor, wp_ishl, wp_ishr, wp_iushr, wp_irem, wp_ladd, wp_lsub, wp_lmul, wp_land, wp_lor, wp_lxor, wp_lshl, wp_lshr, wp_lushr, wp_lrem, wp_lcmp, wp_i2l, wp_l2i, wp_dupI, wp_dupA, wp_dup2J, wp_dup2IA, wp_popI, wp_popA, wp_pop2, wp_goto, wp_if_eq, wp_icmp_eq, wp_if_ne, wp_icmp_ne, wp_if_lt, wp_icmp_lt, wp_if_ge, wp_icmp_ge, wp_if_gt, wp_icmp_gt, wp_if_le, wp_icmp_le, wp_ifnull, wp_ifnonnull, wp_acmp_eq, wp_acmp_ne, wp_tableswitch, wp_get0, wp_put0, wp_get1, wp_put1, wp_get2, wp_put2, wp_get3, wp_put3, wp_new, wp_newarray, wp_anewarray, wp_alen, wp_iaload, wp_laload, wp_baload, wp_aaload, wp_iastore, wp_lastore, wp_bastore, wp_aastore, wp_return, wp_ireturnI, wp_ireturnZ, wp_lreturn, wp_areturnO, wp_areturnA, wp_max, wp_min, wp_obj, wp_virt, wp_nil, ld_I0, ld_Is, ld_J0, ld_Js, ld_A0, ld_As, ha_0, ha_s, cx_put1, cx_put2, cx_dl, cx_tgt, true_and, and_true, Nat.reduceAdd, Nat.reduceSub, Int.reduceAdd, Int.reduceNeg, Int.reduceToNat, Int.reduceSub, Int.cast_ofNat_Int, List.take_succ_cons, List.take_zero, List.drop_succ_cons, List.drop_zero, List.take_nil, List.drop_nil, Option.toList_some, Option.toList_none, List.cons_append, List.nil_append, wp_spec, ne_eq, Nat.reduceEqDiff, not_false_eq_true, true_or, or_true]
  refine loop m.toNat f h (by omega) (by omega) H ?_
  have e0 : f - f = 0 := by omega
  rw [e0]
  refine qext rfl rfl rfl (fun q r => rfl) (fun q r => ?_) (fun q r => rfl)
  simp only [mm_sJ, rr_J]
  by_cases w : q = a ∧ r = 6
  · rw [if_pos w, w.1, w.2]
    exact nxI_0.symm
  · rw [if_neg w]
    split
    · rename_i w2
      unfold stF
      rw [if_neg (by omega), w2]
    · rfl
/-- whether a SESSION is turned by such a letter -/
def cT (o15 : Int) (eo so : Int64) : Int := if o15 = 0 ∨ eo ≠ so then 1 else 0
def cOld (t : Int) (rt : Option Nat) (pn nr : Int) : Int := if t = 1 ∧ rt ≠ none ∧ nr < pn then pn - nr else 0
def cNew (t place nr : Int) : Int := if t = 1 then place else place - nr
/-- nothing hinders it but the TAG -/
def csOK (t : Int) (rt : Option Nat) (pn place nr sz : Int) : Prop := ¬ (t = 0 ∧ rt = none) ∧ ¬ (t = 0 ∧ place < nr) ∧ cOld t rt pn nr + cNew t place nr ≤ 10 ∧ sz + (cOld t rt pn nr + cNew t place nr) ≤ 20
theorem e_X4_countSteps (hY : cY Y) {a b s e k : Nat} {t : Int} (H : CI c n L Z E h0 [] h) (hs : cq_s h a = 3) (hss : cq_s h s = 7) (hse : cq_s h e = 0) (ek : cq_A h s 19 = some k) (ht : t = cT (cq_I h s 15) (cq_J h e 9) (cq_J h s 13)) (hF : ∀ m g, 1 ≤ m → m ≤ 10 → CI c n L Z E h0 [] g → ox a b h g → ¬ csOK t (cq_A h s 11) (cq_I h e 10) (cq_I h e 11) (cq_I h s 17) (cq_I h k 4) → K (some (.inl m)) g) (hK : ∀ g, CI c n L Z E h0 [] g → ox a b h g → csOK t (cq_A h s 11) (cq_I h e 10) (cq_I h e 11) (cq_I h s 17) (cq_I h k 4) → cq_J g = cq_J h → cq_I g a 1 = cq_I h a 1 → cq_I g a 2 = t → cq_I g a 3 = cOld t (cq_A h s 11) (cq_I h e 10) (cq_I h s 17) → cq_I g a 4 = cNew t (cq_I h e 11) (cq_I h s 17) → K (some (.inl 0)) g) : cw Y mi_X4_countSteps K 0 [some (.inr (.inr (some a))), some (.inr (.inr (some s))), some (.inr (.inr (some e))), none] [] h 0 0 := by
  have i17 := H.i7_17 hss
  have e10 := H.i0_10 hse
  have e11 := H.i0_11 hse
  have sk : cq_s h k = 1 := H.ta hss (own_9 (by decide)) ek
  have ik := H.i1_4 sk
  have na : ¬ s = a := ns hss hs (by decide)
  have ne : ¬ e = a := ns hse hs (by decide)
  have nk : ¬ k = a := ns sk hs (by decide)
  have t01 : t = 0 ∨ t = 1 := by rw [ht]; unfold cT; split <;> omega
  have j124 : ∀ (g : cx_Q), CI c n L Z E h0 [] g → ox a b h g → cq_J g = cq_J h → cq_I g a 1 = cq_I h a 1 → cq_I g a 2 = t → cq_I g a 3 = cOld t (cq_A h s 11) (cq_I h e 10) (cq_I h s 17) → ¬ (t = 0 ∧ cq_A h s 11 = none) → ¬ (t = 0 ∧ cq_I h e 11 < cq_I h s 17) → cw Y mi_X4_countSteps K 124 [some (.inr (.inr (some a))), some (.inr (.inr (some s))), some (.inr (.inr (some e))), none] [.inl (cNew t (cq_I h e 11) (cq_I h s 17)), .inr (.inr (some a))] g 0 0 := by
    intro g G kg gj g1 g2 g3 c1 c2
    have gs : cq_s g a = 3 := kg.s hs
    have gss : cq_s g s = 7 := kg.s hss
    have gk : cq_A g s 19 = some k := by rw [kg.2.2.2.1]; exact ek
    have gsk : cq_s g k = 1 := kg.s sk
    have gik : cq_I g k 4 = cq_I h k 4 := by rw [kg.2.2.2.2.1 k nk]
    have r3 : 0 ≤ cOld t (cq_A h s 11) (cq_I h e 10) (cq_I h s 17) ∧ cOld t (cq_A h s 11) (cq_I h e 10) (cq_I h s 17) ≤ 70000 := by unfold cOld; split <;> omega
    have r4 : -70000 ≤ cNew t (cq_I h e 11) (cq_I h s 17) ∧ cNew t (cq_I h e 11) (cq_I h s 17) ≤ 70000 := by unfold cNew; split <;> omega
    have G' := G.sI (a := a) (j := 4) (v := cNew t (cq_I h e 11) (cq_I h s 17)) gs (own_9 (by decide)) r4 rfl
    have k' : ox a b h (cq_sI g a 4 (cNew t (cq_I h e 11) (cq_I h s 17))) := kg.sI
    have j157 : ¬ csOK t (cq_A h s 11) (cq_I h e 10) (cq_I h e 11) (cq_I h s 17) (cq_I h k 4) → ∀ lv, cw Y mi_X4_countSteps K 157 lv [] (cq_sI g a 4 (cNew t (cq_I h e 11) (cq_I h s 17))) 0 0 := by
      intro w lv
      refine bx_X4_countSteps_157 hY (pf2_ok hY) ?_
      simp only [wp_iconst, wp_bipush, wp_sipush, wp_ldc, wp_ldc2_w, wp_lconst0, wp_lconst1, wp_aconst_null, wp_iload_0, wp_istore_0, wp_iload_1, wp_istore_1, wp_iload_2, wp_istore_2, wp_iload_3, wp_istore_3, wp_iload, wp_istore, wp_lload_0, wp_lstore_0, wp_lload_1, wp_lstore_1, wp_lload_2, wp_lstore_2, wp_lload_3, wp_lstore_3, wp_lload, wp_lstore, wp_aload_0, wp_astore_0, wp_aload_1, wp_astore_1, wp_aload_2, wp_astore_2, wp_aload_3, wp_astore_3, wp_aload, wp_astore, wp_iinc, wp_iadd, wp_isub, wp_imul, wp_iand, wp_ior, wp_ixor, wp_ishl, wp_ishr, wp_iushr, wp_irem, wp_ladd, wp_lsub, wp_lmul, wp_land, wp_lor, wp_lxor, wp_lshl, wp_lshr, wp_lushr, wp_lrem, wp_lcmp, wp_i2l, wp_l2i, wp_dupI, wp_dupA, wp_dup2J, wp_dup2IA, wp_popI, wp_popA, wp_pop2, wp_goto, wp_if_eq, wp_icmp_eq, wp_if_ne, wp_icmp_ne, wp_if_lt, wp_icmp_lt, wp_if_ge, wp_icmp_ge, wp_if_gt, wp_icmp_gt, wp_if_le, wp_icmp_le, wp_ifnull, wp_ifnonnull, wp_acmp_eq, wp_acmp_ne, wp_tableswitch, wp_get0, wp_put0, wp_get1, wp_put1, wp_get2, wp_put2, wp_get3, wp_put3, wp_new, wp_newarray, wp_anewarray, wp_alen, wp_iaload, wp_laload, wp_baload, wp_aaload, wp_iastore, wp_lastore, wp_bastore, wp_aastore, wp_return, wp_ireturnI, wp_ireturnZ, wp_lreturn, wp_areturnO, wp_areturnA, wp_max, wp_min, wp_obj, wp_virt, wp_nil, ld_I0, ld_Is, ld_J0, ld_Js, ld_A0, ld_As, ha_0, ha_s, cx_put1, cx_put2, cx_dl, cx_tgt, true_and, and_true, Nat.reduceAdd, Nat.reduceSub, Int.reduceAdd, Int.reduceNeg, Int.reduceToNat, Int.reduceSub, Int.cast_ofNat_Int, List.take_succ_cons, List.take_zero, List.drop_succ_cons, List.drop_zero, List.take_nil, List.drop_nil, Option.toList_some, Option.toList_none, List.cons_append, List.nil_append, wp_spec, ne_eq, Nat.reduceEqDiff, not_false_eq_true, true_or, or_true]
      exact hF 5 _ (by omega) (by omega) G' k' w
    refine bx_X4_countSteps_124 hY (pf2_ok hY) ?_
    simp only [wp_iconst, wp_bipush, wp_sipush, wp_ldc, wp_ldc2_w, wp_lconst0, wp_lconst1, wp_aconst_null, wp_iload_0, wp_istore_0, wp_iload_1, wp_istore_1, wp_iload_2, wp_istore_2, wp_iload_3, wp_istore_3, wp_iload, wp_istore, wp_lload_0, wp_lstore_0, wp_lload_1, wp_lstore_1, wp_lload_2, wp_lstore_2, wp_lload_3, wp_lstore_3, wp_lload, wp_lstore, wp_aload_0, wp_astore_0, wp_aload_1, wp_astore_1, wp_aload_2, wp_astore_2, wp_aload_3, wp_astore_3, wp_aload, wp_astore, wp_iinc, wp_iadd, wp_isub, wp_imul, wp_iand, wp_ior, wp_ixor, wp_ishl, wp_ishr, wp_iushr, wp_irem, wp_ladd, wp_lsub, wp_lmul, wp_land, wp_lor, wp_lxor, wp_lshl, wp_lshr, wp_lushr, wp_lrem, wp_lcmp, wp_i2l, wp_l2i, wp_dupI, wp_dupA, wp_dup2J, wp_dup2IA, wp_popI, wp_popA, wp_pop2, wp_goto, wp_if_eq, wp_icmp_eq, wp_if_ne, wp_icmp_ne, wp_if_lt, wp_icmp_lt, wp_if_ge, wp_icmp_ge, wp_if_gt, wp_icmp_gt, wp_if_le, wp_icmp_le, wp_ifnull, wp_ifnonnull, wp_acmp_eq, wp_acmp_ne, wp_tableswitch, wp_get0, wp_put0, wp_get1, wp_put1, wp_get2, wp_put2, wp_get3, wp_put3, wp_new, wp_newarray, wp_anewarray, wp_alen, wp_iaload, wp_laload, wp_baload, wp_aaload, wp_iastore, wp_lastore, wp_bastore, wp_aastore, wp_return, wp_ireturnI, wp_ireturnZ, wp_lreturn, wp_areturnO, wp_areturnA, wp_max, wp_min, wp_obj, wp_virt, wp_nil, ld_I0, ld_Is, ld_J0, ld_Js, ld_A0, ld_As, ha_0, ha_s, cx_put1, cx_put2, cx_dl, cx_tgt, true_and, and_true, Nat.reduceAdd, Nat.reduceSub, Int.reduceAdd, Int.reduceNeg, Int.reduceToNat, Int.reduceSub, Int.cast_ofNat_Int, List.take_succ_cons, List.take_zero, List.drop_succ_cons, List.drop_zero, List.take_nil, List.drop_nil, Option.toList_some, Option.toList_none, List.cons_append, List.nil_append, wp_spec, ne_eq, Nat.reduceEqDiff, not_false_eq_true, true_or, or_true, gs, gss, gk, gsk, gik, nk, g3, mm_sI, mm_sJ, mm_sA, mm_IJ, mm_IA, mm_JI, mm_JA, mm_AI, mm_AJ, mm_ssI, mm_ssJ, mm_ssA, mm_zI, mm_zJ, mm_zA, mm_nI, mm_nJ, mm_nA, Nat.left_eq_add, Nat.add_eq_left, Nat.add_left_cancel_iff, Nat.reduceEqDiff, Int.reduceEq, false_and, and_false, if_false, if_true, and_self, true_and, true_or, or_true, false_or, or_false, cx_rg]
    refine ⟨by omega, fun q => j157 (fun w => by unfold csOK at w; omega) _, fun q1 => ⟨by omega, fun q2 => ?_, fun q => j157 (fun w => by unfold csOK at w; omega) _⟩⟩
    refine bx_X4_countSteps_159 hY (pf2_ok hY) ?_
    simp only [wp_iconst, wp_bipush, wp_sipush, wp_ldc, wp_ldc2_w, wp_lconst0, wp_lconst1, wp_aconst_null, wp_iload_0, wp_istore_0, wp_iload_1, wp_istore_1, wp_iload_2, wp_istore_2, wp_iload_3, wp_istore_3, wp_iload, wp_istore, wp_lload_0, wp_lstore_0, wp_lload_1, wp_lstore_1, wp_lload_2, wp_lstore_2, wp_lload_3, wp_lstore_3, wp_lload, wp_lstore, wp_aload_0, wp_astore_0, wp_aload_1, wp_astore_1, wp_aload_2, wp_astore_2, wp_aload_3, wp_astore_3, wp_aload, wp_astore, wp_iinc, wp_iadd, wp_isub, wp_imul, wp_iand, wp_ior, wp_ixor, wp_ishl, wp_ishr, wp_iushr, wp_irem, wp_ladd, wp_lsub, wp_lmul, wp_land, wp_lor, wp_lxor, wp_lshl, wp_lshr, wp_lushr, wp_lrem, wp_lcmp, wp_i2l, wp_l2i, wp_dupI, wp_dupA, wp_dup2J, wp_dup2IA, wp_popI, wp_popA, wp_pop2, wp_goto, wp_if_eq, wp_icmp_eq, wp_if_ne, wp_icmp_ne, wp_if_lt, wp_icmp_lt, wp_if_ge, wp_icmp_ge, wp_if_gt, wp_icmp_gt, wp_if_le, wp_icmp_le, wp_ifnull, wp_ifnonnull, wp_acmp_eq, wp_acmp_ne, wp_tableswitch, wp_get0, wp_put0, wp_get1, wp_put1, wp_get2, wp_put2, wp_get3, wp_put3, wp_new, wp_newarray, wp_anewarray, wp_alen, wp_iaload, wp_laload, wp_baload, wp_aaload, wp_iastore, wp_lastore, wp_bastore, wp_aastore, wp_return, wp_ireturnI, wp_ireturnZ, wp_lreturn, wp_areturnO, wp_areturnA, wp_max, wp_min, wp_obj, wp_virt, wp_nil, ld_I0, ld_Is, ld_J0, ld_Js, ld_A0, ld_As, ha_0, ha_s, cx_put1, cx_put2, cx_dl, cx_tgt, true_and, and_true, Nat.reduceAdd, Nat.reduceSub, Int.reduceAdd, Int.reduceNeg, Int.reduceToNat, Int.reduceSub, Int.cast_ofNat_Int, List.take_succ_cons, List.take_zero, List.drop_succ_cons, List.drop_zero, List.take_nil, List.drop_nil, Option.toList_some, Option.toList_none, List.cons_append, List.nil_append, wp_spec, ne_eq, Nat.reduceEqDiff, not_false_eq_true, true_or, or_true]
    refine hK _ G' k' ⟨c1, c2, by omega, by omega⟩ gj ?_ ?_ ?_ ?_
    · simp only [mm_sI, mm_sJ, mm_sA, mm_IJ, mm_IA, mm_JI, mm_JA, mm_AI, mm_AJ, mm_ssI, mm_ssJ, mm_ssA, mm_zI, mm_zJ, mm_zA, mm_nI, mm_nJ, mm_nA, Nat.left_eq_add, Nat.add_eq_left, Nat.add_left_cancel_iff, Nat.reduceEqDiff, Int.reduceEq, false_and, and_false, if_false, if_true, and_self, true_and, true_or, or_true, false_or, or_false]; exact g1
    · simp only [mm_sI, mm_sJ, mm_sA, mm_IJ, mm_IA, mm_JI, mm_JA, mm_AI, mm_AJ, mm_ssI, mm_ssJ, mm_ssA, mm_zI, mm_zJ, mm_zA, mm_nI, mm_nJ, mm_nA, Nat.left_eq_add, Nat.add_eq_left, Nat.add_left_cancel_iff, Nat.reduceEqDiff, Int.reduceEq, false_and, and_false, if_false, if_true, and_self, true_and, true_or, or_true, false_or, or_false]; exact g2
    · simp only [mm_sI, mm_sJ, mm_sA, mm_IJ, mm_IA, mm_JI, mm_JA, mm_AI, mm_AJ, mm_ssI, mm_ssJ, mm_ssA, mm_zI, mm_zJ, mm_zA, mm_nI, mm_nJ, mm_nA, Nat.left_eq_add, Nat.add_eq_left, Nat.add_left_cancel_iff, Nat.reduceEqDiff, Int.reduceEq, false_and, and_false, if_false, if_true, and_self, true_and, true_or, or_true, false_or, or_false]; exact g3
    · simp only [mm_sI, mm_sJ, mm_sA, mm_IJ, mm_IA, mm_JI, mm_JA, mm_AI, mm_AJ, mm_ssI, mm_ssJ, mm_ssA, mm_zI, mm_zJ, mm_zA, mm_nI, mm_nJ, mm_nA, Nat.left_eq_add, Nat.add_eq_left, Nat.add_left_cancel_iff, Nat.reduceEqDiff, Int.reduceEq, false_and, and_false, if_false, if_true, and_self, true_and, true_or, or_true, false_or, or_false]
  have j97 : ∀ (v : Int) (g : cx_Q), v = cOld t (cq_A h s 11) (cq_I h e 10) (cq_I h s 17) → CI c n L Z E h0 [] g → ox a b h g → cq_J g = cq_J h → cq_I g a 1 = cq_I h a 1 → cq_I g a 2 = t → ¬ (t = 0 ∧ cq_A h s 11 = none) → ¬ (t = 0 ∧ cq_I h e 11 < cq_I h s 17) → cw Y mi_X4_countSteps K 97 [some (.inr (.inr (some a))), some (.inr (.inr (some s))), some (.inr (.inr (some e))), none] [.inl v, .inr (.inr (some a))] g 0 0 := by
    intro v g hv G kg gj g1 g2 c1 c2
    have gs : cq_s g a = 3 := kg.s hs
    have gss : cq_s g s = 7 := kg.s hss
    have gse : cq_s g e = 0 := kg.s hse
    have gi17 : cq_I g s 17 = cq_I h s 17 := by rw [kg.2.2.2.2.1 s na]
    have ge11 : cq_I g e 11 = cq_I h e 11 := by rw [kg.2.2.2.2.1 e ne]
    have r3 : 0 ≤ v ∧ v ≤ 70000 := by rw [hv]; unfold cOld; split <;> omega
    have G' := G.sI (a := a) (j := 3) (v := v) gs (own_9 (by decide)) r3 rfl
    have k' : ox a b h (cq_sI g a 3 v) := kg.sI
    have g1' : cq_I (cq_sI g a 3 v) a 1 = cq_I h a 1 := by simp only [mm_sI, mm_sJ, mm_sA, mm_IJ, mm_IA, mm_JI, mm_JA, mm_AI, mm_AJ, mm_ssI, mm_ssJ, mm_ssA, mm_zI, mm_zJ, mm_zA, mm_nI, mm_nJ, mm_nA, Nat.left_eq_add, Nat.add_eq_left, Nat.add_left_cancel_iff, Nat.reduceEqDiff, Int.reduceEq, false_and, and_false, if_false, if_true, and_self, true_and, true_or, or_true, false_or, or_false]; exact g1
    have g2' : cq_I (cq_sI g a 3 v) a 2 = t := by simp only [mm_sI, mm_sJ, mm_sA, mm_IJ, mm_IA, mm_JI, mm_JA, mm_AI, mm_AJ, mm_ssI, mm_ssJ, mm_ssA, mm_zI, mm_zJ, mm_zA, mm_nI, mm_nJ, mm_nA, Nat.left_eq_add, Nat.add_eq_left, Nat.add_left_cancel_iff, Nat.reduceEqDiff, Int.reduceEq, false_and, and_false, if_false, if_true, and_self, true_and, true_or, or_true, false_or, or_false]; exact g2
    have g3' : cq_I (cq_sI g a 3 v) a 3 = cOld t (cq_A h s 11) (cq_I h e 10) (cq_I h s 17) := by simp only [mm_sI, mm_sJ, mm_sA, mm_IJ, mm_IA, mm_JI, mm_JA, mm_AI, mm_AJ, mm_ssI, mm_ssJ, mm_ssA, mm_zI, mm_zJ, mm_zA, mm_nI, mm_nJ, mm_nA, Nat.left_eq_add, Nat.add_eq_left, Nat.add_left_cancel_iff, Nat.reduceEqDiff, Int.reduceEq, false_and, and_false, if_false, if_true, and_self, true_and, true_or, or_true, false_or, or_false]; exact hv
    refine bx_X4_countSteps_97 hY (pf2_ok hY) ?_
    simp only [wp_iconst, wp_bipush, wp_sipush, wp_ldc, wp_ldc2_w, wp_lconst0, wp_lconst1, wp_aconst_null, wp_iload_0, wp_istore_0, wp_iload_1, wp_istore_1, wp_iload_2, wp_istore_2, wp_iload_3, wp_istore_3, wp_iload, wp_istore, wp_lload_0, wp_lstore_0, wp_lload_1, wp_lstore_1, wp_lload_2, wp_lstore_2, wp_lload_3, wp_lstore_3, wp_lload, wp_lstore, wp_aload_0, wp_astore_0, wp_aload_1, wp_astore_1, wp_aload_2, wp_astore_2, wp_aload_3, wp_astore_3, wp_aload, wp_astore, wp_iinc, wp_iadd, wp_isub, wp_imul, wp_iand, wp_ior, wp_ixor, wp_ishl, wp_ishr, wp_iushr, wp_irem, wp_ladd, wp_lsub, wp_lmul, wp_land, wp_lor, wp_lxor, wp_lshl, wp_lshr, wp_lushr, wp_lrem, wp_lcmp, wp_i2l, wp_l2i, wp_dupI, wp_dupA, wp_dup2J, wp_dup2IA, wp_popI, wp_popA, wp_pop2, wp_goto, wp_if_eq, wp_icmp_eq, wp_if_ne, wp_icmp_ne, wp_if_lt, wp_icmp_lt, wp_if_ge, wp_icmp_ge, wp_if_gt, wp_icmp_gt, wp_if_le, wp_icmp_le, wp_ifnull, wp_ifnonnull, wp_acmp_eq, wp_acmp_ne, wp_tableswitch, wp_get0, wp_put0, wp_get1, wp_put1, wp_get2, wp_put2, wp_get3, wp_put3, wp_new, wp_newarray, wp_anewarray, wp_alen, wp_iaload, wp_laload, wp_baload, wp_aaload, wp_iastore, wp_lastore, wp_bastore, wp_aastore, wp_return, wp_ireturnI, wp_ireturnZ, wp_lreturn, wp_areturnO, wp_areturnA, wp_max, wp_min, wp_obj, wp_virt, wp_nil, ld_I0, ld_Is, ld_J0, ld_Js, ld_A0, ld_As, ha_0, ha_s, cx_put1, cx_put2, cx_dl, cx_tgt, true_and, and_true, Nat.reduceAdd, Nat.reduceSub, Int.reduceAdd, Int.reduceNeg, Int.reduceToNat, Int.reduceSub, Int.cast_ofNat_Int, List.take_succ_cons, List.take_zero, List.drop_succ_cons, List.drop_zero, List.take_nil, List.drop_nil, Option.toList_some, Option.toList_none, List.cons_append, List.nil_append, wp_spec, ne_eq, Nat.reduceEqDiff, not_false_eq_true, true_or, or_true, gs, gse, ge11, ne, g2, mm_sI, mm_sJ, mm_sA, mm_IJ, mm_IA, mm_JI, mm_JA, mm_AI, mm_AJ, mm_ssI, mm_ssJ, mm_ssA, mm_zI, mm_zJ, mm_zA, mm_nI, mm_nJ, mm_nA, Nat.left_eq_add, Nat.add_eq_left, Nat.add_left_cancel_iff, Nat.reduceEqDiff, Int.reduceEq, false_and, and_false, if_false, if_true, and_self, true_and, true_or, or_true, false_or, or_false]
    refine ⟨fun q => ?_, fun q => ?_⟩
    · have e4 : cNew t (cq_I h e 11) (cq_I h s 17) = cq_I h e 11 - cq_I h s 17 := by unfold cNew; rw [if_neg (by omega)]
      refine bx_X4_countSteps_115 hY (pf2_ok hY) ?_
      simp only [wp_iconst, wp_bipush, wp_sipush, wp_ldc, wp_ldc2_w, wp_lconst0, wp_lconst1, wp_aconst_null, wp_iload_0, wp_istore_0, wp_iload_1, wp_istore_1, wp_iload_2, wp_istore_2, wp_iload_3, wp_istore_3, wp_iload, wp_istore, wp_lload_0, wp_lstore_0, wp_lload_1, wp_lstore_1, wp_lload_2, wp_lstore_2, wp_lload_3, wp_lstore_3, wp_lload, wp_lstore, wp_aload_0, wp_astore_0, wp_aload_1, wp_astore_1, wp_aload_2, wp_astore_2, wp_aload_3, wp_astore_3, wp_aload, wp_astore, wp_iinc, wp_iadd, wp_isub, wp_imul, wp_iand, wp_ior, wp_ixor, wp_ishl, wp_ishr, wp_iushr, wp_irem, wp_ladd, wp_lsub, wp_lmul, wp_land, wp_lor, wp_lxor, wp_lshl, wp_lshr, wp_lushr, wp_lrem, wp_lcmp, wp_i2l, wp_l2i, wp_dupI, wp_dupA, wp_dup2J, wp_dup2IA, wp_popI, wp_popA, wp_pop2, wp_goto, wp_if_eq, wp_icmp_eq, wp_if_ne, wp_icmp_ne, wp_if_lt, wp_icmp_lt, wp_if_ge, wp_icmp_ge, wp_if_gt, wp_icmp_gt, wp_if_le, wp_icmp_le, wp_ifnull, wp_ifnonnull, wp_acmp_eq, wp_acmp_ne, wp_tableswitch, wp_get0, wp_put0, wp_get1, wp_put1, wp_get2, wp_put2, wp_get3, wp_put3, wp_new, wp_newarray, wp_anewarray, wp_alen, wp_iaload, wp_laload, wp_baload, wp_aaload, wp_iastore, wp_lastore, wp_bastore, wp_aastore, wp_return, wp_ireturnI, wp_ireturnZ, wp_lreturn, wp_areturnO, wp_areturnA, wp_max, wp_min, wp_obj, wp_virt, wp_nil, ld_I0, ld_Is, ld_J0, ld_Js, ld_A0, ld_As, ha_0, ha_s, cx_put1, cx_put2, cx_dl, cx_tgt, true_and, and_true, Nat.reduceAdd, Nat.reduceSub, Int.reduceAdd, Int.reduceNeg, Int.reduceToNat, Int.reduceSub, Int.cast_ofNat_Int, List.take_succ_cons, List.take_zero, List.drop_succ_cons, List.drop_zero, List.take_nil, List.drop_nil, Option.toList_some, Option.toList_none, List.cons_append, List.nil_append, wp_spec, ne_eq, Nat.reduceEqDiff, not_false_eq_true, true_or, or_true, gse, gss, ge11, gi17, ne, na, mm_sI, mm_sJ, mm_sA, mm_IJ, mm_IA, mm_JI, mm_JA, mm_AI, mm_AJ, mm_ssI, mm_ssJ, mm_ssA, mm_zI, mm_zJ, mm_zA, mm_nI, mm_nJ, mm_nA, Nat.left_eq_add, Nat.add_eq_left, Nat.add_left_cancel_iff, Nat.reduceEqDiff, Int.reduceEq, false_and, and_false, if_false, if_true, and_self, true_and, true_or, or_true, false_or, or_false, cx_rg]
      refine ⟨by omega, ?_⟩
      rw [← e4]
      exact j124 _ G' k' gj g1' g2' g3' c1 c2
    · have e4 : cNew t (cq_I h e 11) (cq_I h s 17) = cq_I h e 11 := by unfold cNew; rw [if_pos (by omega)]
      have := j124 _ G' k' gj g1' g2' g3' c1 c2
      rw [e4] at this
      exact this
  have j65 : ∀ (g : cx_Q), CI c n L Z E h0 [] g → ox a b h g → cq_J g = cq_J h → cq_I g a 1 = cq_I h a 1 → cq_I g a 2 = t → ¬ (t = 0 ∧ cq_A h s 11 = none) → ¬ (t = 0 ∧ cq_I h e 11 < cq_I h s 17) → cw Y mi_X4_countSteps K 65 [some (.inr (.inr (some a))), some (.inr (.inr (some s))), some (.inr (.inr (some e))), none] [] g 0 0 := by
    intro g G kg gj g1 g2 c1 c2
    have gs : cq_s g a = 3 := kg.s hs
    have gss : cq_s g s = 7 := kg.s hss
    have gse : cq_s g e = 0 := kg.s hse
    have gi17 : cq_I g s 17 = cq_I h s 17 := by rw [kg.2.2.2.2.1 s na]
    have ge10 : cq_I g e 10 = cq_I h e 10 := by rw [kg.2.2.2.2.1 e ne]
    have gA : cq_A g s 11 = cq_A h s 11 := by rw [kg.2.2.2.1]
    have j96 : cOld t (cq_A h s 11) (cq_I h e 10) (cq_I h s 17) = 0 → cw Y mi_X4_countSteps K 96 [some (.inr (.inr (some a))), some (.inr (.inr (some s))), some (.inr (.inr (some e))), none] [.inr (.inr (some a))] g 0 0 := by
      intro w
      refine bx_X4_countSteps_96 hY (pf2_ok hY) ?_
      simp only [wp_iconst, wp_bipush, wp_sipush, wp_ldc, wp_ldc2_w, wp_lconst0, wp_lconst1, wp_aconst_null, wp_iload_0, wp_istore_0, wp_iload_1, wp_istore_1, wp_iload_2, wp_istore_2, wp_iload_3, wp_istore_3, wp_iload, wp_istore, wp_lload_0, wp_lstore_0, wp_lload_1, wp_lstore_1, wp_lload_2, wp_lstore_2, wp_lload_3, wp_lstore_3, wp_lload, wp_lstore, wp_aload_0, wp_astore_0, wp_aload_1, wp_astore_1, wp_aload_2, wp_astore_2, wp_aload_3, wp_astore_3, wp_aload, wp_astore, wp_iinc, wp_iadd, wp_isub, wp_imul, wp_iand, wp_ior, wp_ixor, wp_ishl, wp_ishr, wp_iushr, wp_irem, wp_ladd, wp_lsub, wp_lmul, wp_land, wp_lor, wp_lxor, wp_lshl, wp_lshr, wp_lushr, wp_lrem, wp_lcmp, wp_i2l, wp_l2i, wp_dupI, wp_dupA, wp_dup2J, wp_dup2IA, wp_popI, wp_popA, wp_pop2, wp_goto, wp_if_eq, wp_icmp_eq, wp_if_ne, wp_icmp_ne, wp_if_lt, wp_icmp_lt, wp_if_ge, wp_icmp_ge, wp_if_gt, wp_icmp_gt, wp_if_le, wp_icmp_le, wp_ifnull, wp_ifnonnull, wp_acmp_eq, wp_acmp_ne, wp_tableswitch, wp_get0, wp_put0, wp_get1, wp_put1, wp_get2, wp_put2, wp_get3, wp_put3, wp_new, wp_newarray, wp_anewarray, wp_alen, wp_iaload, wp_laload, wp_baload, wp_aaload, wp_iastore, wp_lastore, wp_bastore, wp_aastore, wp_return, wp_ireturnI, wp_ireturnZ, wp_lreturn, wp_areturnO, wp_areturnA, wp_max, wp_min, wp_obj, wp_virt, wp_nil, ld_I0, ld_Is, ld_J0, ld_Js, ld_A0, ld_As, ha_0, ha_s, cx_put1, cx_put2, cx_dl, cx_tgt, true_and, and_true, Nat.reduceAdd, Nat.reduceSub, Int.reduceAdd, Int.reduceNeg, Int.reduceToNat, Int.reduceSub, Int.cast_ofNat_Int, List.take_succ_cons, List.take_zero, List.drop_succ_cons, List.drop_zero, List.take_nil, List.drop_nil, Option.toList_some, Option.toList_none, List.cons_append, List.nil_append, wp_spec, ne_eq, Nat.reduceEqDiff, not_false_eq_true, true_or, or_true]
      exact j97 0 g w.symm G kg gj g1 g2 c1 c2
    refine bx_X4_countSteps_65 hY (pf2_ok hY) ?_
    simp only [wp_iconst, wp_bipush, wp_sipush, wp_ldc, wp_ldc2_w, wp_lconst0, wp_lconst1, wp_aconst_null, wp_iload_0, wp_istore_0, wp_iload_1, wp_istore_1, wp_iload_2, wp_istore_2, wp_iload_3, wp_istore_3, wp_iload, wp_istore, wp_lload_0, wp_lstore_0, wp_lload_1, wp_lstore_1, wp_lload_2, wp_lstore_2, wp_lload_3, wp_lstore_3, wp_lload, wp_lstore, wp_aload_0, wp_astore_0, wp_aload_1, wp_astore_1, wp_aload_2, wp_astore_2, wp_aload_3, wp_astore_3, wp_aload, wp_astore, wp_iinc, wp_iadd, wp_isub, wp_imul, wp_iand, wp_ior, wp_ixor, wp_ishl, wp_ishr, wp_iushr, wp_irem, wp_ladd, wp_lsub, wp_lmul, wp_land, wp_lor, wp_lxor, wp_lshl, wp_lshr, wp_lushr, wp_lrem, wp_lcmp, wp_i2l, wp_l2i, wp_dupI, wp_dupA, wp_dup2J, wp_dup2IA, wp_popI, wp_popA, wp_pop2, wp_goto, wp_if_eq, wp_icmp_eq, wp_if_ne, wp_icmp_ne, wp_if_lt, wp_icmp_lt, wp_if_ge, wp_icmp_ge, wp_if_gt, wp_icmp_gt, wp_if_le, wp_icmp_le, wp_ifnull, wp_ifnonnull, wp_acmp_eq, wp_acmp_ne, wp_tableswitch, wp_get0, wp_put0, wp_get1, wp_put1, wp_get2, wp_put2, wp_get3, wp_put3, wp_new, wp_newarray, wp_anewarray, wp_alen, wp_iaload, wp_laload, wp_baload, wp_aaload, wp_iastore, wp_lastore, wp_bastore, wp_aastore, wp_return, wp_ireturnI, wp_ireturnZ, wp_lreturn, wp_areturnO, wp_areturnA, wp_max, wp_min, wp_obj, wp_virt, wp_nil, ld_I0, ld_Is, ld_J0, ld_Js, ld_A0, ld_As, ha_0, ha_s, cx_put1, cx_put2, cx_dl, cx_tgt, true_and, and_true, Nat.reduceAdd, Nat.reduceSub, Int.reduceAdd, Int.reduceNeg, Int.reduceToNat, Int.reduceSub, Int.cast_ofNat_Int, List.take_succ_cons, List.take_zero, List.drop_succ_cons, List.drop_zero, List.take_nil, List.drop_nil, Option.toList_some, Option.toList_none, List.cons_append, List.nil_append, wp_spec, ne_eq, Nat.reduceEqDiff, not_false_eq_true, true_or, or_true, wf_X3_mix, wf_X3_key, wf_X3_times, wf_X3_timesModuloQ, wf_X3_power, wf_X3_rest, wf_X3_secretOf, wf_X3_sealSum, wf_X3_sum, wf_X3_letterKey, wf_X3_nextOf, wf_X3_isOpen, wf_X3_veil, wf_X3_sealIsRight, cx_sz, cx_c2, cond_true, cond_false, Nat.reduceLeDiff, gs, gss, gse, gi17, ge10, g2, gA, cx_rg]
    refine ⟨fun q => j96 (by unfold cOld; rw [if_neg (fun w => by omega)]), fun q => ⟨fun q2 => j96 (by unfold cOld; rw [if_neg (fun w => w.2.1 q2)]), fun i q2 => ⟨by omega, ?_⟩⟩⟩
    refine j97 _ g ?_ G kg gj g1 g2 c1 c2
    have eo : cOld t (cq_A h s 11) (cq_I h e 10) (cq_I h s 17) = if cq_I h s 17 < cq_I h e 10 then cq_I h e 10 - cq_I h s 17 else 0 := by
      unfold cOld
      by_cases w : cq_I h s 17 < cq_I h e 10
      · rw [if_pos ⟨by omega, by rw [q2]; exact Option.some_ne_none i, w⟩, if_pos w]
      · rw [if_neg (fun x => w x.2.2), if_neg w]
    rw [eo]
    split <;> split <;> omega
  have j44 : ∀ (g : cx_Q), CI c n L Z E h0 [] g → ox a b h g → cq_J g = cq_J h → cq_I g a 1 = cq_I h a 1 → cq_I g a 2 = t → ¬ (t = 0 ∧ cq_A h s 11 = none) → cw Y mi_X4_countSteps K 44 [some (.inr (.inr (some a))), some (.inr (.inr (some s))), some (.inr (.inr (some e))), none] [] g 0 0 := by
    intro g G kg gj g1 g2 c1
    have gs : cq_s g a = 3 := kg.s hs
    have gss : cq_s g s = 7 := kg.s hss
    have gse : cq_s g e = 0 := kg.s hse
    have gi17 : cq_I g s 17 = cq_I h s 17 := by rw [kg.2.2.2.2.1 s na]
    have ge11 : cq_I g e 11 = cq_I h e 11 := by rw [kg.2.2.2.2.1 e ne]
    refine bx_X4_countSteps_44 hY (pf2_ok hY) ?_
    simp only [wp_iconst, wp_bipush, wp_sipush, wp_ldc, wp_ldc2_w, wp_lconst0, wp_lconst1, wp_aconst_null, wp_iload_0, wp_istore_0, wp_iload_1, wp_istore_1, wp_iload_2, wp_istore_2, wp_iload_3, wp_istore_3, wp_iload, wp_istore, wp_lload_0, wp_lstore_0, wp_lload_1, wp_lstore_1, wp_lload_2, wp_lstore_2, wp_lload_3, wp_lstore_3, wp_lload, wp_lstore, wp_aload_0, wp_astore_0, wp_aload_1, wp_astore_1, wp_aload_2, wp_astore_2, wp_aload_3, wp_astore_3, wp_aload, wp_astore, wp_iinc, wp_iadd, wp_isub, wp_imul, wp_iand, wp_ior, wp_ixor, wp_ishl, wp_ishr, wp_iushr, wp_irem, wp_ladd, wp_lsub, wp_lmul, wp_land, wp_lor, wp_lxor, wp_lshl, wp_lshr, wp_lushr, wp_lrem, wp_lcmp, wp_i2l, wp_l2i, wp_dupI, wp_dupA, wp_dup2J, wp_dup2IA, wp_popI, wp_popA, wp_pop2, wp_goto, wp_if_eq, wp_icmp_eq, wp_if_ne, wp_icmp_ne, wp_if_lt, wp_icmp_lt, wp_if_ge, wp_icmp_ge, wp_if_gt, wp_icmp_gt, wp_if_le, wp_icmp_le, wp_ifnull, wp_ifnonnull, wp_acmp_eq, wp_acmp_ne, wp_tableswitch, wp_get0, wp_put0, wp_get1, wp_put1, wp_get2, wp_put2, wp_get3, wp_put3, wp_new, wp_newarray, wp_anewarray, wp_alen, wp_iaload, wp_laload, wp_baload, wp_aaload, wp_iastore, wp_lastore, wp_bastore, wp_aastore, wp_return, wp_ireturnI, wp_ireturnZ, wp_lreturn, wp_areturnO, wp_areturnA, wp_max, wp_min, wp_obj, wp_virt, wp_nil, ld_I0, ld_Is, ld_J0, ld_Js, ld_A0, ld_As, ha_0, ha_s, cx_put1, cx_put2, cx_dl, cx_tgt, true_and, and_true, Nat.reduceAdd, Nat.reduceSub, Int.reduceAdd, Int.reduceNeg, Int.reduceToNat, Int.reduceSub, Int.cast_ofNat_Int, List.take_succ_cons, List.take_zero, List.drop_succ_cons, List.drop_zero, List.take_nil, List.drop_nil, Option.toList_some, Option.toList_none, List.cons_append, List.nil_append, wp_spec, ne_eq, Nat.reduceEqDiff, not_false_eq_true, true_or, or_true, gs, gss, gse, gi17, ge11, g2]
    exact ⟨fun q => j65 g G kg gj g1 g2 c1 (fun w => q w.1), fun q => ⟨fun q2 => j65 g G kg gj g1 g2 c1 (by omega), fun q2 => hF 6 g (by omega) (by omega) G kg (fun w => by unfold csOK at w; omega)⟩⟩
  have j25 : ∀ v : Int, v = t → cw Y mi_X4_countSteps K 25 [some (.inr (.inr (some a))), some (.inr (.inr (some s))), some (.inr (.inr (some e))), none] [.inl v, .inr (.inr (some a))] h 0 0 := by
    intro v hv
    have G' := H.sI (a := a) (j := 2) (v := v) hs (own_9 (by decide)) True.intro rfl
    have k' : ox a b h (cq_sI h a 2 v) := ox.refl.sI
    have g1' : cq_I (cq_sI h a 2 v) a 1 = cq_I h a 1 := by simp only [mm_sI, mm_sJ, mm_sA, mm_IJ, mm_IA, mm_JI, mm_JA, mm_AI, mm_AJ, mm_ssI, mm_ssJ, mm_ssA, mm_zI, mm_zJ, mm_zA, mm_nI, mm_nJ, mm_nA, Nat.left_eq_add, Nat.add_eq_left, Nat.add_left_cancel_iff, Nat.reduceEqDiff, Int.reduceEq, false_and, and_false, if_false, if_true, and_self, true_and, true_or, or_true, false_or, or_false]
    have g2' : cq_I (cq_sI h a 2 v) a 2 = t := by simp only [mm_sI, mm_sJ, mm_sA, mm_IJ, mm_IA, mm_JI, mm_JA, mm_AI, mm_AJ, mm_ssI, mm_ssJ, mm_ssA, mm_zI, mm_zJ, mm_zA, mm_nI, mm_nJ, mm_nA, Nat.left_eq_add, Nat.add_eq_left, Nat.add_left_cancel_iff, Nat.reduceEqDiff, Int.reduceEq, false_and, and_false, if_false, if_true, and_self, true_and, true_or, or_true, false_or, or_false]; exact hv
    refine bx_X4_countSteps_25 hY (pf2_ok hY) ?_
    simp only [wp_iconst, wp_bipush, wp_sipush, wp_ldc, wp_ldc2_w, wp_lconst0, wp_lconst1, wp_aconst_null, wp_iload_0, wp_istore_0, wp_iload_1, wp_istore_1, wp_iload_2, wp_istore_2, wp_iload_3, wp_istore_3, wp_iload, wp_istore, wp_lload_0, wp_lstore_0, wp_lload_1, wp_lstore_1, wp_lload_2, wp_lstore_2, wp_lload_3, wp_lstore_3, wp_lload, wp_lstore, wp_aload_0, wp_astore_0, wp_aload_1, wp_astore_1, wp_aload_2, wp_astore_2, wp_aload_3, wp_astore_3, wp_aload, wp_astore, wp_iinc, wp_iadd, wp_isub, wp_imul, wp_iand, wp_ior, wp_ixor, wp_ishl, wp_ishr, wp_iushr, wp_irem, wp_ladd, wp_lsub, wp_lmul, wp_land, wp_lor, wp_lxor, wp_lshl, wp_lshr, wp_lushr, wp_lrem, wp_lcmp, wp_i2l, wp_l2i, wp_dupI, wp_dupA, wp_dup2J, wp_dup2IA, wp_popI, wp_popA, wp_pop2, wp_goto, wp_if_eq, wp_icmp_eq, wp_if_ne, wp_icmp_ne, wp_if_lt, wp_icmp_lt, wp_if_ge, wp_icmp_ge, wp_if_gt, wp_icmp_gt, wp_if_le, wp_icmp_le, wp_ifnull, wp_ifnonnull, wp_acmp_eq, wp_acmp_ne, wp_tableswitch, wp_get0, wp_put0, wp_get1, wp_put1, wp_get2, wp_put2, wp_get3, wp_put3, wp_new, wp_newarray, wp_anewarray, wp_alen, wp_iaload, wp_laload, wp_baload, wp_aaload, wp_iastore, wp_lastore, wp_bastore, wp_aastore, wp_return, wp_ireturnI, wp_ireturnZ, wp_lreturn, wp_areturnO, wp_areturnA, wp_max, wp_min, wp_obj, wp_virt, wp_nil, ld_I0, ld_Is, ld_J0, ld_Js, ld_A0, ld_As, ha_0, ha_s, cx_put1, cx_put2, cx_dl, cx_tgt, true_and, and_true, Nat.reduceAdd, Nat.reduceSub, Int.reduceAdd, Int.reduceNeg, Int.reduceToNat, Int.reduceSub, Int.cast_ofNat_Int, List.take_succ_cons, List.take_zero, List.drop_succ_cons, List.drop_zero, List.take_nil, List.drop_nil, Option.toList_some, Option.toList_none, List.cons_append, List.nil_append, wp_spec, ne_eq, Nat.reduceEqDiff, not_false_eq_true, true_or, or_true, hs, hss, mm_sI, mm_sJ, mm_sA, mm_IJ, mm_IA, mm_JI, mm_JA, mm_AI, mm_AJ, mm_ssI, mm_ssJ, mm_ssA, mm_zI, mm_zJ, mm_zA, mm_nI, mm_nJ, mm_nA, Nat.left_eq_add, Nat.add_eq_left, Nat.add_left_cancel_iff, Nat.reduceEqDiff, Int.reduceEq, false_and, and_false, if_false, if_true, and_self, true_and, true_or, or_true, false_or, or_false]
    refine ⟨by omega, fun q => j44 _ G' k' rfl g1' g2' (by omega), fun q => ⟨fun i q2 => j44 _ G' k' rfl g1' g2' (fun w => by rw [q2] at w; exact (nomatch w.2)), fun q2 => hF 4 _ (by omega) (by omega) G' k' (fun w => ?_)⟩⟩
    unfold csOK at w
    exact w.1 ⟨by omega, q2⟩
  have j20 : t = 1 → cw Y mi_X4_countSteps K 20 [some (.inr (.inr (some a))), some (.inr (.inr (some s))), some (.inr (.inr (some e))), none] [.inr (.inr (some a))] h 0 0 := by
    intro w
    refine bx_X4_countSteps_20 hY (pf2_ok hY) ?_
    simp only [wp_iconst, wp_bipush, wp_sipush, wp_ldc, wp_ldc2_w, wp_lconst0, wp_lconst1, wp_aconst_null, wp_iload_0, wp_istore_0, wp_iload_1, wp_istore_1, wp_iload_2, wp_istore_2, wp_iload_3, wp_istore_3, wp_iload, wp_istore, wp_lload_0, wp_lstore_0, wp_lload_1, wp_lstore_1, wp_lload_2, wp_lstore_2, wp_lload_3, wp_lstore_3, wp_lload, wp_lstore, wp_aload_0, wp_astore_0, wp_aload_1, wp_astore_1, wp_aload_2, wp_astore_2, wp_aload_3, wp_astore_3, wp_aload, wp_astore, wp_iinc, wp_iadd, wp_isub, wp_imul, wp_iand, wp_ior, wp_ixor, wp_ishl, wp_ishr, wp_iushr, wp_irem, wp_ladd, wp_lsub, wp_lmul, wp_land, wp_lor, wp_lxor, wp_lshl, wp_lshr, wp_lushr, wp_lrem, wp_lcmp, wp_i2l, wp_l2i, wp_dupI, wp_dupA, wp_dup2J, wp_dup2IA, wp_popI, wp_popA, wp_pop2, wp_goto, wp_if_eq, wp_icmp_eq, wp_if_ne, wp_icmp_ne, wp_if_lt, wp_icmp_lt, wp_if_ge, wp_icmp_ge, wp_if_gt, wp_icmp_gt, wp_if_le, wp_icmp_le, wp_ifnull, wp_ifnonnull, wp_acmp_eq, wp_acmp_ne, wp_tableswitch, wp_get0, wp_put0, wp_get1, wp_put1, wp_get2, wp_put2, wp_get3, wp_put3, wp_new, wp_newarray, wp_anewarray, wp_alen, wp_iaload, wp_laload, wp_baload, wp_aaload, wp_iastore, wp_lastore, wp_bastore, wp_aastore, wp_return, wp_ireturnI, wp_ireturnZ, wp_lreturn, wp_areturnO, wp_areturnA, wp_max, wp_min, wp_obj, wp_virt, wp_nil, ld_I0, ld_Is, ld_J0, ld_Js, ld_A0, ld_As, ha_0, ha_s, cx_put1, cx_put2, cx_dl, cx_tgt, true_and, and_true, Nat.reduceAdd, Nat.reduceSub, Int.reduceAdd, Int.reduceNeg, Int.reduceToNat, Int.reduceSub, Int.cast_ofNat_Int, List.take_succ_cons, List.take_zero, List.drop_succ_cons, List.drop_zero, List.take_nil, List.drop_nil, Option.toList_some, Option.toList_none, List.cons_append, List.nil_append, wp_spec, ne_eq, Nat.reduceEqDiff, not_false_eq_true, true_or, or_true]
    exact j25 1 w.symm
  refine bx_X4_countSteps_0 hY (pf2_ok hY) ?_
  simp only [wp_iconst, wp_bipush, wp_sipush, wp_ldc, wp_ldc2_w, wp_lconst0, wp_lconst1, wp_aconst_null, wp_iload_0, wp_istore_0, wp_iload_1, wp_istore_1, wp_iload_2, wp_istore_2, wp_iload_3, wp_istore_3, wp_iload, wp_istore, wp_lload_0, wp_lstore_0, wp_lload_1, wp_lstore_1, wp_lload_2, wp_lstore_2, wp_lload_3, wp_lstore_3, wp_lload, wp_lstore, wp_aload_0, wp_astore_0, wp_aload_1, wp_astore_1, wp_aload_2, wp_astore_2, wp_aload_3, wp_astore_3, wp_aload, wp_astore, wp_iinc, wp_iadd, wp_isub, wp_imul, wp_iand, wp_ior, wp_ixor, wp_ishl, wp_ishr, wp_iushr, wp_irem, wp_ladd, wp_lsub, wp_lmul, wp_land, wp_lor, wp_lxor, wp_lshl, wp_lshr, wp_lushr, wp_lrem, wp_lcmp, wp_i2l, wp_l2i, wp_dupI, wp_dupA, wp_dup2J, wp_dup2IA, wp_popI, wp_popA, wp_pop2, wp_goto, wp_if_eq, wp_icmp_eq, wp_if_ne, wp_icmp_ne, wp_if_lt, wp_icmp_lt, wp_if_ge, wp_icmp_ge, wp_if_gt, wp_icmp_gt, wp_if_le, wp_icmp_le, wp_ifnull, wp_ifnonnull, wp_acmp_eq, wp_acmp_ne, wp_tableswitch, wp_get0, wp_put0, wp_get1, wp_put1, wp_get2, wp_put2, wp_get3, wp_put3, wp_new, wp_newarray, wp_anewarray, wp_alen, wp_iaload, wp_laload, wp_baload, wp_aaload, wp_iastore, wp_lastore, wp_bastore, wp_aastore, wp_return, wp_ireturnI, wp_ireturnZ, wp_lreturn, wp_areturnO, wp_areturnA, wp_max, wp_min, wp_obj, wp_virt, wp_nil, ld_I0, ld_Is, ld_J0, ld_Js, ld_A0, ld_As, ha_0, ha_s, cx_put1, cx_put2, cx_dl, cx_tgt, true_and, and_true, Nat.reduceAdd, Nat.reduceSub, Int.reduceAdd, Int.reduceNeg, Int.reduceToNat, Int.reduceSub, Int.cast_ofNat_Int, List.take_succ_cons, List.take_zero, List.drop_succ_cons, List.drop_zero, List.take_nil, List.drop_nil, Option.toList_some, Option.toList_none, List.cons_append, List.nil_append, wp_spec, ne_eq, Nat.reduceEqDiff, not_false_eq_true, true_or, or_true, hss, hse, cx_lcp_eq]
  refine ⟨fun q => j20 (by rw [ht]; unfold cT; rw [if_pos (Or.inl q)]), fun q => ⟨fun q2 => ?_, fun q2 => j20 (by rw [ht]; unfold cT; rw [if_pos (Or.inr q2)])⟩⟩
  refine bx_X4_countSteps_24 hY (pf2_ok hY) ?_
  simp only [wp_iconst, wp_bipush, wp_sipush, wp_ldc, wp_ldc2_w, wp_lconst0, wp_lconst1, wp_aconst_null, wp_iload_0, wp_istore_0, wp_iload_1, wp_istore_1, wp_iload_2, wp_istore_2, wp_iload_3, wp_istore_3, wp_iload, wp_istore, wp_lload_0, wp_lstore_0, wp_lload_1, wp_lstore_1, wp_lload_2, wp_lstore_2, wp_lload_3, wp_lstore_3, wp_lload, wp_lstore, wp_aload_0, wp_astore_0, wp_aload_1, wp_astore_1, wp_aload_2, wp_astore_2, wp_aload_3, wp_astore_3, wp_aload, wp_astore, wp_iinc, wp_iadd, wp_isub, wp_imul, wp_iand, wp_ior, wp_ixor, wp_ishl, wp_ishr, wp_iushr, wp_irem, wp_ladd, wp_lsub, wp_lmul, wp_land, wp_lor, wp_lxor, wp_lshl, wp_lshr, wp_lushr, wp_lrem, wp_lcmp, wp_i2l, wp_l2i, wp_dupI, wp_dupA, wp_dup2J, wp_dup2IA, wp_popI, wp_popA, wp_pop2, wp_goto, wp_if_eq, wp_icmp_eq, wp_if_ne, wp_icmp_ne, wp_if_lt, wp_icmp_lt, wp_if_ge, wp_icmp_ge, wp_if_gt, wp_icmp_gt, wp_if_le, wp_icmp_le, wp_ifnull, wp_ifnonnull, wp_acmp_eq, wp_acmp_ne, wp_tableswitch, wp_get0, wp_put0, wp_get1, wp_put1, wp_get2, wp_put2, wp_get3, wp_put3, wp_new, wp_newarray, wp_anewarray, wp_alen, wp_iaload, wp_laload, wp_baload, wp_aaload, wp_iastore, wp_lastore, wp_bastore, wp_aastore, wp_return, wp_ireturnI, wp_ireturnZ, wp_lreturn, wp_areturnO, wp_areturnA, wp_max, wp_min, wp_obj, wp_virt, wp_nil, ld_I0, ld_Is, ld_J0, ld_Js, ld_A0, ld_As, ha_0, ha_s, cx_put1, cx_put2, cx_dl, cx_tgt, true_and, and_true, Nat.reduceAdd, Nat.reduceSub, Int.reduceAdd, Int.reduceNeg, Int.reduceToNat, Int.reduceSub, Int.cast_ofNat_Int, List.take_succ_cons, List.take_zero, List.drop_succ_cons, List.drop_zero, List.take_nil, List.drop_nil, Option.toList_some, Option.toList_none, List.cons_append, List.nil_append, wp_spec, ne_eq, Nat.reduceEqDiff, not_false_eq_true, true_or, or_true]
  have w0 : ¬ (cq_I h s 15 = 0 ∨ cq_J h e 9 ≠ cq_J h s 13) := fun w => w.elim (fun w => q w) (fun w => w q2)
  exact j25 0 (by rw [ht]; unfold cT; rw [if_neg w0])
end
