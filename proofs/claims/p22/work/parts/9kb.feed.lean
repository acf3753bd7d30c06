/-! class and reference side by side: the tape -/
theorem sh24 (x : BitVec 32) {s : Nat} (hs : s ≤ 24) : (x.sshiftRight s) &&& 255#32 = (x >>> s) &&& 255#32 := by
  apply BitVec.eq_of_getLsbD_eq
  intro i hi
  rw [BitVec.getLsbD_and, BitVec.getLsbD_and]
  by_cases w : i < 8
  · rw [BitVec.getLsbD_sshiftRight, BitVec.getLsbD_ushiftRight, if_pos (by omega)]
    have : decide (32 ≤ i) = false := decide_eq_false (by omega)
    rw [this]
    simp
  · have : (255#32).getLsbD i = false := by
      have e : (255#32 : BitVec 32) = BitVec.ofNat 32 (2 ^ 8 - 1) := rfl
      rw [e, BitVec.getLsbD_ofNat, Nat.testBit_two_pow_sub_one]
      simp
      omega
    rw [this, Bool.and_false, Bool.and_false]
theorem shE (v : Int) {s : Int} (hs : s = 0 ∨ s = 8 ∨ s = 16 ∨ s = 24) : cx_and (cx_ush v s) 255 = cx_and (cx_shr v s) 255 := by
  unfold cx_and cx_ush cx_shr cx_bi
  congr 1
  rw [Int32.ofInt_toInt, Int32.ofInt_toInt]
  generalize Int32.ofInt v = x
  apply Int32.toBitVec_inj.mp
  rw [Int32.toBitVec_and, Int32.toBitVec_and]
  show ((x.toUInt32 >>> _).toBitVec &&& 255#32) = ((x >>> _ : Int32).toBitVec &&& 255#32)
  rw [UInt32.toBitVec_shiftRight, Int32.toBitVec_shiftRight, BitVec.ushiftRight_eq', BitVec.sshiftRight_eq']
  rcases hs with rfl | rfl | rfl | rfl
  · have e1 : (((Int32.ofInt 0).toUInt32 &&& Int32.toUInt32 31).toBitVec % 32).toNat = 0 := by decide
    have e2 : ((Int32.ofInt 0 &&& 31).toBitVec.smod 32).toNat = 0 := by decide
    rw [e1, e2, sh24 _ (by decide)]; rfl
  · have e1 : (((Int32.ofInt 8).toUInt32 &&& Int32.toUInt32 31).toBitVec % 32).toNat = 8 := by decide
    have e2 : ((Int32.ofInt 8 &&& 31).toBitVec.smod 32).toNat = 8 := by decide
    rw [e1, e2, sh24 _ (by decide)]; rfl
  · have e1 : (((Int32.ofInt 16).toUInt32 &&& Int32.toUInt32 31).toBitVec % 32).toNat = 16 := by decide
    have e2 : ((Int32.ofInt 16 &&& 31).toBitVec.smod 32).toNat = 16 := by decide
    rw [e1, e2, sh24 _ (by decide)]; rfl
  · have e1 : (((Int32.ofInt 24).toUInt32 &&& Int32.toUInt32 31).toBitVec % 32).toNat = 24 := by decide
    have e2 : ((Int32.ofInt 24 &&& 31).toBitVec.smod 32).toNat = 24 := by decide
    rw [e1, e2, sh24 _ (by decide)]; rfl
/-- so many bytes more on the tape -/
def tpW (m : cx_Q) (tp c : Nat) (f : Int → Int) (t n : Int) : cx_Q := cq_sI (cq_rI m tp (kpG (cq_I m tp) t n f)) c 9 (t + n)
theorem tpW_t {m : cx_Q} {tp c : Nat} {f f' : Int → Int} {t n k : Int} (hn : 0 ≤ n) (hk : 0 ≤ k) (ne : tp ≠ c) (hf : ∀ i, 0 ≤ i → i < k → f' i = f (n + i)) : tpW (tpW m tp c f t n) tp c f' (t + n) k = tpW m tp c f t (n + k) := by
  unfold tpW
  refine qext rfl rfl rfl (fun q r => ?_) (fun q r => rfl) (fun q r => rfl)
  simp only [mm_sI, rr_I]
  by_cases w : q = c ∧ r = 9
  · rw [if_pos w, if_pos w]; omega
  · rw [if_neg w, if_neg w]
    by_cases w1 : q = tp
    · rw [if_pos w1, if_pos w1]
      unfold kpG
      by_cases w2 : t + n ≤ r ∧ r < t + n + k
      · have e1 : n + (r - (t + n)) = r - t := by omega
        rw [if_pos w2, if_pos (by omega), hf _ (by omega) (by omega), e1]
      · rw [if_neg w2, mm_sI, if_neg (fun e => ne e.1), rr_I, if_pos rfl]
        by_cases w3 : t ≤ r ∧ r < t + n
        · rw [if_pos w3, if_pos (by omega)]
        · rw [if_neg w3, if_neg (by omega)]
    · rw [if_neg w1, if_neg w1, mm_sI, if_neg w, rr_I, if_neg w1]
section
variable {Y : cx_Y} {K : Option cx_V → cx_Q → Prop} {c x : Nat} {n L Z : Int} {E : Nat → Option Int} {h0 : cx_Q} {h g : cx_Q} {pe : Int → Nat} {ro : Int → Int → Nat} {pa lb tp rd en op ob : Nat} {T Lf : Int → Nat}
theorem e_X10_putOnTape (hY : cY Y) {u : Int} (H : CI c n L Z E h0 [] h) (eb : cq_A h c 8 = some tp) (ht : cq_I h c 9 + 4 ≤ 40) (hK : ∀ g, CI c n L Z E h0 [] g → g = tpW h tp c (fun i => cx_and (cx_shr u (24 - 8 * i)) 255) (cq_I h c 9) 4 → K none g) : cw Y mi_X10_putOnTape K 0 [some (.inr (.inr (some c))), some (.inl u), none] [] h 0 0 := by
  have sb : cq_s h tp = 103 := H.ta H.cs (own_9 (by decide)) eb
  have i9 := H.i9_9 H.cs
  have ne : tp ≠ c := ns sb H.cs (by decide)
  have loop : ∀ (r : Nat) (k : Int) (g : cx_Q), (r : Int) ≤ 4 → k = 8 * r - 8 → CI c n L Z E h0 [] g → g = tpW h tp c (fun i => cx_and (cx_shr u (24 - 8 * i)) 255) (cq_I h c 9) (4 - r) → cw Y mi_X10_putOnTape K 3 [some (.inr (.inr (some c))), some (.inl u), some (.inl k)] [] g 0 0 := by
    intro r
    induction r with
    | zero =>
      intro k g h2 h3 G eg
      have gc := G.cs
      refine bx_X10_putOnTape_3 hY (pf2_ok hY) ?_
      simp only [wp_iconst, wp_bipush, wp_sipush, wp_ldc, wp_ldc2_w, wp_lconst0, wp_lconst1, wp_aconst_null, wp_iload_0, wp_istore_0, wp_iload_1, wp_istore_1, wp_iload_2, wp_istore_2, wp_iload_3, wp_istore_3, wp_iload, wp_istore, wp_lload_0, wp_lstore_0, wp_lload_1, wp_lstore_1, wp_lload_2, wp_lstore_2, wp_lload_3, wp_lstore_3, wp_lload, wp_lstore, wp_aload_0, wp_astore_0, wp_aload_1, wp_astore_1, wp_aload_2, wp_astore_2, wp_aload_3, wp_astore_3, wp_aload, wp_astore, wp_iinc, wp_iadd, wp_isub, wp_imul, wp_iand, wp_ior, wp_ixor, wp_ishl, wp_ishr, wp_iushr, wp_irem, wp_ladd, wp_lsub, wp_lmul, wp_land, wp_lor, wp_lxor, wp_lshl, wp_lshr, wp_lushr, wp_lrem, wp_lcmp, wp_i2l, wp_l2i, wp_dupI, wp_dupA, wp_dup2J, wp_dup2IA, wp_popI, wp_popA, wp_pop2, wp_goto, wp_if_eq, wp_icmp_eq, wp_if_ne, wp_icmp_ne, wp_if_lt, wp_icmp_lt, wp_if_ge, wp_icmp_ge, wp_if_gt, wp_icmp_gt, wp_if_le, wp_icmp_le, wp_ifnull, wp_ifnonnull, wp_acmp_eq, wp_acmp_ne, wp_tableswitch, wp_get0, wp_put0, wp_get1, wp_put1, wp_get2, wp_put2, wp_get3, wp_put3, wp_new, wp_newarray, wp_anewarray, wp_alen, wp_iaload, wp_laload, wp_baload, wp_aaload, wp_iastore, wp_lastore, wp_bastore, wp_aastore, wp_return, wp_ireturnI, wp_ireturnZ, wp_lreturn, wp_areturnO, wp_areturnA, wp_max, wp_min, wp_obj, wp_virt, wp_nil, ld_I0, ld_Is, ld_J0, ld_Js, ld_A0, ld_As, ha_0, ha_s, cx_put1, cx_put2, cx_dl, cx_tgt, true_and, and_true, Nat.reduceAdd, Nat.reduceSub, Int.reduceAdd, Int.reduceNeg, Int.reduceToNat, Int.reduceSub, Int.cast_ofNat_Int, List.take_succ_cons, List.take_zero, List.drop_succ_cons, List.drop_zero, List.take_nil, List.drop_nil, Option.toList_some, Option.toList_none, List.cons_append, List.nil_append, wp_spec, ne_eq, Nat.reduceEqDiff, not_false_eq_true, true_or, or_true, gc]
      refine ⟨fun _ => ?_, fun q => absurd (by omega) q⟩
      refine bx_X10_putOnTape_48 hY (pf2_ok hY) ?_
      simp only [wp_iconst, wp_bipush, wp_sipush, wp_ldc, wp_ldc2_w, wp_lconst0, wp_lconst1, wp_aconst_null, wp_iload_0, wp_istore_0, wp_iload_1, wp_istore_1, wp_iload_2, wp_istore_2, wp_iload_3, wp_istore_3, wp_iload, wp_istore, wp_lload_0, wp_lstore_0, wp_lload_1, wp_lstore_1, wp_lload_2, wp_lstore_2, wp_lload_3, wp_lstore_3, wp_lload, wp_lstore, wp_aload_0, wp_astore_0, wp_aload_1, wp_astore_1, wp_aload_2, wp_astore_2, wp_aload_3, wp_astore_3, wp_aload, wp_astore, wp_iinc, wp_iadd, wp_isub, wp_imul, wp_iand, wp_ior, wp_ixor, wp_ishl, wp_ishr, wp_iushr, wp_irem, wp_ladd, wp_lsub, wp_lmul, wp_land, wp_lor, wp_lxor, wp_lshl, wp_lshr, wp_lushr, wp_lrem, wp_lcmp, wp_i2l, wp_l2i, wp_dupI, wp_dupA, wp_dup2J, wp_dup2IA, wp_popI, wp_popA, wp_pop2, wp_goto, wp_if_eq, wp_icmp_eq, wp_if_ne, wp_icmp_ne, wp_if_lt, wp_icmp_lt, wp_if_ge, wp_icmp_ge, wp_if_gt, wp_icmp_gt, wp_if_le, wp_icmp_le, wp_ifnull, wp_ifnonnull, wp_acmp_eq, wp_acmp_ne, wp_tableswitch, wp_get0, wp_put0, wp_get1, wp_put1, wp_get2, wp_put2, wp_get3, wp_put3, wp_new, wp_newarray, wp_anewarray, wp_alen, wp_iaload, wp_laload, wp_baload, wp_aaload, wp_iastore, wp_lastore, wp_bastore, wp_aastore, wp_return, wp_ireturnI, wp_ireturnZ, wp_lreturn, wp_areturnO, wp_areturnA, wp_max, wp_min, wp_obj, wp_virt, wp_nil, ld_I0, ld_Is, ld_J0, ld_Js, ld_A0, ld_As, ha_0, ha_s, cx_put1, cx_put2, cx_dl, cx_tgt, true_and, and_true, Nat.reduceAdd, Nat.reduceSub, Int.reduceAdd, Int.reduceNeg, Int.reduceToNat, Int.reduceSub, Int.cast_ofNat_Int, List.take_succ_cons, List.take_zero, List.drop_succ_cons, List.drop_zero, List.take_nil, List.drop_nil, Option.toList_some, Option.toList_none, List.cons_append, List.nil_append, wp_spec, ne_eq, Nat.reduceEqDiff, not_false_eq_true, true_or, or_true]
      exact hK g G eg
    | succ r ih =>
      intro k g h2 h3 G eg
      have gc := G.cs
      have gt : cq_I g c 9 = cq_I h c 9 + (4 - ((r + 1 : Nat) : Int)) := by rw [eg]; unfold tpW; rw [mm_sI, if_pos ⟨rfl, rfl⟩]
      have gb : cq_A g c 8 = some tp := by rw [eg]; exact eb
      have gs : cq_s g tp = 103 := by rw [eg]; exact sb
      have gz : cq_z g tp = 40 := G.tz gs
      have nb : ¬ c = tp := fun e => ne e.symm
      refine bx_X10_putOnTape_3 hY (pf2_ok hY) ?_
      simp only [wp_iconst, wp_bipush, wp_sipush, wp_ldc, wp_ldc2_w, wp_lconst0, wp_lconst1, wp_aconst_null, wp_iload_0, wp_istore_0, wp_iload_1, wp_istore_1, wp_iload_2, wp_istore_2, wp_iload_3, wp_istore_3, wp_iload, wp_istore, wp_lload_0, wp_lstore_0, wp_lload_1, wp_lstore_1, wp_lload_2, wp_lstore_2, wp_lload_3, wp_lstore_3, wp_lload, wp_lstore, wp_aload_0, wp_astore_0, wp_aload_1, wp_astore_1, wp_aload_2, wp_astore_2, wp_aload_3, wp_astore_3, wp_aload, wp_astore, wp_iinc, wp_iadd, wp_isub, wp_imul, wp_iand, wp_ior, wp_ixor, wp_ishl, wp_ishr, wp_iushr, wp_irem, wp_ladd, wp_lsub, wp_lmul, wp_land, wp_lor, wp_lxor, wp_lshl, wp_lshr, wp_lushr, wp_lrem, wp_lcmp, wp_i2l, wp_l2i, wp_dupI, wp_dupA, wp_dup2J, wp_dup2IA, wp_popI, wp_popA, wp_pop2, wp_goto, wp_if_eq, wp_icmp_eq, wp_if_ne, wp_icmp_ne, wp_if_lt, wp_icmp_lt, wp_if_ge, wp_icmp_ge, wp_if_gt, wp_icmp_gt, wp_if_le, wp_icmp_le, wp_ifnull, wp_ifnonnull, wp_acmp_eq, wp_acmp_ne, wp_tableswitch, wp_get0, wp_put0, wp_get1, wp_put1, wp_get2, wp_put2, wp_get3, wp_put3, wp_new, wp_newarray, wp_anewarray, wp_alen, wp_iaload, wp_laload, wp_baload, wp_aaload, wp_iastore, wp_lastore, wp_bastore, wp_aastore, wp_return, wp_ireturnI, wp_ireturnZ, wp_lreturn, wp_areturnO, wp_areturnA, wp_max, wp_min, wp_obj, wp_virt, wp_nil, ld_I0, ld_Is, ld_J0, ld_Js, ld_A0, ld_As, ha_0, ha_s, cx_put1, cx_put2, cx_dl, cx_tgt, true_and, and_true, Nat.reduceAdd, Nat.reduceSub, Int.reduceAdd, Int.reduceNeg, Int.reduceToNat, Int.reduceSub, Int.cast_ofNat_Int, List.take_succ_cons, List.take_zero, List.drop_succ_cons, List.drop_zero, List.take_nil, List.drop_nil, Option.toList_some, Option.toList_none, List.cons_append, List.nil_append, wp_spec, ne_eq, Nat.reduceEqDiff, not_false_eq_true, true_or, or_true, gc, gb, gs, gz, nb, ra_103, mm_sI, mm_sJ, mm_sA, mm_IJ, mm_IA, mm_JI, mm_JA, mm_AI, mm_AJ, mm_ssI, mm_ssJ, mm_ssA, mm_zI, mm_zJ, mm_zA, mm_nI, mm_nJ, mm_nA, Nat.left_eq_add, Nat.add_eq_left, Nat.add_left_cancel_iff, Nat.reduceEqDiff, Int.reduceEq, false_and, and_false, if_false, if_true, and_self, true_and, true_or, or_true, false_or, or_false, cx_rg, gt]
      refine ⟨fun q => absurd q (by omega), fun q => ⟨fun q2 => absurd q2 (by omega), fun q2 => ?_⟩⟩
      (repeat' (with_reducible (first | refine And.intro ?_ ?_ | intro _)))
      all_goals (try omega)
      refine bx_X10_putOnTape_42 hY (pf2_ok hY) ?_
      simp only [wp_iconst, wp_bipush, wp_sipush, wp_ldc, wp_ldc2_w, wp_lconst0, wp_lconst1, wp_aconst_null, wp_iload_0, wp_istore_0, wp_iload_1, wp_istore_1, wp_iload_2, wp_istore_2, wp_iload_3, wp_istore_3, wp_iload, wp_istore, wp_lload_0, wp_lstore_0, wp_lload_1, wp_lstore_1, wp_lload_2, wp_lstore_2, wp_lload_3, wp_lstore_3, wp_lload, wp_lstore, wp_aload_0, wp_astore_0, wp_aload_1, wp_astore_1, wp_aload_2, wp_astore_2, wp_aload_3, wp_astore_3, wp_aload, wp_astore, wp_iinc, wp_iadd, wp_isub, wp_imul, wp_iand, wp_ior, wp_ixor, wp_ishl, wp_ishr, wp_iushr, wp_irem, wp_ladd, wp_lsub, wp_lmul, wp_land, wp_lor, wp_lxor, wp_lshl, wp_lshr, wp_lushr, wp_lrem, wp_lcmp, wp_i2l, wp_l2i, wp_dupI, wp_dupA, wp_dup2J, wp_dup2IA, wp_popI, wp_popA, wp_pop2, wp_goto, wp_if_eq, wp_icmp_eq, wp_if_ne, wp_icmp_ne, wp_if_lt, wp_icmp_lt, wp_if_ge, wp_icmp_ge, wp_if_gt, wp_icmp_gt, wp_if_le, wp_icmp_le, wp_ifnull, wp_ifnonnull, wp_acmp_eq, wp_acmp_ne, wp_tableswitch, wp_get0, wp_put0, wp_get1, wp_put1, wp_get2, wp_put2, wp_get3, wp_put3, wp_new, wp_newarray, wp_anewarray, wp_alen, wp_iaload, wp_laload, wp_baload, wp_aaload, wp_iastore, wp_lastore, wp_bastore, wp_aastore, wp_return, wp_ireturnI, wp_ireturnZ, wp_lreturn, wp_areturnO, wp_areturnA, wp_max, wp_min, wp_obj, wp_virt, wp_nil, ld_I0, ld_Is, ld_J0, ld_Js, ld_A0, ld_As, ha_0, ha_s, cx_put1, cx_put2, cx_dl, cx_tgt, true_and, and_true, Nat.reduceAdd, Nat.reduceSub, Int.reduceAdd, Int.reduceNeg, Int.reduceToNat, Int.reduceSub, Int.cast_ofNat_Int, List.take_succ_cons, List.take_zero, List.drop_succ_cons, List.drop_zero, List.take_nil, List.drop_nil, Option.toList_some, Option.toList_none, List.cons_append, List.nil_append, wp_spec, ne_eq, Nat.reduceEqDiff, not_false_eq_true, true_or, or_true, cx_rg]
      refine ⟨by omega, ih (k + -8) _ (by omega) (by omega) (CI.sI (CI.sI G gs (own_m (by decide)) True.intro rfl) gc (own_9 (by decide)) ⟨by omega, by omega⟩ rfl) ?_⟩
      have e4 : (4 : Int) - (r : Int) = 4 - ((r + 1 : Nat) : Int) + 1 := by omega
      have k4 : k = 0 ∨ k = 8 ∨ k = 16 ∨ k = 24 := by omega
      rw [shE u k4, e4, ← tpW_t (f' := fun _ => cx_and (cx_shr u k) 255) (k := 1) (by omega) (by omega) ne (fun i i0 i1 => by
        have : 24 - 8 * (4 - ((r + 1 : Nat) : Int) + i) = k := by omega
        rw [this])]
      rw [← eg]
      unfold tpW
      refine qext rfl rfl rfl (fun q r' => ?_) (fun q r => rfl) (fun q r => rfl)
      simp only [mm_sI, rr_I]
      by_cases w : q = c ∧ r' = 9
      · rw [if_pos w, if_pos w]
      · rw [if_neg w, if_neg w]
        by_cases w1 : q = tp
        · rw [if_pos w1]
          unfold kpG
          by_cases w2 : r' = cq_I h c 9 + (4 - ((r + 1 : Nat) : Int))
          · rw [if_pos ⟨w1, w2⟩, if_pos (by omega)]
          · rw [if_neg (fun e => w2 e.2), if_neg (by omega), w1]
        · rw [if_neg (fun e => w1 e.1), if_neg w1]
  refine bx_X10_putOnTape_0 hY (pf2_ok hY) ?_
  simp only [wp_iconst, wp_bipush, wp_sipush, wp_ldc, wp_ldc2_w, wp_lconst0, wp_lconst1, wp_aconst_null, wp_iload_0, wp_istore_0, wp_iload_1, wp_istore_1, wp_iload_2, wp_istore_2, wp_iload_3, wp_istore_3, wp_iload, wp_istore, wp_lload_0, wp_lstore_0, wp_lload_1, wp_lstore_1, wp_lload_2, wp_lstore_2, wp_lload_3, wp_lstore_3, wp_lload, wp_lstore, wp_aload_0, wp_astore_0, wp_aload_1, wp_astore_1, wp_aload_2, wp_astore_2, wp_aload_3, wp_astore_3, wp_aload, wp_astore, wp_iinc, wp_iadd, wp_isub, wp_imul, wp_iand, wp_ior, wp_ixor, wp_ishl, wp_ishr, wp_iushr, wp_irem, wp_ladd, wp_lsub, wp_lmul, wp_land, wp_lor, wp_lxor, wp_lshl, wp_lshr, wp_lushr, wp_lrem, wp_lcmp, wp_i2l, wp_l2i, wp_dupI, wp_dupA, wp_dup2J, wp_dup2IA, wp_popI, wp_popA, wp_pop2, wp_goto, wp_if_eq, wp_icmp_eq, wp_if_ne, wp_icmp_ne, wp_if_lt, wp_icmp_lt, wp_if_ge, wp_icmp_ge, wp_if_gt, wp_icmp_gt, wp_if_le, wp_icmp_le, wp_ifnull, wp_ifnonnull, wp_acmp_eq, wp_acmp_ne, wp_tableswitch, wp_get0, wp_put0, wp_get1, wp_put1, wp_get2, wp_put2, wp_get3, wp_put3, wp_new, wp_newarray, wp_anewarray, wp_alen, wp_iaload, wp_laload, wp_baload, wp_aaload, wp_iastore, wp_lastore, wp_bastore, wp_aastore, wp_return, wp_ireturnI, wp_ireturnZ, wp_lreturn, wp_areturnO, wp_areturnA, wp_max, wp_min, wp_obj, wp_virt, wp_nil, ld_I0, ld_Is, ld_J0, ld_Js, ld_A0, ld_As, ha_0, ha_s, cx_put1, cx_put2, cx_dl, cx_tgt, true_and, and_true, Nat.reduceAdd, Nat.reduceSub, Int.reduceAdd, Int.reduceNeg, Int.reduceToNat, Int.reduceSub, Int.cast_ofNat_Int, List.take_succ_cons, List.take_zero, List.drop_succ_cons, List.drop_zero, List.take_nil, List.drop_nil, Option.toList_some, Option.toList_none, List.cons_append, List.nil_append, wp_spec, ne_eq, Nat.reduceEqDiff, not_false_eq_true, true_or, or_true]
  refine loop 4 24 h (by decide) (by decide) H ?_
  unfold tpW
  have e0 : (4 : Int) - ((4 : Nat) : Int) = 0 := by decide
  rw [e0, kpG_0, rI_id, sI_id (by omega)]
/-- what the reference puts on the tape -/
def fdB (a b c d e k : Int) : Int := cx_and (cx_shr (m_fsel a b c d e k) (24 - 8 * cx_rem k 4)) 255
theorem fdB_i {a b c d e : Int} (j : Nat) (hj : j < 5) {u : Int} (hu : ∀ i, 0 ≤ i → i < 4 → m_fsel a b c d e (4 * (j : Int) + i) = u) : ∀ i, 0 ≤ i → i < 4 → cx_and (cx_shr u (24 - 8 * i)) 255 = fdB a b c d e (4 * (j : Int) + i) := by
  intro i i0 i1
  have w := hu i i0 i1
  unfold fdB
  rw [w]
  have r : cx_rem (4 * (j : Int) + i) 4 = i := by
    have hj' : j = 0 ∨ j = 1 ∨ j = 2 ∨ j = 3 ∨ j = 4 := by omega
    have hi : i = 0 ∨ i = 1 ∨ i = 2 ∨ i = 3 := by omega
    rcases hj' with rfl | rfl | rfl | rfl | rfl <;> rcases hi with rfl | rfl | rfl | rfl <;> decide
  rw [r]
theorem e_X10_feed (hY : cY Y) {u1 u2 u3 u4 u5 : Int} (H : CI c n L Z E h0 [] h) (eb : cq_A h c 8 = some tp) (hF : 40 < cq_I h c 9 + 20 → K (some (.inl (-3))) h) (hK : cq_I h c 9 + 20 ≤ 40 → ∀ g, CI c n L Z E h0 [] g → g = tpW h tp c (fdB u1 u2 u3 u4 u5) (cq_I h c 9) 20 → K (some (.inl (cq_I h c 9 + 20))) g) : cw Y mi_X10_feed K 0 [some (.inr (.inr (some c))), some (.inl u1), some (.inl u2), some (.inl u3), some (.inl u4), some (.inl u5)] [] h 0 0 := by
  have hc := H.cs
  have i9 := H.i9_9 hc
  have sb : cq_s h tp = 103 := H.ta H.cs (own_9 (by decide)) eb
  have ne : tp ≠ c := ns sb H.cs (by decide)
  have i9t : ∀ {m : cx_Q} {f : Int → Int} {t k : Int}, cq_I (tpW m tp c f t k) c 9 = t + k := by
    intro m f t k
    unfold tpW
    rw [mm_sI, if_pos ⟨rfl, rfl⟩]
  refine bx_X10_feed_0 hY (pf2_ok hY) ?_
  simp only [wp_iconst, wp_bipush, wp_sipush, wp_ldc, wp_ldc2_w, wp_lconst0, wp_lconst1, wp_aconst_null, wp_iload_0, wp_istore_0, wp_iload_1, wp_istore_1, wp_iload_2, wp_istore_2, wp_iload_3, wp_istore_3, wp_iload, wp_istore, wp_lload_0, wp_lstore_0, wp_lload_1, wp_lstore_1, wp_lload_2, wp_lstore_2, wp_lload_3, wp_lstore_3, wp_lload, wp_lstore, wp_aload_0, wp_astore_0, wp_aload_1, wp_astore_1, wp_aload_2, wp_astore_2, wp_aload_3, wp_astore_3, wp_aload, wp_astore, wp_iinc, wp_iadd, wp_isub, wp_imul, wp_iand, wp_ior, wp_ixor, wp_ishl, wp_ishr, wp_iushr, wp_irem, wp_ladd, wp_lsub, wp_lmul, wp_land, wp_lor, wp_lxor, wp_lshl, wp_lshr, wp_lushr, wp_lrem, wp_lcmp, wp_i2l, wp_l2i, wp_dupI, wp_dupA, wp_dup2J, wp_dup2IA, wp_popI, wp_popA, wp_pop2, wp_goto, wp_if_eq, wp_icmp_eq, wp_if_ne, wp_icmp_ne, wp_if_lt, wp_icmp_lt, wp_if_ge, wp_icmp_ge, wp_if_gt, wp_icmp_gt, wp_if_le, wp_icmp_le, wp_ifnull, wp_ifnonnull, wp_acmp_eq, wp_acmp_ne, wp_tableswitch, wp_get0, wp_put0, wp_get1, wp_put1, wp_get2, wp_put2, wp_get3, wp_put3, wp_new, wp_newarray, wp_anewarray, wp_alen, wp_iaload, wp_laload, wp_baload, wp_aaload, wp_iastore, wp_lastore, wp_bastore, wp_aastore, wp_return, wp_ireturnI, wp_ireturnZ, wp_lreturn, wp_areturnO, wp_areturnA, wp_max, wp_min, wp_obj, wp_virt, wp_nil, ld_I0, ld_Is, ld_J0, ld_Js, ld_A0, ld_As, ha_0, ha_s, cx_put1, cx_put2, cx_dl, cx_tgt, true_and, and_true, Nat.reduceAdd, Nat.reduceSub, Int.reduceAdd, Int.reduceNeg, Int.reduceToNat, Int.reduceSub, Int.cast_ofNat_Int, List.take_succ_cons, List.take_zero, List.drop_succ_cons, List.drop_zero, List.take_nil, List.drop_nil, Option.toList_some, Option.toList_none, List.cons_append, List.nil_append, wp_spec, ne_eq, Nat.reduceEqDiff, not_false_eq_true, true_or, or_true, hc, cx_rg]
  refine ⟨by omega, fun q => ?_, fun q => hF (by omega)⟩
  refine bx_X10_feed_15 hY (pf2_ok hY) ?_
  simp only [wp_iconst, wp_bipush, wp_sipush, wp_ldc, wp_ldc2_w, wp_lconst0, wp_lconst1, wp_aconst_null, wp_iload_0, wp_istore_0, wp_iload_1, wp_istore_1, wp_iload_2, wp_istore_2, wp_iload_3, wp_istore_3, wp_iload, wp_istore, wp_lload_0, wp_lstore_0, wp_lload_1, wp_lstore_1, wp_lload_2, wp_lstore_2, wp_lload_3, wp_lstore_3, wp_lload, wp_lstore, wp_aload_0, wp_astore_0, wp_aload_1, wp_astore_1, wp_aload_2, wp_astore_2, wp_aload_3, wp_astore_3, wp_aload, wp_astore, wp_iinc, wp_iadd, wp_isub, wp_imul, wp_iand, wp_ior, wp_ixor, wp_ishl, wp_ishr, wp_iushr, wp_irem, wp_ladd, wp_lsub, wp_lmul, wp_land, wp_lor, wp_lxor, wp_lshl, wp_lshr, wp_lushr, wp_lrem, wp_lcmp, wp_i2l, wp_l2i, wp_dupI, wp_dupA, wp_dup2J, wp_dup2IA, wp_popI, wp_popA, wp_pop2, wp_goto, wp_if_eq, wp_icmp_eq, wp_if_ne, wp_icmp_ne, wp_if_lt, wp_icmp_lt, wp_if_ge, wp_icmp_ge, wp_if_gt, wp_icmp_gt, wp_if_le, wp_icmp_le, wp_ifnull, wp_ifnonnull, wp_acmp_eq, wp_acmp_ne, wp_tableswitch, wp_get0, wp_put0, wp_get1, wp_put1, wp_get2, wp_put2, wp_get3, wp_put3, wp_new, wp_newarray, wp_anewarray, wp_alen, wp_iaload, wp_laload, wp_baload, wp_aaload, wp_iastore, wp_lastore, wp_bastore, wp_aastore, wp_return, wp_ireturnI, wp_ireturnZ, wp_lreturn, wp_areturnO, wp_areturnA, wp_max, wp_min, wp_obj, wp_virt, wp_nil, ld_I0, ld_Is, ld_J0, ld_Js, ld_A0, ld_As, ha_0, ha_s, cx_put1, cx_put2, cx_dl, cx_tgt, true_and, and_true, Nat.reduceAdd, Nat.reduceSub, Int.reduceAdd, Int.reduceNeg, Int.reduceToNat, Int.reduceSub, Int.cast_ofNat_Int, List.take_succ_cons, List.take_zero, List.drop_succ_cons, List.drop_zero, List.take_nil, List.drop_nil, Option.toList_some, Option.toList_none, List.cons_append, List.nil_append, wp_spec, ne_eq, Nat.reduceEqDiff, not_false_eq_true, true_or, or_true]
  refine cl_X10_putOnTape (Nat.le_of_ble_eq_true rfl) hc (Nat.le_refl _) (Nat.le_refl _) (e_X10_putOnTape hY H eb (by omega) (fun g1 G1 k1 => ?_))
  have k1' : g1 = tpW h tp c (fdB u1 u2 u3 u4 u5) (cq_I h c 9) 4 := by
    rw [k1]
    unfold tpW
    have : kpG (cq_I h tp) (cq_I h c 9) 4 (fun i => cx_and (cx_shr u1 (24 - 8 * i)) 255) = kpG (cq_I h tp) (cq_I h c 9) 4 (fdB u1 u2 u3 u4 u5) := by
      funext r
      unfold kpG
      split
      · rename_i w
        have := fdB_i (a := u1) (b := u2) (c := u3) (d := u4) (e := u5) 0 (by decide) (u := u1) (fun i i0 i1 => by unfold m_fsel; rw [if_pos (by omega)]) (r - cq_I h c 9) (by omega) (by omega)
        have e0 : 4 * ((0 : Nat) : Int) + (r - cq_I h c 9) = r - cq_I h c 9 := by omega
        rw [e0] at this
        exact this
      · rfl
    rw [this]
  have step : ∀ (j : Nat) (u : Int) (g g' : cx_Q), j < 5 → (∀ i, 0 ≤ i → i < 4 → m_fsel u1 u2 u3 u4 u5 (4 * (j : Int) + i) = u) → g = tpW h tp c (fdB u1 u2 u3 u4 u5) (cq_I h c 9) (4 * (j : Int)) → g' = tpW g tp c (fun i => cx_and (cx_shr u (24 - 8 * i)) 255) (cq_I g c 9) 4 → g' = tpW h tp c (fdB u1 u2 u3 u4 u5) (cq_I h c 9) (4 * (j : Int) + 4) := by
    intro j u g g' hj hu eg eg'
    rw [eg', eg, i9t]
    exact tpW_t (by omega) (by omega) ne (fdB_i j hj hu)
  clear k1
  have b1 : cq_A g1 c 8 = some tp := by rw [k1']; exact eb
  have t1 : cq_I g1 c 9 = cq_I h c 9 + 4 := by rw [k1', i9t]
  refine bx_X10_feed_20 hY (pf2_ok hY) ?_
  simp only [wp_iconst, wp_bipush, wp_sipush, wp_ldc, wp_ldc2_w, wp_lconst0, wp_lconst1, wp_aconst_null, wp_iload_0, wp_istore_0, wp_iload_1, wp_istore_1, wp_iload_2, wp_istore_2, wp_iload_3, wp_istore_3, wp_iload, wp_istore, wp_lload_0, wp_lstore_0, wp_lload_1, wp_lstore_1, wp_lload_2, wp_lstore_2, wp_lload_3, wp_lstore_3, wp_lload, wp_lstore, wp_aload_0, wp_astore_0, wp_aload_1, wp_astore_1, wp_aload_2, wp_astore_2, wp_aload_3, wp_astore_3, wp_aload, wp_astore, wp_iinc, wp_iadd, wp_isub, wp_imul, wp_iand, wp_ior, wp_ixor, wp_ishl, wp_ishr, wp_iushr, wp_irem, wp_ladd, wp_lsub, wp_lmul, wp_land, wp_lor, wp_lxor, wp_lshl, wp_lshr, wp_lushr, wp_lrem, wp_lcmp, wp_i2l, wp_l2i, wp_dupI, wp_dupA, wp_dup2J, wp_dup2IA, wp_popI, wp_popA, wp_pop2, wp_goto, wp_if_eq, wp_icmp_eq, wp_if_ne, wp_icmp_ne, wp_if_lt, wp_icmp_lt, wp_if_ge, wp_icmp_ge, wp_if_gt, wp_icmp_gt, wp_if_le, wp_icmp_le, wp_ifnull, wp_ifnonnull, wp_acmp_eq, wp_acmp_ne, wp_tableswitch, wp_get0, wp_put0, wp_get1, wp_put1, wp_get2, wp_put2, wp_get3, wp_put3, wp_new, wp_newarray, wp_anewarray, wp_alen, wp_iaload, wp_laload, wp_baload, wp_aaload, wp_iastore, wp_lastore, wp_bastore, wp_aastore, wp_return, wp_ireturnI, wp_ireturnZ, wp_lreturn, wp_areturnO, wp_areturnA, wp_max, wp_min, wp_obj, wp_virt, wp_nil, ld_I0, ld_Is, ld_J0, ld_Js, ld_A0, ld_As, ha_0, ha_s, cx_put1, cx_put2, cx_dl, cx_tgt, true_and, and_true, Nat.reduceAdd, Nat.reduceSub, Int.reduceAdd, Int.reduceNeg, Int.reduceToNat, Int.reduceSub, Int.cast_ofNat_Int, List.take_succ_cons, List.take_zero, List.drop_succ_cons, List.drop_zero, List.take_nil, List.drop_nil, Option.toList_some, Option.toList_none, List.cons_append, List.nil_append, wp_spec, ne_eq, Nat.reduceEqDiff, not_false_eq_true, true_or, or_true]
  refine cl_X10_putOnTape (Nat.le_of_ble_eq_true rfl) G1.cs (Nat.le_refl _) (Nat.le_refl _) (e_X10_putOnTape hY G1 b1 (by omega) (fun g2 G2 k2 => ?_))
  have k2' := step 1 u2 g1 g2 (by decide) (fun i i0 i1 => by unfold m_fsel; rw [if_neg (by omega), if_pos (by omega)]) k1' k2
  clear k2 k1'
  have b2 : cq_A g2 c 8 = some tp := by rw [k2']; exact eb
  have t2 : cq_I g2 c 9 = cq_I h c 9 + 8 := by rw [k2', i9t]; omega
  refine bx_X10_feed_25 hY (pf2_ok hY) ?_
  simp only [wp_iconst, wp_bipush, wp_sipush, wp_ldc, wp_ldc2_w, wp_lconst0, wp_lconst1, wp_aconst_null, wp_iload_0, wp_istore_0, wp_iload_1, wp_istore_1, wp_iload_2, wp_istore_2, wp_iload_3, wp_istore_3, wp_iload, wp_istore, wp_lload_0, wp_lstore_0, wp_lload_1, wp_lstore_1, wp_lload_2, wp_lstore_2, wp_lload_3, wp_lstore_3, wp_lload, wp_lstore, wp_aload_0, wp_astore_0, wp_aload_1, wp_astore_1, wp_aload_2, wp_astore_2, wp_aload_3, wp_astore_3, wp_aload, wp_astore, wp_iinc, wp_iadd, wp_isub, wp_imul, wp_iand, wp_ior, wp_ixor, wp_ishl, wp_ishr, wp_iushr, wp_irem, wp_ladd, wp_lsub, wp_lmul, wp_land, wp_lor, wp_lxor, wp_lshl, wp_lshr, wp_lushr, wp_lrem, wp_lcmp, wp_i2l, wp_l2i, wp_dupI, wp_dupA, wp_dup2J, wp_dup2IA, wp_popI, wp_popA, wp_pop2, wp_goto, wp_if_eq, wp_icmp_eq, wp_if_ne, wp_icmp_ne, wp_if_lt, wp_icmp_lt, wp_if_ge, wp_icmp_ge, wp_if_gt, wp_icmp_gt, wp_if_le, wp_icmp_le, wp_ifnull, wp_ifnonnull, wp_acmp_eq, wp_acmp_ne, wp_tableswitch, wp_get0, wp_put0, wp_get1, wp_put1, wp_get2, wp_put2, wp_get3, wp_put3, wp_new, wp_newarray, wp_anewarray, wp_alen, wp_iaload, wp_laload, wp_baload, wp_aaload, wp_iastore, wp_lastore, wp_bastore, wp_aastore, wp_return, wp_ireturnI, wp_ireturnZ, wp_lreturn, wp_areturnO, wp_areturnA, wp_max, wp_min, wp_obj, wp_virt, wp_nil, ld_I0, ld_Is, ld_J0, ld_Js, ld_A0, ld_As, ha_0, ha_s, cx_put1, cx_put2, cx_dl, cx_tgt, true_and, and_true, Nat.reduceAdd, Nat.reduceSub, Int.reduceAdd, Int.reduceNeg, Int.reduceToNat, Int.reduceSub, Int.cast_ofNat_Int, List.take_succ_cons, List.take_zero, List.drop_succ_cons, List.drop_zero, List.take_nil, List.drop_nil, Option.toList_some, Option.toList_none, List.cons_append, List.nil_append, wp_spec, ne_eq, Nat.reduceEqDiff, not_false_eq_true, true_or, or_true]
  refine cl_X10_putOnTape (Nat.le_of_ble_eq_true rfl) G2.cs (Nat.le_refl _) (Nat.le_refl _) (e_X10_putOnTape hY G2 b2 (by omega) (fun g3 G3 k3 => ?_))
  have k3' := step 2 u3 g2 g3 (by decide) (fun i i0 i1 => by unfold m_fsel; rw [if_neg (by omega), if_neg (by omega), if_pos (by omega)]) k2' k3
  clear k3 k2'
  have b3 : cq_A g3 c 8 = some tp := by rw [k3']; exact eb
  have t3 : cq_I g3 c 9 = cq_I h c 9 + 12 := by rw [k3', i9t]; omega
  refine bx_X10_feed_30 hY (pf2_ok hY) ?_
  simp only [wp_iconst, wp_bipush, wp_sipush, wp_ldc, wp_ldc2_w, wp_lconst0, wp_lconst1, wp_aconst_null, wp_iload_0, wp_istore_0, wp_iload_1, wp_istore_1, wp_iload_2, wp_istore_2, wp_iload_3, wp_istore_3, wp_iload, wp_istore, wp_lload_0, wp_lstore_0, wp_lload_1, wp_lstore_1, wp_lload_2, wp_lstore_2, wp_lload_3, wp_lstore_3, wp_lload, wp_lstore, wp_aload_0, wp_astore_0, wp_aload_1, wp_astore_1, wp_aload_2, wp_astore_2, wp_aload_3, wp_astore_3, wp_aload, wp_astore, wp_iinc, wp_iadd, wp_isub, wp_imul, wp_iand, wp_ior, wp_ixor, wp_ishl, wp_ishr, wp_iushr, wp_irem, wp_ladd, wp_lsub, wp_lmul, wp_land, wp_lor, wp_lxor, wp_lshl, wp_lshr, wp_lushr, wp_lrem, wp_lcmp, wp_i2l, wp_l2i, wp_dupI, wp_dupA, wp_dup2J, wp_dup2IA, wp_popI, wp_popA, wp_pop2, wp_goto, wp_if_eq, wp_icmp_eq, wp_if_ne, wp_icmp_ne, wp_if_lt, wp_icmp_lt, wp_if_ge, wp_icmp_ge, wp_if_gt, wp_icmp_gt, wp_if_le, wp_icmp_le, wp_ifnull, wp_ifnonnull, wp_acmp_eq, wp_acmp_ne, wp_tableswitch, wp_get0, wp_put0, wp_get1, wp_put1, wp_get2, wp_put2, wp_get3, wp_put3, wp_new, wp_newarray, wp_anewarray, wp_alen, wp_iaload, wp_laload, wp_baload, wp_aaload, wp_iastore, wp_lastore, wp_bastore, wp_aastore, wp_return, wp_ireturnI, wp_ireturnZ, wp_lreturn, wp_areturnO, wp_areturnA, wp_max, wp_min, wp_obj, wp_virt, wp_nil, ld_I0, ld_Is, ld_J0, ld_Js, ld_A0, ld_As, ha_0, ha_s, cx_put1, cx_put2, cx_dl, cx_tgt, true_and, and_true, Nat.reduceAdd, Nat.reduceSub, Int.reduceAdd, Int.reduceNeg, Int.reduceToNat, Int.reduceSub, Int.cast_ofNat_Int, List.take_succ_cons, List.take_zero, List.drop_succ_cons, List.drop_zero, List.take_nil, List.drop_nil, Option.toList_some, Option.toList_none, List.cons_append, List.nil_append, wp_spec, ne_eq, Nat.reduceEqDiff, not_false_eq_true, true_or, or_true]
  refine cl_X10_putOnTape (Nat.le_of_ble_eq_true rfl) G3.cs (Nat.le_refl _) (Nat.le_refl _) (e_X10_putOnTape hY G3 b3 (by omega) (fun g4 G4 k4 => ?_))
  have k4' := step 3 u4 g3 g4 (by decide) (fun i i0 i1 => by unfold m_fsel; rw [if_neg (by omega), if_neg (by omega), if_neg (by omega), if_pos (by omega)]) k3' k4
  clear k4 k3'
  have b4 : cq_A g4 c 8 = some tp := by rw [k4']; exact eb
  have t4 : cq_I g4 c 9 = cq_I h c 9 + 16 := by rw [k4', i9t]; omega
  refine bx_X10_feed_36 hY (pf2_ok hY) ?_
  simp only [wp_iconst, wp_bipush, wp_sipush, wp_ldc, wp_ldc2_w, wp_lconst0, wp_lconst1, wp_aconst_null, wp_iload_0, wp_istore_0, wp_iload_1, wp_istore_1, wp_iload_2, wp_istore_2, wp_iload_3, wp_istore_3, wp_iload, wp_istore, wp_lload_0, wp_lstore_0, wp_lload_1, wp_lstore_1, wp_lload_2, wp_lstore_2, wp_lload_3, wp_lstore_3, wp_lload, wp_lstore, wp_aload_0, wp_astore_0, wp_aload_1, wp_astore_1, wp_aload_2, wp_astore_2, wp_aload_3, wp_astore_3, wp_aload, wp_astore, wp_iinc, wp_iadd, wp_isub, wp_imul, wp_iand, wp_ior, wp_ixor, wp_ishl, wp_ishr, wp_iushr, wp_irem, wp_ladd, wp_lsub, wp_lmul, wp_land, wp_lor, wp_lxor, wp_lshl, wp_lshr, wp_lushr, wp_lrem, wp_lcmp, wp_i2l, wp_l2i, wp_dupI, wp_dupA, wp_dup2J, wp_dup2IA, wp_popI, wp_popA, wp_pop2, wp_goto, wp_if_eq, wp_icmp_eq, wp_if_ne, wp_icmp_ne, wp_if_lt, wp_icmp_lt, wp_if_ge, wp_icmp_ge, wp_if_gt, wp_icmp_gt, wp_if_le, wp_icmp_le, wp_ifnull, wp_ifnonnull, wp_acmp_eq, wp_acmp_ne, wp_tableswitch, wp_get0, wp_put0, wp_get1, wp_put1, wp_get2, wp_put2, wp_get3, wp_put3, wp_new, wp_newarray, wp_anewarray, wp_alen, wp_iaload, wp_laload, wp_baload, wp_aaload, wp_iastore, wp_lastore, wp_bastore, wp_aastore, wp_return, wp_ireturnI, wp_ireturnZ, wp_lreturn, wp_areturnO, wp_areturnA, wp_max, wp_min, wp_obj, wp_virt, wp_nil, ld_I0, ld_Is, ld_J0, ld_Js, ld_A0, ld_As, ha_0, ha_s, cx_put1, cx_put2, cx_dl, cx_tgt, true_and, and_true, Nat.reduceAdd, Nat.reduceSub, Int.reduceAdd, Int.reduceNeg, Int.reduceToNat, Int.reduceSub, Int.cast_ofNat_Int, List.take_succ_cons, List.take_zero, List.drop_succ_cons, List.drop_zero, List.take_nil, List.drop_nil, Option.toList_some, Option.toList_none, List.cons_append, List.nil_append, wp_spec, ne_eq, Nat.reduceEqDiff, not_false_eq_true, true_or, or_true]
  refine cl_X10_putOnTape (Nat.le_of_ble_eq_true rfl) G4.cs (Nat.le_refl _) (Nat.le_refl _) (e_X10_putOnTape hY G4 b4 (by omega) (fun g5 G5 k5 => ?_))
  have k5' := step 4 u5 g4 g5 (by decide) (fun i i0 i1 => by unfold m_fsel; rw [if_neg (by omega), if_neg (by omega), if_neg (by omega), if_neg (by omega)]) k4' k5
  clear k5 k4'
  have t5 : cq_I g5 c 9 = cq_I h c 9 + 20 := by rw [k5', i9t]; omega
  have gc := G5.cs
  refine bx_X10_feed_42 hY (pf2_ok hY) ?_
  simp only [wp_iconst, wp_bipush, wp_sipush, wp_ldc, wp_ldc2_w, wp_lconst0, wp_lconst1, wp_aconst_null, wp_iload_0, wp_istore_0, wp_iload_1, wp_istore_1, wp_iload_2, wp_istore_2, wp_iload_3, wp_istore_3, wp_iload, wp_istore, wp_lload_0, wp_lstore_0, wp_lload_1, wp_lstore_1, wp_lload_2, wp_lstore_2, wp_lload_3, wp_lstore_3, wp_lload, wp_lstore, wp_aload_0, wp_astore_0, wp_aload_1, wp_astore_1, wp_aload_2, wp_astore_2, wp_aload_3, wp_astore_3, wp_aload, wp_astore, wp_iinc, wp_iadd, wp_isub, wp_imul, wp_iand, wp_ior, wp_ixor, wp_ishl, wp_ishr, wp_iushr, wp_irem, wp_ladd, wp_lsub, wp_lmul, wp_land, wp_lor, wp_lxor, wp_lshl, wp_lshr, wp_lushr, wp_lrem, wp_lcmp, wp_i2l, wp_l2i, wp_dupI, wp_dupA, wp_dup2J, wp_dup2IA, wp_popI, wp_popA, wp_pop2, wp_goto, wp_if_eq, wp_icmp_eq, wp_if_ne, wp_icmp_ne, wp_if_lt, wp_icmp_lt, wp_if_ge, wp_icmp_ge, wp_if_gt, wp_icmp_gt, wp_if_le, wp_icmp_le, wp_ifnull, wp_ifnonnull, wp_acmp_eq, wp_acmp_ne, wp_tableswitch, wp_get0, wp_put0, wp_get1, wp_put1, wp_get2, wp_put2, wp_get3, wp_put3, wp_new, wp_newarray, wp_anewarray, wp_alen, wp_iaload, wp_laload, wp_baload, wp_aaload, wp_iastore, wp_lastore, wp_bastore, wp_aastore, wp_return, wp_ireturnI, wp_ireturnZ, wp_lreturn, wp_areturnO, wp_areturnA, wp_max, wp_min, wp_obj, wp_virt, wp_nil, ld_I0, ld_Is, ld_J0, ld_Js, ld_A0, ld_As, ha_0, ha_s, cx_put1, cx_put2, cx_dl, cx_tgt, true_and, and_true, Nat.reduceAdd, Nat.reduceSub, Int.reduceAdd, Int.reduceNeg, Int.reduceToNat, Int.reduceSub, Int.cast_ofNat_Int, List.take_succ_cons, List.take_zero, List.drop_succ_cons, List.drop_zero, List.take_nil, List.drop_nil, Option.toList_some, Option.toList_none, List.cons_append, List.nil_append, wp_spec, ne_eq, Nat.reduceEqDiff, not_false_eq_true, true_or, or_true, gc, t5]
  exact hK (by omega) g5 G5 k5'
theorem e_X10_end (hY : cY Y) {u : Int} (H : CI c n L Z E h0 [] h) (hN : ¬ (0 ≤ u ∧ u ≤ 20 ∧ 20 ≤ cq_I h c 9) → K (some (.inl (-1))) h) (hK : 0 ≤ u ∧ u ≤ 20 ∧ 20 ≤ cq_I h c 9 → ∀ g, CI c n L Z E h0 [] g → g = cq_sI h c 9 (cq_I h c 9 - 20 + u) → K (some (.inl (cq_I h c 9 - 20 + u))) g) : cw Y mi_X10_end K 0 [some (.inr (.inr (some c))), some (.inl u)] [] h 0 0 := by
  have hc := H.cs
  have i9 := H.i9_9 hc
  have j19 : ¬ (0 ≤ u ∧ u ≤ 20 ∧ 20 ≤ cq_I h c 9) → cw Y mi_X10_end K 19 [some (.inr (.inr (some c))), some (.inl u)] [] h 0 0 := by
    intro w
    refine bx_X10_end_19 hY (pf2_ok hY) ?_
    simp only [wp_iconst, wp_bipush, wp_sipush, wp_ldc, wp_ldc2_w, wp_lconst0, wp_lconst1, wp_aconst_null, wp_iload_0, wp_istore_0, wp_iload_1, wp_istore_1, wp_iload_2, wp_istore_2, wp_iload_3, wp_istore_3, wp_iload, wp_istore, wp_lload_0, wp_lstore_0, wp_lload_1, wp_lstore_1, wp_lload_2, wp_lstore_2, wp_lload_3, wp_lstore_3, wp_lload, wp_lstore, wp_aload_0, wp_astore_0, wp_aload_1, wp_astore_1, wp_aload_2, wp_astore_2, wp_aload_3, wp_astore_3, wp_aload, wp_astore, wp_iinc, wp_iadd, wp_isub, wp_imul, wp_iand, wp_ior, wp_ixor, wp_ishl, wp_ishr, wp_iushr, wp_irem, wp_ladd, wp_lsub, wp_lmul, wp_land, wp_lor, wp_lxor, wp_lshl, wp_lshr, wp_lushr, wp_lrem, wp_lcmp, wp_i2l, wp_l2i, wp_dupI, wp_dupA, wp_dup2J, wp_dup2IA, wp_popI, wp_popA, wp_pop2, wp_goto, wp_if_eq, wp_icmp_eq, wp_if_ne, wp_icmp_ne, wp_if_lt, wp_icmp_lt, wp_if_ge, wp_icmp_ge, wp_if_gt, wp_icmp_gt, wp_if_le, wp_icmp_le, wp_ifnull, wp_ifnonnull, wp_acmp_eq, wp_acmp_ne, wp_tableswitch, wp_get0, wp_put0, wp_get1, wp_put1, wp_get2, wp_put2, wp_get3, wp_put3, wp_new, wp_newarray, wp_anewarray, wp_alen, wp_iaload, wp_laload, wp_baload, wp_aaload, wp_iastore, wp_lastore, wp_bastore, wp_aastore, wp_return, wp_ireturnI, wp_ireturnZ, wp_lreturn, wp_areturnO, wp_areturnA, wp_max, wp_min, wp_obj, wp_virt, wp_nil, ld_I0, ld_Is, ld_J0, ld_Js, ld_A0, ld_As, ha_0, ha_s, cx_put1, cx_put2, cx_dl, cx_tgt, true_and, and_true, Nat.reduceAdd, Nat.reduceSub, Int.reduceAdd, Int.reduceNeg, Int.reduceToNat, Int.reduceSub, Int.cast_ofNat_Int, List.take_succ_cons, List.take_zero, List.drop_succ_cons, List.drop_zero, List.take_nil, List.drop_nil, Option.toList_some, Option.toList_none, List.cons_append, List.nil_append, wp_spec, ne_eq, Nat.reduceEqDiff, not_false_eq_true, true_or, or_true]
    exact hN w
  refine bx_X10_end_0 hY (pf2_ok hY) ?_
  simp only [wp_iconst, wp_bipush, wp_sipush, wp_ldc, wp_ldc2_w, wp_lconst0, wp_lconst1, wp_aconst_null, wp_iload_0, wp_istore_0, wp_iload_1, wp_istore_1, wp_iload_2, wp_istore_2, wp_iload_3, wp_istore_3, wp_iload, wp_istore, wp_lload_0, wp_lstore_0, wp_lload_1, wp_lstore_1, wp_lload_2, wp_lstore_2, wp_lload_3, wp_lstore_3, wp_lload, wp_lstore, wp_aload_0, wp_astore_0, wp_aload_1, wp_astore_1, wp_aload_2, wp_astore_2, wp_aload_3, wp_astore_3, wp_aload, wp_astore, wp_iinc, wp_iadd, wp_isub, wp_imul, wp_iand, wp_ior, wp_ixor, wp_ishl, wp_ishr, wp_iushr, wp_irem, wp_ladd, wp_lsub, wp_lmul, wp_land, wp_lor, wp_lxor, wp_lshl, wp_lshr, wp_lushr, wp_lrem, wp_lcmp, wp_i2l, wp_l2i, wp_dupI, wp_dupA, wp_dup2J, wp_dup2IA, wp_popI, wp_popA, wp_pop2, wp_goto, wp_if_eq, wp_icmp_eq, wp_if_ne, wp_icmp_ne, wp_if_lt, wp_icmp_lt, wp_if_ge, wp_icmp_ge, wp_if_gt, wp_icmp_gt, wp_if_le, wp_icmp_le, wp_ifnull, wp_ifnonnull, wp_acmp_eq, wp_acmp_ne, wp_tableswitch, wp_get0, wp_put0, wp_get1, wp_put1, wp_get2, wp_put2, wp_get3, wp_put3, wp_new, wp_newarray, wp_anewarray, wp_alen, wp_iaload, wp_laload, wp_baload, wp_aaload, wp_iastore, wp_lastore, wp_bastore, wp_aastore, wp_return, wp_ireturnI, wp_ireturnZ, wp_lreturn, wp_areturnO, wp_areturnA, wp_max, wp_min, wp_obj, wp_virt, wp_nil, ld_I0, ld_Is, ld_J0, ld_Js, ld_A0, ld_As, ha_0, ha_s, cx_put1, cx_put2, cx_dl, cx_tgt, true_and, and_true, Nat.reduceAdd, Nat.reduceSub, Int.reduceAdd, Int.reduceNeg, Int.reduceToNat, Int.reduceSub, Int.cast_ofNat_Int, List.take_succ_cons, List.take_zero, List.drop_succ_cons, List.drop_zero, List.take_nil, List.drop_nil, Option.toList_some, Option.toList_none, List.cons_append, List.nil_append, wp_spec, ne_eq, Nat.reduceEqDiff, not_false_eq_true, true_or, or_true, hc]
  refine ⟨fun q => j19 (by omega), fun q => ⟨fun q2 => j19 (by omega), fun q2 => ⟨fun q3 => ?_, fun q3 => j19 (by omega)⟩⟩⟩
  refine bx_X10_end_21 hY (pf2_ok hY) ?_
  simp only [wp_iconst, wp_bipush, wp_sipush, wp_ldc, wp_ldc2_w, wp_lconst0, wp_lconst1, wp_aconst_null, wp_iload_0, wp_istore_0, wp_iload_1, wp_istore_1, wp_iload_2, wp_istore_2, wp_iload_3, wp_istore_3, wp_iload, wp_istore, wp_lload_0, wp_lstore_0, wp_lload_1, wp_lstore_1, wp_lload_2, wp_lstore_2, wp_lload_3, wp_lstore_3, wp_lload, wp_lstore, wp_aload_0, wp_astore_0, wp_aload_1, wp_astore_1, wp_aload_2, wp_astore_2, wp_aload_3, wp_astore_3, wp_aload, wp_astore, wp_iinc, wp_iadd, wp_isub, wp_imul, wp_iand, wp_ior, wp_ixor, wp_ishl, wp_ishr, wp_iushr, wp_irem, wp_ladd, wp_lsub, wp_lmul, wp_land, wp_lor, wp_lxor, wp_lshl, wp_lshr, wp_lushr, wp_lrem, wp_lcmp, wp_i2l, wp_l2i, wp_dupI, wp_dupA, wp_dup2J, wp_dup2IA, wp_popI, wp_popA, wp_pop2, wp_goto, wp_if_eq, wp_icmp_eq, wp_if_ne, wp_icmp_ne, wp_if_lt, wp_icmp_lt, wp_if_ge, wp_icmp_ge, wp_if_gt, wp_icmp_gt, wp_if_le, wp_icmp_le, wp_ifnull, wp_ifnonnull, wp_acmp_eq, wp_acmp_ne, wp_tableswitch, wp_get0, wp_put0, wp_get1, wp_put1, wp_get2, wp_put2, wp_get3, wp_put3, wp_new, wp_newarray, wp_anewarray, wp_alen, wp_iaload, wp_laload, wp_baload, wp_aaload, wp_iastore, wp_lastore, wp_bastore, wp_aastore, wp_return, wp_ireturnI, wp_ireturnZ, wp_lreturn, wp_areturnO, wp_areturnA, wp_max, wp_min, wp_obj, wp_virt, wp_nil, ld_I0, ld_Is, ld_J0, ld_Js, ld_A0, ld_As, ha_0, ha_s, cx_put1, cx_put2, cx_dl, cx_tgt, true_and, and_true, Nat.reduceAdd, Nat.reduceSub, Int.reduceAdd, Int.reduceNeg, Int.reduceToNat, Int.reduceSub, Int.cast_ofNat_Int, List.take_succ_cons, List.take_zero, List.drop_succ_cons, List.drop_zero, List.take_nil, List.drop_nil, Option.toList_some, Option.toList_none, List.cons_append, List.nil_append, wp_spec, ne_eq, Nat.reduceEqDiff, not_false_eq_true, true_or, or_true, hc, mm_sI, mm_sJ, mm_sA, mm_IJ, mm_IA, mm_JI, mm_JA, mm_AI, mm_AJ, mm_ssI, mm_ssJ, mm_ssA, mm_zI, mm_zJ, mm_zA, mm_nI, mm_nJ, mm_nA, Nat.left_eq_add, Nat.add_eq_left, Nat.add_left_cancel_iff, Nat.reduceEqDiff, Int.reduceEq, false_and, and_false, if_false, if_true, and_self, true_and, true_or, or_true, false_or, or_false, cx_rg]
  exact ⟨by omega, by omega, hK (by omega) _ (H.sI hc (own_9 (by decide)) ⟨by omega, by omega⟩ rfl) rfl⟩
/-- the reference's tape -/
theorem m_fd_q {a b c d e : Int} : ∀ (r : Nat) {k : Int} {g : cx_Q}, cq_I (m_fd x a b c d e r k g) x 68 = cq_I g x 68 + r ∧ (∀ j, cq_I (m_fd x a b c d e r k g) (x + 61) j = kpG (cq_I g (x + 61)) (cq_I g x 68) r (fun i => fdB a b c d e (k + i)) j) ∧ (∀ i j, ¬ (i = x ∧ j = 68) → i ≠ x + 61 → cq_I (m_fd x a b c d e r k g) i j = cq_I g i j) ∧ cq_J (m_fd x a b c d e r k g) = cq_J g
  | 0, k, g => by
    rw [m_fd]
    refine ⟨by omega, fun j => ?_, fun _ _ _ _ => rfl, rfl⟩
    have := congrFun (kpG_0 (f := cq_I g (x + 61)) (sz := cq_I g x 68) (v := fun i => fdB a b c d e (k + i))) j
    exact this.symm
  | r + 1, k, g => by
    rw [m_fd]
    obtain ⟨h1, h2, h3, h4⟩ := m_fd_q (a := a) (b := b) (c := c) (d := d) (e := e) r (k := k + 1) (g := m_fd1 g x (m_fsel a b c d e k) k)
    have e68 : cq_I (m_fd1 g x (m_fsel a b c d e k) k) x 68 = cq_I g x 68 + 1 := m_fd1_68
    have e61 : ∀ j, cq_I (m_fd1 g x (m_fsel a b c d e k) k) (x + 61) j = if j = cq_I g x 68 then fdB a b c d e k else cq_I g (x + 61) j := by
      intro j
      unfold m_fd1 fdB
      rw [mm_sI, if_neg (fun e => by omega), mm_sI]
      by_cases w : j = cq_I g x 68
      · rw [if_pos ⟨rfl, w⟩, if_pos w]
      · rw [if_neg (fun e => w e.2), if_neg w]
    refine ⟨by rw [h1, e68]; omega, fun j => ?_, fun i j w1 w2 => ?_, ?_⟩
    · rw [h2, e68]
      unfold kpG
      by_cases w : j = cq_I g x 68
      · have e1 : k + (j - cq_I g x 68) = k := by omega
        rw [if_neg (by omega), e61, if_pos w, if_pos (by omega)]
        dsimp only
        rw [e1]
      · by_cases w2 : cq_I g x 68 + 1 ≤ j ∧ j < cq_I g x 68 + 1 + (r : Int)
        · have e1 : k + 1 + (j - (cq_I g x 68 + 1)) = k + (j - cq_I g x 68) := by omega
          rw [if_pos w2, if_pos (by omega)]
          dsimp only
          rw [e1]
        · rw [if_neg w2, e61, if_neg w, if_neg (by omega)]
    · rw [h3 i j w1 w2]
      unfold m_fd1
      rw [mm_sI, if_neg w1, mm_sI, if_neg (fun e => w2 e.1)]
    · rw [h4]; rfl
theorem fx_feed (F : FX c x n pe ro pa lb tp rd en op ob T Lf h g) {a b c' d e : Int} (hc : cq_s h c = 9) : FX c x n pe ro pa lb tp rd en op ob T Lf (tpW h tp c (fdB a b c' d e) (cq_I h c 9) 20) (m_fd x a b c' d e 20 0 g) := by
  obtain ⟨q1, q2, q3, q4⟩ := m_fd_q (x := x) (a := a) (b := b) (c := c') (d := d) (e := e) 20 (k := 0) (g := g)
  have fs := F.fs
  have ne : tp ≠ c := ns fs.s1 fs.s0 (by decide)
  have ex : evx (fun a => a = c ∨ a = tp) h (tpW h tp c (fdB a b c' d e) (cq_I h c 9) 20) := (evx.refl.rI (Or.inr rfl)).sI (Or.inl rfl)
  have gx : ∀ j, j ≠ 68 → cq_I (m_fd x a b c' d e 20 0 g) x j = cq_I g x j := fun j w => q3 x j (fun e => w e.2) (by omega)
  have cI : ∀ j, j ≠ 9 → cq_I (tpW h tp c (fdB a b c' d e) (cq_I h c 9) 20) c j = cq_I h c j := fun j w => by
    unfold tpW
    rw [mm_sI, if_neg (fun e => w e.2), rr_I, if_neg (fun e => ne e.symm)]
  refine F.upS ex (fun o _ => o = 61) (fun o j _ _ _ w => ⟨q3 (x + o) j (fun e => by omega) (by omega), by rw [q4]⟩) (fun a w => ?_) (fun o j w => Or.inl w) rfl rfl (gx 0 (by decide)) (gx 72 (by decide)) ?_
  · rcases w with rfl | rfl
    · rw [fs.s0]; rfl
    · rw [fs.s1]; rfl
  refine ⟨fs.s0, fs.s1, fs.s2, fs.a8, fs.a10, by rw [cI 2 (by decide), gx 72 (by decide)]; exact fs.lc, by rw [cI 3 (by decide), gx 73 (by decide)]; exact fs.cc, by rw [cI 4 (by decide), gx 63 (by decide)]; exact fs.bc, by rw [cI 5 (by decide), gx 85 (by decide)]; exact fs.mc, by rw [cI 6 (by decide), gx 84 (by decide)]; exact fs.oc, by rw [cI 7 (by decide), gx 86 (by decide)]; exact fs.kc, ?_, by rw [cI 11 (by decide), gx 75 (by decide)]; exact fs.rc, fun k k0 k1 => ?_, fun k k0 k1 => ?_, fun k k0 k1 => ?_⟩
  · rw [q1, ← fs.tc]
    unfold tpW
    rw [mm_sI, if_pos ⟨rfl, rfl⟩]
    rfl
  · rw [q1] at k1
    rw [q2]
    unfold tpW
    rw [mm_sI, if_neg (fun e => ne e.1), rr_I, if_pos rfl, ← fs.tc]
    rw [← fs.tc] at k1
    unfold kpG
    by_cases w : cq_I h c 9 ≤ k ∧ k < cq_I h c 9 + 20
    · rw [if_pos w, if_pos (by omega)]
      dsimp only
      rw [Int.zero_add]
    · rw [if_neg w, if_neg (by omega)]
      exact fs.tp_ k k0 (by rw [← fs.tc]; omega)
  · rw [gx 75 (by decide)] at k1
    rw [q3 (x + 65) k (fun e => by omega) (by omega)]
    unfold tpW
    rw [mm_sI, if_neg (fun e => ns fs.s2 fs.s0 (by decide) e.1), rr_I, if_neg (ns fs.s2 fs.s1 (by decide))]
    exact fs.rd_ k k0 k1
  · rw [q1] at k1
    rw [q2]
    unfold kpG
    by_cases w : cq_I g x 68 ≤ k ∧ k < cq_I g x 68 + ((20 : Nat) : Int)
    · rw [if_pos w]
      unfold fdB
      exact and255
    · rw [if_neg w]
      exact fs.tb k k0 (by omega)
/-- an int of the object, and of the reference, that tells of neither tape, letters nor what was read -/
theorem fx_end (F : FX c x n pe ro pa lb tp rd en op ob T Lf h g) {v : Int} (hv : v ≤ cq_I g x 68) : FX c x n pe ro pa lb tp rd en op ob T Lf (cq_sI h c 9 v) (cq_sI g x 68 v) := by
  have fs := F.fs
  have ex : evx (fun a => a = c) h (cq_sI h c 9 v) := evx.refl.sI rfl
  have cI : ∀ j, j ≠ 9 → cq_I (cq_sI h c 9 v) c j = cq_I h c j := fun j w => by rw [mm_sI, if_neg (fun e => w e.2)]
  have gx : ∀ j, j ≠ 68 → cq_I (cq_sI g x 68 v) x j = cq_I g x j := fun j w => by rw [mm_sI, if_neg (fun e => w e.2)]
  refine F.upS ex (fun o _ => False) (fun o j w _ _ _ => ⟨by rw [mm_sI, if_neg (fun e => by omega)], rfl⟩) (fun a w => by rw [w, fs.s0]; rfl) (fun o j w => w.elim) rfl rfl (gx 0 (by decide)) (gx 72 (by decide)) ?_
  refine ⟨fs.s0, fs.s1, fs.s2, fs.a8, fs.a10, by rw [cI 2 (by decide), gx 72 (by decide)]; exact fs.lc, by rw [cI 3 (by decide), gx 73 (by decide)]; exact fs.cc, by rw [cI 4 (by decide), gx 63 (by decide)]; exact fs.bc, by rw [cI 5 (by decide), gx 85 (by decide)]; exact fs.mc, by rw [cI 6 (by decide), gx 84 (by decide)]; exact fs.oc, by rw [cI 7 (by decide), gx 86 (by decide)]; exact fs.kc, by rw [mm_sI, if_pos ⟨rfl, rfl⟩, mm_sI, if_pos ⟨rfl, rfl⟩], by rw [cI 11 (by decide), gx 75 (by decide)]; exact fs.rc, fun k k0 k1 => ?_, fun k k0 k1 => ?_, fun k k0 k1 => ?_⟩
  · rw [mm_sI, if_pos ⟨rfl, rfl⟩] at k1
    rw [mm_sI, if_neg (fun e => ns fs.s1 fs.s0 (by decide) e.1), mm_sI, if_neg (fun e => by omega)]
    exact fs.tp_ k k0 (by omega)
  · rw [gx 75 (by decide)] at k1
    rw [mm_sI, if_neg (fun e => ns fs.s2 fs.s0 (by decide) e.1), mm_sI, if_neg (fun e => by omega)]
    exact fs.rd_ k k0 k1
  · rw [mm_sI, if_pos ⟨rfl, rfl⟩] at k1
    rw [mm_sI, if_neg (fun e => by omega)]
    exact fs.tb k k0 (by omega)
end
