/-! a letter is opened in a SESSION -/
theorem itq_inv {P : cx_Q → Prop} {f : Int → cx_Q → cx_Q} (hf : ∀ i h, P h → P (f i h)) : ∀ (n : Nat) (i : Int) (h : cx_Q), P h → P (m_itq f n i h)
  | 0, i, h, H => by rw [m_itq]; exact H
  | n + 1, i, h, H => by rw [m_itq]; exact itq_inv hf n (i + 1) (f i h) (hf i h H)
theorem itd_inv {P : cx_Q → Prop} {f : Nat → cx_Q → cx_Q} (hf : ∀ i h, P h → P (f i h)) : ∀ (n : Nat) (h : cx_Q), P h → P (m_itd f n h)
  | 0, h, H => by rw [m_itd]; exact H
  | n + 1, h, H => by rw [m_itd]; exact itd_inv hf n (f n h) (hf n h H)
theorem itq_eT {x : Nat} {f : Int → cx_Q → cx_Q} (hf : ∀ i h h', eT x h h' → eT x (f i h) (f i h')) : ∀ (n : Nat) (i : Int) (h h' : cx_Q), eT x h h' → eT x (m_itq f n i h) (m_itq f n i h')
  | 0, i, h, h', H => by rw [m_itq, m_itq]; exact H
  | n + 1, i, h, h', H => by rw [m_itq, m_itq]; exact itq_eT hf n (i + 1) _ _ (hf i h h' H)
theorem itd_eT {x : Nat} {f : Nat → cx_Q → cx_Q} (hf : ∀ i h h', eT x h h' → eT x (f i h) (f i h')) : ∀ (n : Nat) (h h' : cx_Q), eT x h h' → eT x (m_itd f n h) (m_itd f n h')
  | 0, h, h', H => by rw [m_itd, m_itd]; exact H
  | n + 1, h, h', H => by rw [m_itd, m_itd]; exact itd_eT hf n _ _ (hf n h h' H)
theorem eT_rt1 {x : Nat} {k : Int64} {i : Int} {h h' : cx_Q} (a : eT x h h') : eT x (m_rt1 h x k i) (m_rt1 h' x k i) := by
  unfold m_rt1
  rw [a.fI (o := 62) (by decide) (by decide), a.xI (j := 77) (by decide) (by decide) (by decide), a.xI (j := 82) (by decide) (by decide) (by decide)]
  exact eT.sI a
theorem eT_readText {x : Nat} {k : Int64} {h h' : cx_Q} (a : eT x h h') : eT x (m_readText h x k) (m_readText h' x k) := by
  unfold m_readText m_rt
  rw [a.xI (j := 83) (by decide) (by decide) (by decide)]
  exact itq_eT (f := fun i h => m_rt1 h x k i) (fun i h h' q => eT_rt1 q) _ _ _ _ (eT.sI a)
theorem rS_readText {x : Nat} {k : Int64} {h : cx_Q} (H : rS h x) : rS (m_readText h x k) x := by
  unfold m_readText m_rt
  exact itq_inv (P := fun g => rS g x) (fun i g q => m_rt1_rS q) _ _ _ (rS.sI H)
theorem TI_readText {x : Nat} {k : Int64} {h : cx_Q} {N O : Int} (H : TI x h N O) : TI x (m_readText h x k) N O := by
  unfold m_readText m_rt
  refine itq_inv (P := fun g => TI x g N O) (fun i g q => ?_) _ _ _ (TI.sF H (by decide) (by decide) (by decide))
  unfold m_rt1
  exact TI.sT q (by decide) (fun q => absurd q (by decide))
theorem eT_keep1 {x : Nat} {s : Int} {h h' : cx_Q} (a : eT x h h') : eT x (m_keep1 h x s) (m_keep1 h' x s) := by
  unfold m_keep1
  refine eT_step ?_
  unfold m_keepB m_keepA
  rw [a.fI (o := 53) (by decide) (by decide), a.fI (o := 41) (by decide) (by decide), a.fJ (o := 38) (by decide) (by decide), a.fJ (o := 34) (by decide) (by decide)]
  exact eT.sI (eT.sJ (eT.sI (eT.sJ a)))
theorem eT_keep {x : Nat} {s : Int} {n : Nat} {h h' : cx_Q} (a : eT x h h') : eT x (m_keep x s n h) (m_keep x s n h') := by
  unfold m_keep
  exact itd_eT (fun i h h' q => eT_keep1 q) _ _ _ a
theorem rS_keep {x : Nat} {s : Int} {n : Nat} {h : cx_Q} (H : rS h x) : rS (m_keep x s n h) x := by
  unfold m_keep
  exact itd_inv (P := fun g => rS g x) (fun i g q => m_keep1_rS q) _ _ H
theorem rS_drop {x : Nat} {s i : Int} {h : cx_Q} (H : rS h x) : rS (m_drop h x s i) x := by
  unfold m_drop m_dk
  exact itq_inv (P := fun g => rS g x) (fun i g q => m_dk1_rS q) _ _ _ (rS.sI H)
theorem m_dk1_x {h : cx_Q} {x : Nat} {k j : Int} : cq_I (m_dk1 h x k) x j = cq_I h x j := by
  unfold m_dk1
  simp only [mm_sI, mm_sJ, mm_sA, mm_IJ, mm_IA, mm_JI, mm_JA, mm_AI, mm_AJ, mm_ssI, mm_ssJ, mm_ssA, mm_zI, mm_zJ, mm_zA, mm_nI, mm_nJ, mm_nA, Nat.left_eq_add, Nat.add_eq_left, Nat.add_left_cancel_iff, Nat.reduceEqDiff, Int.reduceEq, false_and, and_false, if_false, if_true, and_self, true_and, true_or, or_true, false_or, or_false]
theorem m_drop_x {h : cx_Q} {x : Nat} {s i j : Int} : cq_I (m_drop h x s i) x j = cq_I h x j := by
  unfold m_drop m_dk
  refine itq_inv (P := fun g => cq_I g x j = cq_I h x j) (fun i g q => ?_) _ _ _ ?_
  · show cq_I (m_dk1 g x i) x j = _
    rw [m_dk1_x]; exact q
  · show cq_I (cq_sI h (x + 53) s _) x j = _
    rw [mm_sI, if_neg (fun e => by omega)]
theorem m_keep1_x {h : cx_Q} {x : Nat} {s j : Int} : cq_I (m_keep1 h x s) x j = cq_I h x j := by
  unfold m_keep1 m_step m_keepB m_keepA
  simp only [mm_sI, mm_sJ, mm_sA, mm_IJ, mm_IA, mm_JI, mm_JA, mm_AI, mm_AJ, mm_ssI, mm_ssJ, mm_ssA, mm_zI, mm_zJ, mm_zA, mm_nI, mm_nJ, mm_nA, Nat.left_eq_add, Nat.add_eq_left, Nat.add_left_cancel_iff, Nat.reduceEqDiff, Int.reduceEq, false_and, and_false, if_false, if_true, and_self, true_and, true_or, or_true, false_or, or_false]
theorem m_keep_x {h : cx_Q} {x : Nat} {s j : Int} {n : Nat} : cq_I (m_keep x s n h) x j = cq_I h x j := by
  unfold m_keep
  refine itd_inv (P := fun g => cq_I g x j = cq_I h x j) (fun i g q => ?_) _ _ rfl
  show cq_I (m_keep1 g x s) x j = _
  rw [m_keep1_x]; exact q
/-- what readLetter has told of letter l -/
def rdI (x : Nat) (h : cx_Q) (l : Int) : Prop := (0 ≤ l ∧ l < 80) ∧ cq_I h x 77 = 100 * l ∧ (8 ≤ cq_I h x 78 ∧ cq_I h x 78 ≤ 100) ∧ (0 ≤ cq_I h x 83 ∧ cq_I h x 83 ≤ 40) ∧ 0 ≤ cq_I h x 82 ∧ cq_I h x 82 + cq_I h x 83 ≤ 100 ∧ (0 ≤ cq_I h x 80 ∧ cq_I h x 80 ≤ 65535) ∧ (0 ≤ cq_I h x 81 ∧ cq_I h x 81 ≤ 65535)
def m_openK (h : cx_Q) (x : Nat) (s i : Int) (k : Int64) : cx_Q := cq_sI (m_readText (m_drop h x s i) x k) (x + 43) s 0
theorem open_kept {Y : cx_Y} (hY : cY Y) {K : Option cx_V → cx_Q → Prop} {h : cx_Q} {x : Nat} {l u s i N O : Int} {o6 o7 o8 o9 o10 o11 o12 o13 o14 : Option cx_V} (hS : rS h x) (hT : TI x h N O) (hR : rdI x h l) (hs : 0 ≤ s ∧ s < 144) (hk : cq_I h (x + 53) s ≤ 20) (hi : 0 ≤ i ∧ i < cq_I h (x + 53) s)
    (h4 : ¬ m_isTag h x l (cq_J h (x + 56) (20 * s + i)) → K (some (.inl 4)) h) (h0 : m_isTag h x l (cq_J h (x + 56) (20 * s + i)) → ∀ h', eT x (m_openK h x s i (cq_J h (x + 56) (20 * s + i))) h' → TI x h' N O → K (some (.inl 0)) h') :
    cw Y mi_X11_open K 5 [some (.inr (.inr (some x))), some (.inl l), some (.inl u), some (.inl s), none, none, o6, o7, o8, o9, o10, o11, o12, o13, o14] [.inl i] h 0 0 := by
  obtain ⟨r1, r2, r3, r4, r5, r6, r7, r8⟩ := hR
  refine bx_X11_open_5 hY (pf1_ok hY) ?_
  simp only [wp_iconst, wp_bipush, wp_sipush, wp_ldc, wp_ldc2_w, wp_lconst0, wp_lconst1, wp_aconst_null, wp_iload_0, wp_istore_0, wp_iload_1, wp_istore_1, wp_iload_2, wp_istore_2, wp_iload_3, wp_istore_3, wp_iload, wp_istore, wp_lload_0, wp_lstore_0, wp_lload_1, wp_lstore_1, wp_lload_2, wp_lstore_2, wp_lload_3, wp_lstore_3, wp_lload, wp_lstore, wp_aload_0, wp_astore_0, wp_aload_1, wp_astore_1, wp_aload_2, wp_astore_2, wp_aload_3, wp_astore_3, wp_aload, wp_astore, wp_iinc, wp_iadd, wp_isub, wp_imul, wp_iand, wp_ior, wp_ixor, wp_ishl, wp_ishr, wp_iushr, wp_irem, wp_ladd, wp_lsub, wp_lmul, wp_land, wp_lor, wp_lxor, wp_lshl, wp_lshr, wp_lushr, wp_lrem, wp_lcmp, wp_i2l, wp_l2i, wp_dupI, wp_dupA, wp_dup2J, wp_dup2IA, wp_popI, wp_popA, wp_pop2, wp_goto, wp_if_eq, wp_icmp_eq, wp_if_ne, wp_icmp_ne, wp_if_lt, wp_icmp_lt, wp_if_ge, wp_icmp_ge, wp_if_gt, wp_icmp_gt, wp_if_le, wp_icmp_le, wp_ifnull, wp_ifnonnull, wp_acmp_eq, wp_acmp_ne, wp_tableswitch, wp_get0, wp_put0, wp_get1, wp_put1, wp_get2, wp_put2, wp_get3, wp_put3, wp_new, wp_newarray, wp_anewarray, wp_alen, wp_iaload, wp_laload, wp_baload, wp_aaload, wp_iastore, wp_lastore, wp_bastore, wp_aastore, wp_return, wp_ireturnI, wp_ireturnZ, wp_lreturn, wp_areturnO, wp_areturnA, wp_max, wp_min, wp_obj, wp_virt, wp_nil, ld_I0, ld_Is, ld_J0, ld_Js, ld_A0, ld_As, ha_0, ha_s, cx_put1, cx_put2, cx_dl, cx_tgt, true_and, and_true, Nat.reduceAdd, Nat.reduceSub, Int.reduceAdd, Int.reduceNeg, Int.reduceToNat, Int.reduceSub, Int.cast_ofNat_Int, List.take_succ_cons, List.take_zero, List.drop_succ_cons, List.drop_zero, List.take_nil, List.drop_nil, Option.toList_some, Option.toList_none, List.cons_append, List.nil_append, wp_spec, ne_eq, Nat.reduceEqDiff, not_false_eq_true, true_or, or_true, rA_keptKey hS, rs_keptKey hS, rz_keptKey hS, ra_161, (hS).1, cx_rg]
  refine ⟨fun q => absurd q (by omega), fun _ => ?_⟩
  (repeat' (with_reducible (first | refine And.intro ?_ ?_ | intro _)))
  all_goals (try omega)
  refine cl_X11_isTag (Nat.le_of_ble_eq_true rfl) hS.1 (Nat.le_refl _) (Nat.le_refl _) (c_X11_isTag hY hS r1 r2 r3 ?_ ?_)
  · intro q
    refine bx_X11_open_33 hY (pf1_ok hY) ?_
    simp only [wp_iconst, wp_bipush, wp_sipush, wp_ldc, wp_ldc2_w, wp_lconst0, wp_lconst1, wp_aconst_null, wp_iload_0, wp_istore_0, wp_iload_1, wp_istore_1, wp_iload_2, wp_istore_2, wp_iload_3, wp_istore_3, wp_iload, wp_istore, wp_lload_0, wp_lstore_0, wp_lload_1, wp_lstore_1, wp_lload_2, wp_lstore_2, wp_lload_3, wp_lstore_3, wp_lload, wp_lstore, wp_aload_0, wp_astore_0, wp_aload_1, wp_astore_1, wp_aload_2, wp_astore_2, wp_aload_3, wp_astore_3, wp_aload, wp_astore, wp_iinc, wp_iadd, wp_isub, wp_imul, wp_iand, wp_ior, wp_ixor, wp_ishl, wp_ishr, wp_iushr, wp_irem, wp_ladd, wp_lsub, wp_lmul, wp_land, wp_lor, wp_lxor, wp_lshl, wp_lshr, wp_lushr, wp_lrem, wp_lcmp, wp_i2l, wp_l2i, wp_dupI, wp_dupA, wp_dup2J, wp_dup2IA, wp_popI, wp_popA, wp_pop2, wp_goto, wp_if_eq, wp_icmp_eq, wp_if_ne, wp_icmp_ne, wp_if_lt, wp_icmp_lt, wp_if_ge, wp_icmp_ge, wp_if_gt, wp_icmp_gt, wp_if_le, wp_icmp_le, wp_ifnull, wp_ifnonnull, wp_acmp_eq, wp_acmp_ne, wp_tableswitch, wp_get0, wp_put0, wp_get1, wp_put1, wp_get2, wp_put2, wp_get3, wp_put3, wp_new, wp_newarray, wp_anewarray, wp_alen, wp_iaload, wp_laload, wp_baload, wp_aaload, wp_iastore, wp_lastore, wp_bastore, wp_aastore, wp_return, wp_ireturnI, wp_ireturnZ, wp_lreturn, wp_areturnO, wp_areturnA, wp_max, wp_min, wp_obj, wp_virt, wp_nil, ld_I0, ld_Is, ld_J0, ld_Js, ld_A0, ld_As, ha_0, ha_s, cx_put1, cx_put2, cx_dl, cx_tgt, true_and, and_true, Nat.reduceAdd, Nat.reduceSub, Int.reduceAdd, Int.reduceNeg, Int.reduceToNat, Int.reduceSub, Int.cast_ofNat_Int, List.take_succ_cons, List.take_zero, List.drop_succ_cons, List.drop_zero, List.take_nil, List.drop_nil, Option.toList_some, Option.toList_none, List.cons_append, List.nil_append, wp_spec, ne_eq, Nat.reduceEqDiff, not_false_eq_true, true_or, or_true, Nat.left_eq_add, Nat.add_eq_left, Nat.add_left_cancel_iff, Nat.reduceEqDiff, Int.reduceEq, false_and, and_false, if_false, if_true, and_self, true_and, true_or, or_true, false_or, or_false]
    refine ⟨fun q => absurd trivial q, fun _ => h4 q⟩
  intro q
  have hfin := h0 q
  refine bx_X11_open_33 hY (pf1_ok hY) ?_
  simp only [wp_iconst, wp_bipush, wp_sipush, wp_ldc, wp_ldc2_w, wp_lconst0, wp_lconst1, wp_aconst_null, wp_iload_0, wp_istore_0, wp_iload_1, wp_istore_1, wp_iload_2, wp_istore_2, wp_iload_3, wp_istore_3, wp_iload, wp_istore, wp_lload_0, wp_lstore_0, wp_lload_1, wp_lstore_1, wp_lload_2, wp_lstore_2, wp_lload_3, wp_lstore_3, wp_lload, wp_lstore, wp_aload_0, wp_astore_0, wp_aload_1, wp_astore_1, wp_aload_2, wp_astore_2, wp_aload_3, wp_astore_3, wp_aload, wp_astore, wp_iinc, wp_iadd, wp_isub, wp_imul, wp_iand, wp_ior, wp_ixor, wp_ishl, wp_ishr, wp_iushr, wp_irem, wp_ladd, wp_lsub, wp_lmul, wp_land, wp_lor, wp_lxor, wp_lshl, wp_lshr, wp_lushr, wp_lrem, wp_lcmp, wp_i2l, wp_l2i, wp_dupI, wp_dupA, wp_dup2J, wp_dup2IA, wp_popI, wp_popA, wp_pop2, wp_goto, wp_if_eq, wp_icmp_eq, wp_if_ne, wp_icmp_ne, wp_if_lt, wp_icmp_lt, wp_if_ge, wp_icmp_ge, wp_if_gt, wp_icmp_gt, wp_if_le, wp_icmp_le, wp_ifnull, wp_ifnonnull, wp_acmp_eq, wp_acmp_ne, wp_tableswitch, wp_get0, wp_put0, wp_get1, wp_put1, wp_get2, wp_put2, wp_get3, wp_put3, wp_new, wp_newarray, wp_anewarray, wp_alen, wp_iaload, wp_laload, wp_baload, wp_aaload, wp_iastore, wp_lastore, wp_bastore, wp_aastore, wp_return, wp_ireturnI, wp_ireturnZ, wp_lreturn, wp_areturnO, wp_areturnA, wp_max, wp_min, wp_obj, wp_virt, wp_nil, ld_I0, ld_Is, ld_J0, ld_Js, ld_A0, ld_As, ha_0, ha_s, cx_put1, cx_put2, cx_dl, cx_tgt, true_and, and_true, Nat.reduceAdd, Nat.reduceSub, Int.reduceAdd, Int.reduceNeg, Int.reduceToNat, Int.reduceSub, Int.cast_ofNat_Int, List.take_succ_cons, List.take_zero, List.drop_succ_cons, List.drop_zero, List.take_nil, List.drop_nil, Option.toList_some, Option.toList_none, List.cons_append, List.nil_append, wp_spec, ne_eq, Nat.reduceEqDiff, not_false_eq_true, true_or, or_true, Nat.left_eq_add, Nat.add_eq_left, Nat.add_left_cancel_iff, Nat.reduceEqDiff, Int.reduceEq, false_and, and_false, if_false, if_true, and_self, true_and, true_or, or_true, false_or, or_false]
  refine ⟨fun _ => ?_, fun q => absurd trivial q⟩
  refine bx_X11_open_38 hY (pf1_ok hY) ?_
  simp only [wp_iconst, wp_bipush, wp_sipush, wp_ldc, wp_ldc2_w, wp_lconst0, wp_lconst1, wp_aconst_null, wp_iload_0, wp_istore_0, wp_iload_1, wp_istore_1, wp_iload_2, wp_istore_2, wp_iload_3, wp_istore_3, wp_iload, wp_istore, wp_lload_0, wp_lstore_0, wp_lload_1, wp_lstore_1, wp_lload_2, wp_lstore_2, wp_lload_3, wp_lstore_3, wp_lload, wp_lstore, wp_aload_0, wp_astore_0, wp_aload_1, wp_astore_1, wp_aload_2, wp_astore_2, wp_aload_3, wp_astore_3, wp_aload, wp_astore, wp_iinc, wp_iadd, wp_isub, wp_imul, wp_iand, wp_ior, wp_ixor, wp_ishl, wp_ishr, wp_iushr, wp_irem, wp_ladd, wp_lsub, wp_lmul, wp_land, wp_lor, wp_lxor, wp_lshl, wp_lshr, wp_lushr, wp_lrem, wp_lcmp, wp_i2l, wp_l2i, wp_dupI, wp_dupA, wp_dup2J, wp_dup2IA, wp_popI, wp_popA, wp_pop2, wp_goto, wp_if_eq, wp_icmp_eq, wp_if_ne, wp_icmp_ne, wp_if_lt, wp_icmp_lt, wp_if_ge, wp_icmp_ge, wp_if_gt, wp_icmp_gt, wp_if_le, wp_icmp_le, wp_ifnull, wp_ifnonnull, wp_acmp_eq, wp_acmp_ne, wp_tableswitch, wp_get0, wp_put0, wp_get1, wp_put1, wp_get2, wp_put2, wp_get3, wp_put3, wp_new, wp_newarray, wp_anewarray, wp_alen, wp_iaload, wp_laload, wp_baload, wp_aaload, wp_iastore, wp_lastore, wp_bastore, wp_aastore, wp_return, wp_ireturnI, wp_ireturnZ, wp_lreturn, wp_areturnO, wp_areturnA, wp_max, wp_min, wp_obj, wp_virt, wp_nil, ld_I0, ld_Is, ld_J0, ld_Js, ld_A0, ld_As, ha_0, ha_s, cx_put1, cx_put2, cx_dl, cx_tgt, true_and, and_true, Nat.reduceAdd, Nat.reduceSub, Int.reduceAdd, Int.reduceNeg, Int.reduceToNat, Int.reduceSub, Int.cast_ofNat_Int, List.take_succ_cons, List.take_zero, List.drop_succ_cons, List.drop_zero, List.take_nil, List.drop_nil, Option.toList_some, Option.toList_none, List.cons_append, List.nil_append, wp_spec, ne_eq, Nat.reduceEqDiff, not_false_eq_true, true_or, or_true]
  refine cl_X11_dropKept (Nat.le_of_ble_eq_true rfl) hS.1 (Nat.le_refl _) (Nat.le_refl _) (c_X11_dropKept hY hS hT hs hi hk ?_)
  intro g hE hTg
  have hSg := hE.rS (rS_drop hS)
  have e77 : cq_I g x 77 = cq_I h x 77 := by rw [hE.xI (j := 77) (by decide) (by decide) (by decide), m_drop_x]
  have e82 : cq_I g x 82 = cq_I h x 82 := by rw [hE.xI (j := 82) (by decide) (by decide) (by decide), m_drop_x]
  have e83 : cq_I g x 83 = cq_I h x 83 := by rw [hE.xI (j := 83) (by decide) (by decide) (by decide), m_drop_x]
  refine bx_X11_open_45 hY (pf1_ok hY) ?_
  simp only [wp_iconst, wp_bipush, wp_sipush, wp_ldc, wp_ldc2_w, wp_lconst0, wp_lconst1, wp_aconst_null, wp_iload_0, wp_istore_0, wp_iload_1, wp_istore_1, wp_iload_2, wp_istore_2, wp_iload_3, wp_istore_3, wp_iload, wp_istore, wp_lload_0, wp_lstore_0, wp_lload_1, wp_lstore_1, wp_lload_2, wp_lstore_2, wp_lload_3, wp_lstore_3, wp_lload, wp_lstore, wp_aload_0, wp_astore_0, wp_aload_1, wp_astore_1, wp_aload_2, wp_astore_2, wp_aload_3, wp_astore_3, wp_aload, wp_astore, wp_iinc, wp_iadd, wp_isub, wp_imul, wp_iand, wp_ior, wp_ixor, wp_ishl, wp_ishr, wp_iushr, wp_irem, wp_ladd, wp_lsub, wp_lmul, wp_land, wp_lor, wp_lxor, wp_lshl, wp_lshr, wp_lushr, wp_lrem, wp_lcmp, wp_i2l, wp_l2i, wp_dupI, wp_dupA, wp_dup2J, wp_dup2IA, wp_popI, wp_popA, wp_pop2, wp_goto, wp_if_eq, wp_icmp_eq, wp_if_ne, wp_icmp_ne, wp_if_lt, wp_icmp_lt, wp_if_ge, wp_icmp_ge, wp_if_gt, wp_icmp_gt, wp_if_le, wp_icmp_le, wp_ifnull, wp_ifnonnull, wp_acmp_eq, wp_acmp_ne, wp_tableswitch, wp_get0, wp_put0, wp_get1, wp_put1, wp_get2, wp_put2, wp_get3, wp_put3, wp_new, wp_newarray, wp_anewarray, wp_alen, wp_iaload, wp_laload, wp_baload, wp_aaload, wp_iastore, wp_lastore, wp_bastore, wp_aastore, wp_return, wp_ireturnI, wp_ireturnZ, wp_lreturn, wp_areturnO, wp_areturnA, wp_max, wp_min, wp_obj, wp_virt, wp_nil, ld_I0, ld_Is, ld_J0, ld_Js, ld_A0, ld_As, ha_0, ha_s, cx_put1, cx_put2, cx_dl, cx_tgt, true_and, and_true, Nat.reduceAdd, Nat.reduceSub, Int.reduceAdd, Int.reduceNeg, Int.reduceToNat, Int.reduceSub, Int.cast_ofNat_Int, List.take_succ_cons, List.take_zero, List.drop_succ_cons, List.drop_zero, List.take_nil, List.drop_nil, Option.toList_some, Option.toList_none, List.cons_append, List.nil_append, wp_spec, ne_eq, Nat.reduceEqDiff, not_false_eq_true, true_or, or_true]
  refine cl_X11_readText (Nat.le_of_ble_eq_true rfl) hSg.1 (Nat.le_refl _) (Nat.le_refl _) (c_X11_readText hY hSg (by omega) (by omega) ?_)
  have hS2 : rS (m_readText g x (cq_J h (x + 56) (20 * s + i))) x := rS_readText hSg
  have hT2 : TI x (m_readText g x (cq_J h (x + 56) (20 * s + i))) N O := TI_readText hTg
  have hE2 := eT_readText (k := cq_J h (x + 56) (20 * s + i)) hE
  unfold m_openK at hfin
  generalize m_readText g x (cq_J h (x + 56) (20 * s + i)) = g2 at hS2 hT2 hE2
  refine bx_X11_open_51 hY (pf1_ok hY) ?_
  simp only [wp_iconst, wp_bipush, wp_sipush, wp_ldc, wp_ldc2_w, wp_lconst0, wp_lconst1, wp_aconst_null, wp_iload_0, wp_istore_0, wp_iload_1, wp_istore_1, wp_iload_2, wp_istore_2, wp_iload_3, wp_istore_3, wp_iload, wp_istore, wp_lload_0, wp_lstore_0, wp_lload_1, wp_lstore_1, wp_lload_2, wp_lstore_2, wp_lload_3, wp_lstore_3, wp_lload, wp_lstore, wp_aload_0, wp_astore_0, wp_aload_1, wp_astore_1, wp_aload_2, wp_astore_2, wp_aload_3, wp_astore_3, wp_aload, wp_astore, wp_iinc, wp_iadd, wp_isub, wp_imul, wp_iand, wp_ior, wp_ixor, wp_ishl, wp_ishr, wp_iushr, wp_irem, wp_ladd, wp_lsub, wp_lmul, wp_land, wp_lor, wp_lxor, wp_lshl, wp_lshr, wp_lushr, wp_lrem, wp_lcmp, wp_i2l, wp_l2i, wp_dupI, wp_dupA, wp_dup2J, wp_dup2IA, wp_popI, wp_popA, wp_pop2, wp_goto, wp_if_eq, wp_icmp_eq, wp_if_ne, wp_icmp_ne, wp_if_lt, wp_icmp_lt, wp_if_ge, wp_icmp_ge, wp_if_gt, wp_icmp_gt, wp_if_le, wp_icmp_le, wp_ifnull, wp_ifnonnull, wp_acmp_eq, wp_acmp_ne, wp_tableswitch, wp_get0, wp_put0, wp_get1, wp_put1, wp_get2, wp_put2, wp_get3, wp_put3, wp_new, wp_newarray, wp_anewarray, wp_alen, wp_iaload, wp_laload, wp_baload, wp_aaload, wp_iastore, wp_lastore, wp_bastore, wp_aastore, wp_return, wp_ireturnI, wp_ireturnZ, wp_lreturn, wp_areturnO, wp_areturnA, wp_max, wp_min, wp_obj, wp_virt, wp_nil, ld_I0, ld_Is, ld_J0, ld_Js, ld_A0, ld_As, ha_0, ha_s, cx_put1, cx_put2, cx_dl, cx_tgt, true_and, and_true, Nat.reduceAdd, Nat.reduceSub, Int.reduceAdd, Int.reduceNeg, Int.reduceToNat, Int.reduceSub, Int.cast_ofNat_Int, List.take_succ_cons, List.take_zero, List.drop_succ_cons, List.drop_zero, List.take_nil, List.drop_nil, Option.toList_some, Option.toList_none, List.cons_append, List.nil_append, wp_spec, ne_eq, Nat.reduceEqDiff, not_false_eq_true, true_or, or_true, rA_goesWith hS2, rs_goesWith hS2, rz_goesWith hS2, ra_148, (hS2).1]
  (repeat' (with_reducible (first | refine And.intro ?_ ?_ | intro _)))
  all_goals (try omega)
  refine hfin _ (eT.sI hE2) ?_
  repeat' (first | with_reducible assumption | with_reducible refine TI.sJ ?_ | (with_reducible refine TI.s2 ?_ ?_ ?_; rotate_left; omega; omega) | (with_reducible refine TI.s10 ?_ ?_ ?_; rotate_left; omega; omega) | (with_reducible refine TI.s33 ?_ ?_ ?_; rotate_left; omega; omega) | (with_reducible refine TI.sF ?_ ?_ ?_ ?_; rotate_left; decide; decide; decide) | (with_reducible refine TI.sT ?_ ?_ ?_; rotate_left; decide; first | exact fun q => absurd q (by decide) | exact fun _ => ⟨by omega, by omega⟩))
