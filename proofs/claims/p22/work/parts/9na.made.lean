/-! the class's objects are made: exactly -/
section
variable {Y : cx_Y} {K : Option cx_V → cx_Q → Prop} {c : Nat} {n L Z : Int} {E : Nat → Option Int} {h0 : cx_Q} {X : List Nat} {h : cx_Q}
theorem tt_b {a s t u f w : Nat} {z : Int} {F : List Int} {g : cx_Q} {k : ArrayType} {pf : cx_Pf} {mF mO : Nat} {ty : Option FieldType} {J : cx_J} {C : cx_Cl} {P : Option cx_V → cx_Q → Prop} {r : List ev_E} {pc : Nat} {lv : cx_L} {bc bs : Nat}
    (Q : PI c n L Z E h0 X h a s F g) (ho : own s ∧ s ≠ 99) (hz : zT n t z) (tm : t ≠ 0 ∧ t ≠ 1 ∧ t ≠ 2 ∧ t ≠ 3 ∧ t ≠ 4 ∧ t ≠ 7 ∧ t ≠ 8 ∧ t ≠ 9 ∧ t ≠ 105 ∧ t ≠ 181) (t5 : t ≠ 5) (st : tyA s f = t) (sp : spA s f = false ∨ (s = 9 ∧ (f : Int) = 1 ∧ cq_I g a 2 = 0) ∨ (s = 5 ∧ (f : Int) = 0)) (hb : 1 ≤ bc) (hbs : 0 ≤ z ∧ z ≤ 60000 ∧ z ≤ (bs : Int))
    (go : ∀ g', PI c n L Z E h0 X h a s ((f : Int) :: F) g' → g' = cq_sA (cq_nw g t z) a f (some g.1) → cx_wp ra0 pf mF mO ty J C P r (pc + 1 + 2 + 2 + 3) (some (.inr (.inr (some a))) :: lv) [] g' (bc - 1) (bs - z.toNat)) (t6 : t ≠ 6 := by decide) : cx_wp ra0 pf mF mO ty J C P ((.aload_n 0, 1, 0, 0, 0) :: (.bipush z, 2, 0, 0, 0) :: (.newarray k, 2, u, t, 0) :: (.putfield w, 3, s, f, 3) :: r) pc (some (.inr (.inr (some a))) :: lv) [] g bc bs := by
  have Q' := Q.st (z := z) ho.1 hz tm.2.2.2.2.1 t5 (um tm) st sp ho.2 t6
  have sx : cq_s (cq_nw g t z) a = s := Q'.2.2.1
  simp only [wp_iconst, wp_bipush, wp_sipush, wp_ldc, wp_ldc2_w, wp_lconst0, wp_lconst1, wp_aconst_null, wp_iload_0, wp_istore_0, wp_iload_1, wp_istore_1, wp_iload_2, wp_istore_2, wp_iload_3, wp_istore_3, wp_iload, wp_istore, wp_lload_0, wp_lstore_0, wp_lload_1, wp_lstore_1, wp_lload_2, wp_lstore_2, wp_lload_3, wp_lstore_3, wp_lload, wp_lstore, wp_aload_0, wp_astore_0, wp_aload_1, wp_astore_1, wp_aload_2, wp_astore_2, wp_aload_3, wp_astore_3, wp_aload, wp_astore, wp_iinc, wp_iadd, wp_isub, wp_imul, wp_iand, wp_ior, wp_ixor, wp_ishl, wp_ishr, wp_iushr, wp_irem, wp_ladd, wp_lsub, wp_lmul, wp_land, wp_lor, wp_lxor, wp_lshl, wp_lshr, wp_lushr, wp_lrem, wp_lcmp, wp_i2l, wp_l2i, wp_dupI, wp_dupA, wp_dup2J, wp_dup2IA, wp_popI, wp_popA, wp_pop2, wp_goto, wp_if_eq, wp_icmp_eq, wp_if_ne, wp_icmp_ne, wp_if_lt, wp_icmp_lt, wp_if_ge, wp_icmp_ge, wp_if_gt, wp_icmp_gt, wp_if_le, wp_icmp_le, wp_ifnull, wp_ifnonnull, wp_acmp_eq, wp_acmp_ne, wp_tableswitch, wp_get0, wp_put0, wp_get1, wp_put1, wp_get2, wp_put2, wp_get3, wp_put3, wp_new, wp_newarray, wp_anewarray, wp_alen, wp_iaload, wp_laload, wp_baload, wp_aaload, wp_iastore, wp_lastore, wp_bastore, wp_aastore, wp_return, wp_ireturnI, wp_ireturnZ, wp_lreturn, wp_areturnO, wp_areturnA, wp_max, wp_min, wp_obj, wp_virt, wp_nil, ld_I0, ld_Is, ld_J0, ld_Js, ld_A0, ld_As, ha_0, ha_s, cx_put1, cx_put2, cx_dl, cx_tgt, true_and, and_true, Nat.reduceAdd, Nat.reduceSub, Int.reduceAdd, Int.reduceNeg, Int.reduceToNat, Int.reduceSub, Int.cast_ofNat_Int, List.take_succ_cons, List.take_zero, List.drop_succ_cons, List.drop_zero, List.take_nil, List.drop_nil, Option.toList_some, Option.toList_none, List.cons_append, List.nil_append, wp_spec, ne_eq, Nat.reduceEqDiff, not_false_eq_true, true_or, or_true, sx]
  exact ⟨⟨hb, hbs⟩, go _ Q' rfl⟩
theorem tt_a {a s t u f w k : Nat} {z : Int} {F : List Int} {g : cx_Q} {pf : cx_Pf} {mF mO : Nat} {ty : Option FieldType} {J : cx_J} {C : cx_Cl} {P : Option cx_V → cx_Q → Prop} {r : List ev_E} {pc : Nat} {lv : cx_L} {bc bs : Nat}
    (Q : PI c n L Z E h0 X h a s F g) (ho : own s ∧ s ≠ 99) (hz : zT n t z) (tm : t ≠ 0 ∧ t ≠ 1 ∧ t ≠ 2 ∧ t ≠ 3 ∧ t ≠ 4 ∧ t ≠ 7 ∧ t ≠ 8 ∧ t ≠ 9 ∧ t ≠ 105 ∧ t ≠ 181) (t5 : t ≠ 5) (st : tyA s f = t) (sp : spA s f = false ∨ (s = 9 ∧ (f : Int) = 1 ∧ cq_I g a 2 = 0) ∨ (s = 5 ∧ (f : Int) = 0)) (hb : 1 ≤ bc) (hbs : 0 ≤ z ∧ z ≤ 60000 ∧ z ≤ (bs : Int))
    (go : ∀ g', PI c n L Z E h0 X h a s ((f : Int) :: F) g' → g' = cq_sA (cq_nw g t z) a f (some g.1) → cx_wp ra0 pf mF mO ty J C P r (pc + 1 + 2 + 3 + 3) (some (.inr (.inr (some a))) :: lv) [] g' (bc - 1) (bs - z.toNat)) (t6 : t ≠ 6 := by decide) : cx_wp ra0 pf mF mO ty J C P ((.aload_n 0, 1, 0, 0, 0) :: (.bipush z, 2, 0, 0, 0) :: (.anewarray k, 3, u, t, 0) :: (.putfield w, 3, s, f, 3) :: r) pc (some (.inr (.inr (some a))) :: lv) [] g bc bs := by
  have Q' := Q.st (z := z) ho.1 hz tm.2.2.2.2.1 t5 (um tm) st sp ho.2 t6
  have sx : cq_s (cq_nw g t z) a = s := Q'.2.2.1
  simp only [wp_iconst, wp_bipush, wp_sipush, wp_ldc, wp_ldc2_w, wp_lconst0, wp_lconst1, wp_aconst_null, wp_iload_0, wp_istore_0, wp_iload_1, wp_istore_1, wp_iload_2, wp_istore_2, wp_iload_3, wp_istore_3, wp_iload, wp_istore, wp_lload_0, wp_lstore_0, wp_lload_1, wp_lstore_1, wp_lload_2, wp_lstore_2, wp_lload_3, wp_lstore_3, wp_lload, wp_lstore, wp_aload_0, wp_astore_0, wp_aload_1, wp_astore_1, wp_aload_2, wp_astore_2, wp_aload_3, wp_astore_3, wp_aload, wp_astore, wp_iinc, wp_iadd, wp_isub, wp_imul, wp_iand, wp_ior, wp_ixor, wp_ishl, wp_ishr, wp_iushr, wp_irem, wp_ladd, wp_lsub, wp_lmul, wp_land, wp_lor, wp_lxor, wp_lshl, wp_lshr, wp_lushr, wp_lrem, wp_lcmp, wp_i2l, wp_l2i, wp_dupI, wp_dupA, wp_dup2J, wp_dup2IA, wp_popI, wp_popA, wp_pop2, wp_goto, wp_if_eq, wp_icmp_eq, wp_if_ne, wp_icmp_ne, wp_if_lt, wp_icmp_lt, wp_if_ge, wp_icmp_ge, wp_if_gt, wp_icmp_gt, wp_if_le, wp_icmp_le, wp_ifnull, wp_ifnonnull, wp_acmp_eq, wp_acmp_ne, wp_tableswitch, wp_get0, wp_put0, wp_get1, wp_put1, wp_get2, wp_put2, wp_get3, wp_put3, wp_new, wp_newarray, wp_anewarray, wp_alen, wp_iaload, wp_laload, wp_baload, wp_aaload, wp_iastore, wp_lastore, wp_bastore, wp_aastore, wp_return, wp_ireturnI, wp_ireturnZ, wp_lreturn, wp_areturnO, wp_areturnA, wp_max, wp_min, wp_obj, wp_virt, wp_nil, ld_I0, ld_Is, ld_J0, ld_Js, ld_A0, ld_As, ha_0, ha_s, cx_put1, cx_put2, cx_dl, cx_tgt, true_and, and_true, Nat.reduceAdd, Nat.reduceSub, Int.reduceAdd, Int.reduceNeg, Int.reduceToNat, Int.reduceSub, Int.cast_ofNat_Int, List.take_succ_cons, List.take_zero, List.drop_succ_cons, List.drop_zero, List.take_nil, List.drop_nil, Option.toList_some, Option.toList_none, List.cons_append, List.nil_append, wp_spec, ne_eq, Nat.reduceEqDiff, not_false_eq_true, true_or, or_true, sx]
  exact ⟨⟨hb, hbs⟩, go _ Q' rfl⟩
theorem e_X0_init (hY : cY Y) {a : Nat} (H : CI c n L Z E h0 (a :: X) h) (hs : cq_s h a = 0) (hK : ∀ h', CI c n L Z E h0 X h' → h' = cq_sA (cq_nw h 100 0) a 0 (some h.1) → K none h') : cw Y mi_X0_init K 0 [some (.inr (.inr (some a)))] [] h 1 0 := by
  obtain ⟨A1, A2, A3, A4⟩ := H.stA (t := 100) (j := 0) (z := 0) hs (own_9 (by decide)) ⟨by decide, by decide⟩ (by decide) (by decide) (fun j q => by unfold muA at q; omega) rfl (Or.inl rfl) (by decide)
  refine bx_X0_init_0 hY (pf2_ok hY) ?_
  simp only [wp_iconst, wp_bipush, wp_sipush, wp_ldc, wp_ldc2_w, wp_lconst0, wp_lconst1, wp_aconst_null, wp_iload_0, wp_istore_0, wp_iload_1, wp_istore_1, wp_iload_2, wp_istore_2, wp_iload_3, wp_istore_3, wp_iload, wp_istore, wp_lload_0, wp_lstore_0, wp_lload_1, wp_lstore_1, wp_lload_2, wp_lstore_2, wp_lload_3, wp_lstore_3, wp_lload, wp_lstore, wp_aload_0, wp_astore_0, wp_aload_1, wp_astore_1, wp_aload_2, wp_astore_2, wp_aload_3, wp_astore_3, wp_aload, wp_astore, wp_iinc, wp_iadd, wp_isub, wp_imul, wp_iand, wp_ior, wp_ixor, wp_ishl, wp_ishr, wp_iushr, wp_irem, wp_ladd, wp_lsub, wp_lmul, wp_land, wp_lor, wp_lxor, wp_lshl, wp_lshr, wp_lushr, wp_lrem, wp_lcmp, wp_i2l, wp_l2i, wp_dupI, wp_dupA, wp_dup2J, wp_dup2IA, wp_popI, wp_popA, wp_pop2, wp_goto, wp_if_eq, wp_icmp_eq, wp_if_ne, wp_icmp_ne, wp_if_lt, wp_icmp_lt, wp_if_ge, wp_icmp_ge, wp_if_gt, wp_icmp_gt, wp_if_le, wp_icmp_le, wp_ifnull, wp_ifnonnull, wp_acmp_eq, wp_acmp_ne, wp_tableswitch, wp_get0, wp_put0, wp_get1, wp_put1, wp_get2, wp_put2, wp_get3, wp_put3, wp_new, wp_newarray, wp_anewarray, wp_alen, wp_iaload, wp_laload, wp_baload, wp_aaload, wp_iastore, wp_lastore, wp_bastore, wp_aastore, wp_return, wp_ireturnI, wp_ireturnZ, wp_lreturn, wp_areturnO, wp_areturnA, wp_max, wp_min, wp_obj, wp_virt, wp_nil, ld_I0, ld_Is, ld_J0, ld_Js, ld_A0, ld_As, ha_0, ha_s, cx_put1, cx_put2, cx_dl, cx_tgt, true_and, and_true, Nat.reduceAdd, Nat.reduceSub, Int.reduceAdd, Int.reduceNeg, Int.reduceToNat, Int.reduceSub, Int.cast_ofNat_Int, List.take_succ_cons, List.take_zero, List.drop_succ_cons, List.drop_zero, List.take_nil, List.drop_nil, Option.toList_some, Option.toList_none, List.cons_append, List.nil_append, wp_spec, ne_eq, Nat.reduceEqDiff, not_false_eq_true, true_or, or_true, wf_X3_mix, wf_X3_key, wf_X3_times, wf_X3_timesModuloQ, wf_X3_power, wf_X3_rest, wf_X3_secretOf, wf_X3_sealSum, wf_X3_sum, wf_X3_letterKey, wf_X3_nextOf, wf_X3_isOpen, wf_X3_veil, wf_X3_sealIsRight, cx_sz, cx_c2, cond_true, cond_false, Nat.reduceLeDiff]
  (repeat' (with_reducible (first | refine And.intro ?_ ?_ | intro _)))
  all_goals (try omega)
  · exact A2.s hs (by decide)
  · refine hK _ (A1.mk (A2.s hs (by decide)) (fun j q => ?_) (fun q => absurd q (by decide))) rfl
    have q' : j = 0 := by unfold muA at q; omega
    rw [q', A3]; exact Option.some_ne_none _
theorem e_X4_init (hY : cY Y) {a : Nat} (H : CI c n L Z E h0 (a :: X) h) (hs : cq_s h a = 3) (hK : ∀ h', CI c n L Z E h0 X h' → h' = cq_sA (cq_nw h 175 10) a 0 (some h.1) → K none h') : cw Y mi_X4_init K 0 [some (.inr (.inr (some a)))] [] h 1 10 := by
  obtain ⟨A1, A2, A3, A4⟩ := H.stA (t := 175) (j := 0) (z := 10) hs (own_9 (by decide)) rfl (by decide) (by decide) (fun j q => by unfold muA at q; omega) rfl (Or.inl rfl) (by decide)
  refine bx_X4_init_0 hY (pf2_ok hY) ?_
  simp only [wp_iconst, wp_bipush, wp_sipush, wp_ldc, wp_ldc2_w, wp_lconst0, wp_lconst1, wp_aconst_null, wp_iload_0, wp_istore_0, wp_iload_1, wp_istore_1, wp_iload_2, wp_istore_2, wp_iload_3, wp_istore_3, wp_iload, wp_istore, wp_lload_0, wp_lstore_0, wp_lload_1, wp_lstore_1, wp_lload_2, wp_lstore_2, wp_lload_3, wp_lstore_3, wp_lload, wp_lstore, wp_aload_0, wp_astore_0, wp_aload_1, wp_astore_1, wp_aload_2, wp_astore_2, wp_aload_3, wp_astore_3, wp_aload, wp_astore, wp_iinc, wp_iadd, wp_isub, wp_imul, wp_iand, wp_ior, wp_ixor, wp_ishl, wp_ishr, wp_iushr, wp_irem, wp_ladd, wp_lsub, wp_lmul, wp_land, wp_lor, wp_lxor, wp_lshl, wp_lshr, wp_lushr, wp_lrem, wp_lcmp, wp_i2l, wp_l2i, wp_dupI, wp_dupA, wp_dup2J, wp_dup2IA, wp_popI, wp_popA, wp_pop2, wp_goto, wp_if_eq, wp_icmp_eq, wp_if_ne, wp_icmp_ne, wp_if_lt, wp_icmp_lt, wp_if_ge, wp_icmp_ge, wp_if_gt, wp_icmp_gt, wp_if_le, wp_icmp_le, wp_ifnull, wp_ifnonnull, wp_acmp_eq, wp_acmp_ne, wp_tableswitch, wp_get0, wp_put0, wp_get1, wp_put1, wp_get2, wp_put2, wp_get3, wp_put3, wp_new, wp_newarray, wp_anewarray, wp_alen, wp_iaload, wp_laload, wp_baload, wp_aaload, wp_iastore, wp_lastore, wp_bastore, wp_aastore, wp_return, wp_ireturnI, wp_ireturnZ, wp_lreturn, wp_areturnO, wp_areturnA, wp_max, wp_min, wp_obj, wp_virt, wp_nil, ld_I0, ld_Is, ld_J0, ld_Js, ld_A0, ld_As, ha_0, ha_s, cx_put1, cx_put2, cx_dl, cx_tgt, true_and, and_true, Nat.reduceAdd, Nat.reduceSub, Int.reduceAdd, Int.reduceNeg, Int.reduceToNat, Int.reduceSub, Int.cast_ofNat_Int, List.take_succ_cons, List.take_zero, List.drop_succ_cons, List.drop_zero, List.take_nil, List.drop_nil, Option.toList_some, Option.toList_none, List.cons_append, List.nil_append, wp_spec, ne_eq, Nat.reduceEqDiff, not_false_eq_true, true_or, or_true, wf_X3_mix, wf_X3_key, wf_X3_times, wf_X3_timesModuloQ, wf_X3_power, wf_X3_rest, wf_X3_secretOf, wf_X3_sealSum, wf_X3_sum, wf_X3_letterKey, wf_X3_nextOf, wf_X3_isOpen, wf_X3_veil, wf_X3_sealIsRight, cx_sz, cx_c2, cond_true, cond_false, Nat.reduceLeDiff]
  (repeat' (with_reducible (first | refine And.intro ?_ ?_ | intro _)))
  all_goals (try omega)
  · exact A2.s hs (by decide)
  · refine hK _ (A1.mk (A2.s hs (by decide)) (fun j q => ?_) (fun q => absurd q (by decide))) rfl
    have q' : j = 0 := by unfold muA at q; omega
    rw [q', A3]; exact Option.some_ne_none _
theorem e_X6_init (hY : cY Y) {a : Nat} (H : CI c n L Z E h0 (a :: X) h) (hs : cq_s h a = 5) (h1 : h.1 = a + 1) (hi : cq_I h a 1 = 0) (hK : ∀ h', CI c n L Z E h0 X h' → h' = cq_sA (cq_nw h 182 4) a 0 (some h.1) → K none h') : cw Y mi_X6_init K 0 [some (.inr (.inr (some a)))] [] h 1 4 := by
  have hal := H.al h.1 (Nat.le_refl _)
  have na : a ≠ h.1 := by omega
  obtain ⟨A1, A2, A3, A4⟩ := H.stA (t := 182) (j := 0) (z := 4) hs (own_9 (by decide)) rfl (by decide) (by decide) (fun j q => by unfold muA at q; omega) rfl (Or.inr (Or.inr ⟨rfl, rfl⟩)) (by decide)
  have i1 : cq_I (cq_sA (cq_nw h 182 4) a 0 (some h.1)) a 1 = 0 := by
    show cq_I (cq_nw h 182 4) a 1 = 0
    rw [(nw_o na).2.2.1]
    exact hi
  refine bx_X6_init_0 hY (pf2_ok hY) ?_
  simp only [wp_iconst, wp_bipush, wp_sipush, wp_ldc, wp_ldc2_w, wp_lconst0, wp_lconst1, wp_aconst_null, wp_iload_0, wp_istore_0, wp_iload_1, wp_istore_1, wp_iload_2, wp_istore_2, wp_iload_3, wp_istore_3, wp_iload, wp_istore, wp_lload_0, wp_lstore_0, wp_lload_1, wp_lstore_1, wp_lload_2, wp_lstore_2, wp_lload_3, wp_lstore_3, wp_lload, wp_lstore, wp_aload_0, wp_astore_0, wp_aload_1, wp_astore_1, wp_aload_2, wp_astore_2, wp_aload_3, wp_astore_3, wp_aload, wp_astore, wp_iinc, wp_iadd, wp_isub, wp_imul, wp_iand, wp_ior, wp_ixor, wp_ishl, wp_ishr, wp_iushr, wp_irem, wp_ladd, wp_lsub, wp_lmul, wp_land, wp_lor, wp_lxor, wp_lshl, wp_lshr, wp_lushr, wp_lrem, wp_lcmp, wp_i2l, wp_l2i, wp_dupI, wp_dupA, wp_dup2J, wp_dup2IA, wp_popI, wp_popA, wp_pop2, wp_goto, wp_if_eq, wp_icmp_eq, wp_if_ne, wp_icmp_ne, wp_if_lt, wp_icmp_lt, wp_if_ge, wp_icmp_ge, wp_if_gt, wp_icmp_gt, wp_if_le, wp_icmp_le, wp_ifnull, wp_ifnonnull, wp_acmp_eq, wp_acmp_ne, wp_tableswitch, wp_get0, wp_put0, wp_get1, wp_put1, wp_get2, wp_put2, wp_get3, wp_put3, wp_new, wp_newarray, wp_anewarray, wp_alen, wp_iaload, wp_laload, wp_baload, wp_aaload, wp_iastore, wp_lastore, wp_bastore, wp_aastore, wp_return, wp_ireturnI, wp_ireturnZ, wp_lreturn, wp_areturnO, wp_areturnA, wp_max, wp_min, wp_obj, wp_virt, wp_nil, ld_I0, ld_Is, ld_J0, ld_Js, ld_A0, ld_As, ha_0, ha_s, cx_put1, cx_put2, cx_dl, cx_tgt, true_and, and_true, Nat.reduceAdd, Nat.reduceSub, Int.reduceAdd, Int.reduceNeg, Int.reduceToNat, Int.reduceSub, Int.cast_ofNat_Int, List.take_succ_cons, List.take_zero, List.drop_succ_cons, List.drop_zero, List.take_nil, List.drop_nil, Option.toList_some, Option.toList_none, List.cons_append, List.nil_append, wp_spec, ne_eq, Nat.reduceEqDiff, not_false_eq_true, true_or, or_true, wf_X3_mix, wf_X3_key, wf_X3_times, wf_X3_timesModuloQ, wf_X3_power, wf_X3_rest, wf_X3_secretOf, wf_X3_sealSum, wf_X3_sum, wf_X3_letterKey, wf_X3_nextOf, wf_X3_isOpen, wf_X3_veil, wf_X3_sealIsRight, cx_sz, cx_c2, cond_true, cond_false, Nat.reduceLeDiff]
  (repeat' (with_reducible (first | refine And.intro ?_ ?_ | intro _)))
  all_goals (try omega)
  · exact A2.s hs (by decide)
  · refine hK _ (A1.mk (A2.s hs (by decide)) (fun j q => ?_) (fun _ => ⟨?_, fun i w1 w2 => ?_⟩)) rfl
    · exfalso; unfold muA at q; omega
    · rw [A3, h1]
    · rw [i1] at w2
      omega
/-- rows of SESSIONS up to i: m their first cell -/
def RWS (b m : Nat) (i : Int) (g : cx_Q) : Prop := ∀ j, 0 ≤ j → j < i → cq_A g b j = some (m + 2 * j.toNat) ∧ cq_s g (m + 2 * j.toNat) = 5 ∧ cq_s g (m + 2 * j.toNat + 1) = 182 ∧ cq_I g (m + 2 * j.toNat) 1 = 0
theorem rws_st {b m : Nat} {i : Int} (i0 : 0 ≤ i) (R : RWS b m i h) (hm : h.1 = m + 2 * i.toNat) (sb : cq_s h b = 181) (al : ∀ a, h.1 ≤ a → cq_s h a = 99) : ev h (cq_sA (cq_nw (cq_nw h 5 0) 182 4) h.1 0 (some (h.1 + 1))) ∧ RWS b m (i + 1) (cq_sA (cq_sA (cq_nw (cq_nw h 5 0) 182 4) h.1 0 (some (h.1 + 1))) b i (some h.1)) := by
  have hal := al h.1 (Nat.le_refl _)
  have hal1 : cq_s (cq_nw h 5 0) (cq_nw h 5 0).1 = 99 := by
    show cq_s (cq_nw h 5 0) (h.1 + 1) = 99
    rw [(nw_o (by omega)).1]
    exact al _ (by omega)
  have e : ev h (cq_sA (cq_nw (cq_nw h 5 0) 182 4) h.1 0 (some (h.1 + 1))) := ((ev.refl.nw hal).nw hal1).fA hal
  refine ⟨e, fun j j0 j1 => ?_⟩
  have nb : ¬ b = h.1 := fun z => by rw [z, hal] at sb; exact absurd sb (by decide)
  have n1 : h.1 ≠ (cq_nw h 5 0).1 := by show h.1 ≠ h.1 + 1; omega
  by_cases w : j = i
  · rw [w]
    have em : m + 2 * i.toNat = h.1 := hm.symm
    rw [em]
    refine ⟨by rw [mm_sA, if_pos ⟨rfl, rfl⟩], ?_, ?_, ?_⟩
    · show cq_s (cq_nw (cq_nw h 5 0) 182 4) h.1 = 5
      rw [(nw_o n1).1, nw_n.1]
    · show cq_s (cq_nw (cq_nw h 5 0) 182 4) (cq_nw h 5 0).1 = 182
      exact nw_n.1
    · show cq_I (cq_nw (cq_nw h 5 0) 182 4) h.1 1 = 0
      rw [(nw_o n1).2.2.1, nw_n.2.2.1]
  · obtain ⟨r1, r2, r3, r4⟩ := R j j0 (by omega)
    refine ⟨?_, e.s r2 (by decide), e.s r3 (by decide), ?_⟩
    · rw [mm_sA, if_neg (fun z => w z.2), e.A sb rfl]
      exact r1
    · show cq_I (cq_sA (cq_nw (cq_nw h 5 0) 182 4) h.1 0 (some (h.1 + 1))) (m + 2 * j.toNat) 1 = 0
      rw [e.I r2 rfl]
      exact r4
theorem ex_rows (hY : cY Y) {a b m : Nat} {v : Int64} (hn : 0 ≤ n ∧ n ≤ 6) : ∀ (r : Nat) (i : Int) (h : cx_Q), 0 ≤ i → i + r = n → CI c n L Z E h0 (b :: a :: X) h → cq_s h a = 4 → cq_s h b = 181 → cq_A h a 13 = some b → h.1 = m + 2 * i.toNat → RWS b m i h → (∀ h', CI c n L Z E h0 (b :: a :: X) h' → evx (fun q => q = b) h h' → h'.1 = m + 2 * n.toNat → RWS b m n h' → (∀ d, d < h.1 → d ≠ b → cq_s h' d = cq_s h d ∧ cq_I h' d = cq_I h d ∧ cq_A h' d = cq_A h d) → K none h') → cw Y mi_X5_init K 62 [some (.inr (.inr (some a))), some (.inr (.inl v)), none, some (.inl n), some (.inl i)] [] h (2 * r) (6 * r)
  | 0, i, h, h1, h2, H, sa, sb, e13, hm, R, hK => by
    have e : i = n := by omega
    subst e
    refine bx_X5_init_62 hY (pf2_ok hY) ?_
    simp only [wp_iconst, wp_bipush, wp_sipush, wp_ldc, wp_ldc2_w, wp_lconst0, wp_lconst1, wp_aconst_null, wp_iload_0, wp_istore_0, wp_iload_1, wp_istore_1, wp_iload_2, wp_istore_2, wp_iload_3, wp_istore_3, wp_iload, wp_istore, wp_lload_0, wp_lstore_0, wp_lload_1, wp_lstore_1, wp_lload_2, wp_lstore_2, wp_lload_3, wp_lstore_3, wp_lload, wp_lstore, wp_aload_0, wp_astore_0, wp_aload_1, wp_astore_1, wp_aload_2, wp_astore_2, wp_aload_3, wp_astore_3, wp_aload, wp_astore, wp_iinc, wp_iadd, wp_isub, wp_imul, wp_iand, wp_ior, wp_ixor, wp_ishl, wp_ishr, wp_iushr, wp_irem, wp_ladd, wp_lsub, wp_lmul, wp_land, wp_lor, wp_lxor, wp_lshl, wp_lshr, wp_lushr, wp_lrem, wp_lcmp, wp_i2l, wp_l2i, wp_dupI, wp_dupA, wp_dup2J, wp_dup2IA, wp_popI, wp_popA, wp_pop2, wp_goto, wp_if_eq, wp_icmp_eq, wp_if_ne, wp_icmp_ne, wp_if_lt, wp_icmp_lt, wp_if_ge, wp_icmp_ge, wp_if_gt, wp_icmp_gt, wp_if_le, wp_icmp_le, wp_ifnull, wp_ifnonnull, wp_acmp_eq, wp_acmp_ne, wp_tableswitch, wp_get0, wp_put0, wp_get1, wp_put1, wp_get2, wp_put2, wp_get3, wp_put3, wp_new, wp_newarray, wp_anewarray, wp_alen, wp_iaload, wp_laload, wp_baload, wp_aaload, wp_iastore, wp_lastore, wp_bastore, wp_aastore, wp_return, wp_ireturnI, wp_ireturnZ, wp_lreturn, wp_areturnO, wp_areturnA, wp_max, wp_min, wp_obj, wp_virt, wp_nil, ld_I0, ld_Is, ld_J0, ld_Js, ld_A0, ld_As, ha_0, ha_s, cx_put1, cx_put2, cx_dl, cx_tgt, true_and, and_true, Nat.reduceAdd, Nat.reduceSub, Int.reduceAdd, Int.reduceNeg, Int.reduceToNat, Int.reduceSub, Int.cast_ofNat_Int, List.take_succ_cons, List.take_zero, List.drop_succ_cons, List.drop_zero, List.take_nil, List.drop_nil, Option.toList_some, Option.toList_none, List.cons_append, List.nil_append, wp_spec, ne_eq, Nat.reduceEqDiff, not_false_eq_true, true_or, or_true, wf_X3_mix, wf_X3_key, wf_X3_times, wf_X3_timesModuloQ, wf_X3_power, wf_X3_rest, wf_X3_secretOf, wf_X3_sealSum, wf_X3_sum, wf_X3_letterKey, wf_X3_nextOf, wf_X3_isOpen, wf_X3_veil, wf_X3_sealIsRight, cx_sz, cx_c2, cond_true, cond_false, Nat.reduceLeDiff]
    refine ⟨fun _ => ?_, fun q => absurd q (by omega)⟩
    refine bx_X5_init_88 hY (pf2_ok hY) ?_
    simp only [wp_iconst, wp_bipush, wp_sipush, wp_ldc, wp_ldc2_w, wp_lconst0, wp_lconst1, wp_aconst_null, wp_iload_0, wp_istore_0, wp_iload_1, wp_istore_1, wp_iload_2, wp_istore_2, wp_iload_3, wp_istore_3, wp_iload, wp_istore, wp_lload_0, wp_lstore_0, wp_lload_1, wp_lstore_1, wp_lload_2, wp_lstore_2, wp_lload_3, wp_lstore_3, wp_lload, wp_lstore, wp_aload_0, wp_astore_0, wp_aload_1, wp_astore_1, wp_aload_2, wp_astore_2, wp_aload_3, wp_astore_3, wp_aload, wp_astore, wp_iinc, wp_iadd, wp_isub, wp_imul, wp_iand, wp_ior, wp_ixor, wp_ishl, wp_ishr, wp_iushr, wp_irem, wp_ladd, wp_lsub, wp_lmul, wp_land, wp_lor, wp_lxor, wp_lshl, wp_lshr, wp_lushr, wp_lrem, wp_lcmp, wp_i2l, wp_l2i, wp_dupI, wp_dupA, wp_dup2J, wp_dup2IA, wp_popI, wp_popA, wp_pop2, wp_goto, wp_if_eq, wp_icmp_eq, wp_if_ne, wp_icmp_ne, wp_if_lt, wp_icmp_lt, wp_if_ge, wp_icmp_ge, wp_if_gt, wp_icmp_gt, wp_if_le, wp_icmp_le, wp_ifnull, wp_ifnonnull, wp_acmp_eq, wp_acmp_ne, wp_tableswitch, wp_get0, wp_put0, wp_get1, wp_put1, wp_get2, wp_put2, wp_get3, wp_put3, wp_new, wp_newarray, wp_anewarray, wp_alen, wp_iaload, wp_laload, wp_baload, wp_aaload, wp_iastore, wp_lastore, wp_bastore, wp_aastore, wp_return, wp_ireturnI, wp_ireturnZ, wp_lreturn, wp_areturnO, wp_areturnA, wp_max, wp_min, wp_obj, wp_virt, wp_nil, ld_I0, ld_Is, ld_J0, ld_Js, ld_A0, ld_As, ha_0, ha_s, cx_put1, cx_put2, cx_dl, cx_tgt, true_and, and_true, Nat.reduceAdd, Nat.reduceSub, Int.reduceAdd, Int.reduceNeg, Int.reduceToNat, Int.reduceSub, Int.cast_ofNat_Int, List.take_succ_cons, List.take_zero, List.drop_succ_cons, List.drop_zero, List.take_nil, List.drop_nil, Option.toList_some, Option.toList_none, List.cons_append, List.nil_append, wp_spec, ne_eq, Nat.reduceEqDiff, not_false_eq_true, true_or, or_true, wf_X3_mix, wf_X3_key, wf_X3_times, wf_X3_timesModuloQ, wf_X3_power, wf_X3_rest, wf_X3_secretOf, wf_X3_sealSum, wf_X3_sum, wf_X3_letterKey, wf_X3_nextOf, wf_X3_isOpen, wf_X3_veil, wf_X3_sealIsRight, cx_sz, cx_c2, cond_true, cond_false, Nat.reduceLeDiff]
    exact hK h H evx.refl hm R (fun _ _ _ => ⟨rfl, rfl, rfl⟩)
  | r + 1, i, h, h1, h2, H, sa, sb, e13, hm, R, hK => by
    have hal := H.al h.1 (Nat.le_refl _)
    refine bx_X5_init_62 hY (pf2_ok hY) ?_
    simp only [wp_iconst, wp_bipush, wp_sipush, wp_ldc, wp_ldc2_w, wp_lconst0, wp_lconst1, wp_aconst_null, wp_iload_0, wp_istore_0, wp_iload_1, wp_istore_1, wp_iload_2, wp_istore_2, wp_iload_3, wp_istore_3, wp_iload, wp_istore, wp_lload_0, wp_lstore_0, wp_lload_1, wp_lstore_1, wp_lload_2, wp_lstore_2, wp_lload_3, wp_lstore_3, wp_lload, wp_lstore, wp_aload_0, wp_astore_0, wp_aload_1, wp_astore_1, wp_aload_2, wp_astore_2, wp_aload_3, wp_astore_3, wp_aload, wp_astore, wp_iinc, wp_iadd, wp_isub, wp_imul, wp_iand, wp_ior, wp_ixor, wp_ishl, wp_ishr, wp_iushr, wp_irem, wp_ladd, wp_lsub, wp_lmul, wp_land, wp_lor, wp_lxor, wp_lshl, wp_lshr, wp_lushr, wp_lrem, wp_lcmp, wp_i2l, wp_l2i, wp_dupI, wp_dupA, wp_dup2J, wp_dup2IA, wp_popI, wp_popA, wp_pop2, wp_goto, wp_if_eq, wp_icmp_eq, wp_if_ne, wp_icmp_ne, wp_if_lt, wp_icmp_lt, wp_if_ge, wp_icmp_ge, wp_if_gt, wp_icmp_gt, wp_if_le, wp_icmp_le, wp_ifnull, wp_ifnonnull, wp_acmp_eq, wp_acmp_ne, wp_tableswitch, wp_get0, wp_put0, wp_get1, wp_put1, wp_get2, wp_put2, wp_get3, wp_put3, wp_new, wp_newarray, wp_anewarray, wp_alen, wp_iaload, wp_laload, wp_baload, wp_aaload, wp_iastore, wp_lastore, wp_bastore, wp_aastore, wp_return, wp_ireturnI, wp_ireturnZ, wp_lreturn, wp_areturnO, wp_areturnA, wp_max, wp_min, wp_obj, wp_virt, wp_nil, ld_I0, ld_Is, ld_J0, ld_Js, ld_A0, ld_As, ha_0, ha_s, cx_put1, cx_put2, cx_dl, cx_tgt, true_and, and_true, Nat.reduceAdd, Nat.reduceSub, Int.reduceAdd, Int.reduceNeg, Int.reduceToNat, Int.reduceSub, Int.cast_ofNat_Int, List.take_succ_cons, List.take_zero, List.drop_succ_cons, List.drop_zero, List.take_nil, List.drop_nil, Option.toList_some, Option.toList_none, List.cons_append, List.nil_append, wp_spec, ne_eq, Nat.reduceEqDiff, not_false_eq_true, true_or, or_true, wf_X3_mix, wf_X3_key, wf_X3_times, wf_X3_timesModuloQ, wf_X3_power, wf_X3_rest, wf_X3_secretOf, wf_X3_sealSum, wf_X3_sum, wf_X3_letterKey, wf_X3_nextOf, wf_X3_isOpen, wf_X3_veil, wf_X3_sealIsRight, cx_sz, cx_c2, cond_true, cond_false, Nat.reduceLeDiff, sa, e13]
    refine ⟨fun q => absurd q (by omega), fun _ => ⟨⟨by omega, by omega⟩, ?_⟩⟩
    have G := H.nw (s := 5) (z := 0) True.intro (fun q => absurd q (by decide))
    obtain ⟨e, R2⟩ := rws_st h1 R hm sb H.al
    refine cl_X6_init (Nat.le_of_ble_eq_true rfl) (by omega) (by omega) (e_X6_init hY G nw_n.1 rfl ?_ ?_)
    · rw [nw_n.2.2.1]
    intro g G2 eg
    have eg' : g = cq_sA (cq_nw (cq_nw h 5 0) 182 4) h.1 0 (some (h.1 + 1)) := eg
    rw [← eg'] at e R2
    have g1 : g.1 = h.1 + 2 := by rw [eg']; rfl
    have sr : cq_s g h.1 = 5 := by
      rw [eg']
      show cq_s (cq_nw (cq_nw h 5 0) 182 4) h.1 = 5
      rw [(nw_o (show h.1 ≠ (cq_nw h 5 0).1 by show h.1 ≠ h.1 + 1; omega)).1, nw_n.1]
    have sb2 : cq_s g b = 181 := e.s sb (by decide)
    have zb : cq_z g b = n := G2.tz sb2
    have G3 : CI c n L Z E h0 (b :: a :: X) (cq_sA g b i (some h.1)) := by
      refine G2.sA sb2 (by unfold own; omega) (fun d q => ?_) (fun q => (nomatch q)) ?_
      · cases q
        rw [sr]
        rfl
      · first | rfl | (unfold spA rlA spA0; simp)
    refine bx_X5_init_81 hY (pf2_ok hY) ?_
    simp only [wp_iconst, wp_bipush, wp_sipush, wp_ldc, wp_ldc2_w, wp_lconst0, wp_lconst1, wp_aconst_null, wp_iload_0, wp_istore_0, wp_iload_1, wp_istore_1, wp_iload_2, wp_istore_2, wp_iload_3, wp_istore_3, wp_iload, wp_istore, wp_lload_0, wp_lstore_0, wp_lload_1, wp_lstore_1, wp_lload_2, wp_lstore_2, wp_lload_3, wp_lstore_3, wp_lload, wp_lstore, wp_aload_0, wp_astore_0, wp_aload_1, wp_astore_1, wp_aload_2, wp_astore_2, wp_aload_3, wp_astore_3, wp_aload, wp_astore, wp_iinc, wp_iadd, wp_isub, wp_imul, wp_iand, wp_ior, wp_ixor, wp_ishl, wp_ishr, wp_iushr, wp_irem, wp_ladd, wp_lsub, wp_lmul, wp_land, wp_lor, wp_lxor, wp_lshl, wp_lshr, wp_lushr, wp_lrem, wp_lcmp, wp_i2l, wp_l2i, wp_dupI, wp_dupA, wp_dup2J, wp_dup2IA, wp_popI, wp_popA, wp_pop2, wp_goto, wp_if_eq, wp_icmp_eq, wp_if_ne, wp_icmp_ne, wp_if_lt, wp_icmp_lt, wp_if_ge, wp_icmp_ge, wp_if_gt, wp_icmp_gt, wp_if_le, wp_icmp_le, wp_ifnull, wp_ifnonnull, wp_acmp_eq, wp_acmp_ne, wp_tableswitch, wp_get0, wp_put0, wp_get1, wp_put1, wp_get2, wp_put2, wp_get3, wp_put3, wp_new, wp_newarray, wp_anewarray, wp_alen, wp_iaload, wp_laload, wp_baload, wp_aaload, wp_iastore, wp_lastore, wp_bastore, wp_aastore, wp_return, wp_ireturnI, wp_ireturnZ, wp_lreturn, wp_areturnO, wp_areturnA, wp_max, wp_min, wp_obj, wp_virt, wp_nil, ld_I0, ld_Is, ld_J0, ld_Js, ld_A0, ld_As, ha_0, ha_s, cx_put1, cx_put2, cx_dl, cx_tgt, true_and, and_true, Nat.reduceAdd, Nat.reduceSub, Int.reduceAdd, Int.reduceNeg, Int.reduceToNat, Int.reduceSub, Int.cast_ofNat_Int, List.take_succ_cons, List.take_zero, List.drop_succ_cons, List.drop_zero, List.take_nil, List.drop_nil, Option.toList_some, Option.toList_none, List.cons_append, List.nil_append, wp_spec, ne_eq, Nat.reduceEqDiff, not_false_eq_true, true_or, or_true, wf_X3_mix, wf_X3_key, wf_X3_times, wf_X3_timesModuloQ, wf_X3_power, wf_X3_rest, wf_X3_secretOf, wf_X3_sealSum, wf_X3_sum, wf_X3_letterKey, wf_X3_nextOf, wf_X3_isOpen, wf_X3_veil, wf_X3_sealIsRight, cx_sz, cx_c2, cond_true, cond_false, Nat.reduceLeDiff, sb2, sr, zb, cx_rg, ra_181]
    (repeat' (with_reducible (first | refine And.intro ?_ ?_ | intro _)))
    all_goals (try omega)
    · exact sr
    rw [show 2 * (r + 1) - 1 - 1 = 2 * r by omega, show 6 * (r + 1) - 2 - 4 = 6 * r by omega]
    have nab : ¬ a = b := fun z => by rw [z, sb] at sa; exact absurd sa (by decide)
    have ka : cq_A (cq_sA g b i (some h.1)) a 13 = some b := by
      rw [mm_sA, if_neg (fun z => nab z.1), e.A sa rfl]
      exact e13
    have lo0 : ∀ d, d < h.1 → d ≠ b → cq_s (cq_sA g b i (some h.1)) d = cq_s h d ∧ cq_I (cq_sA g b i (some h.1)) d = cq_I h d ∧ cq_A (cq_sA g b i (some h.1)) d = cq_A h d := fun d hd db => by
      have n1 := nw_o (h := cq_nw h 5 0) (s := 182) (z := 4) (show d ≠ (cq_nw h 5 0).1 by show d ≠ h.1 + 1; omega)
      have n2 := nw_o (h := h) (s := 5) (z := 0) (show d ≠ h.1 by omega)
      refine ⟨?_, ?_, ?_⟩
      · show cq_s g d = cq_s h d
        rw [eg']
        exact n1.1.trans n2.1
      · show cq_I g d = cq_I h d
        rw [eg']
        exact n1.2.2.1.trans n2.2.2.1
      · funext j
        rw [mm_sA, if_neg (fun z => db z.1), eg', mm_sA, if_neg (fun z => by omega), n1.2.2.2.2, n2.2.2.2.2]
    have ex : evx (fun q => q = b) h (cq_sA g b i (some h.1)) := evx.sA (P := fun q => q = b) e.x rfl
    refine ex_rows hY hn r (i + 1) _ (by omega) (by omega) G3 (e.s sa (by decide)) sb2 ka ?_ R2 (fun h' H' x' m' R' lo => hK h' H' (ex.trans x') m' R' (fun d hd db => by
      obtain ⟨l1, l2, l3⟩ := lo d (by show d < g.1; omega) db
      obtain ⟨k1, k2, k3⟩ := lo0 d hd db
      exact ⟨l1.trans k1, l2.trans k2, l3.trans k3⟩))
    show g.1 = m + 2 * (i + 1).toNat
    omega
end
