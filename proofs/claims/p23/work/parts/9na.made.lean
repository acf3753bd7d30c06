/-! the class's objects are made: exactly -/
section
variable {Y : cx_Y} {K : Option cx_V → cx_Q → Prop} {c : Nat} {n L Z : Int} {E : Nat → Option Int} {h0 : cx_Q} {X : List Nat} {h : cx_Q}
theorem tt_b {a s t u f w : Nat} {z : Int} {F : List Int} {g : cx_Q} {k : ArrayType} {pf : cx_Pf} {mF mO : Nat} {ty : Option FieldType} {J : cx_J} {C : cx_Cl} {P : Option cx_V → cx_Q → Prop} {r : List ev_E} {pc : Nat} {lv : cx_L} {bc bs : Nat}
    (Q : PI c n L Z E h0 X h a s F g) (ho : own s ∧ s ≠ 99) (hz : zT n t z) (tm : t ≠ 0 ∧ t ≠ 1 ∧ t ≠ 2 ∧ t ≠ 3 ∧ t ≠ 4 ∧ t ≠ 7 ∧ t ≠ 8 ∧ t ≠ 9 ∧ t ≠ 105 ∧ t ≠ 181) (t5 : t ≠ 5) (st : tyA s f = t) (sp : spA s f = false ∨ (s = 9 ∧ (f : Int) = 1 ∧ cq_I g a 2 = 0) ∨ (s = 5 ∧ (f : Int) = 0)) (hb : 1 ≤ bc) (hbs : 0 ≤ z ∧ z ≤ 60000 ∧ z ≤ (bs : Int))
    (go : ∀ g', PI c n L Z E h0 X h a s ((f : Int) :: F) g' → g' = cq_sA (cq_nw g t z) a f (some g.1) → cx_wp ra0 pf mF mO ty J C P r (pc + 1 + 2 + 2 + 3) (some (.inr (.inr (some a))) :: lv) [] g' (bc - 1) (bs - z.toNat)) : cx_wp ra0 pf mF mO ty J C P ((.aload_n 0, 1, 0, 0, 0) :: (.bipush z, 2, 0, 0, 0) :: (.newarray k, 2, u, t, 0) :: (.putfield w, 3, s, f, 3) :: r) pc (some (.inr (.inr (some a))) :: lv) [] g bc bs := by
  have Q' := Q.st (z := z) ho.1 hz tm.2.2.2.2.1 t5 (um tm) st sp ho.2
  have sx : cq_s (cq_nw g t z) a = s := Q'.2.2.1
  simp only [wp_iconst, wp_bipush, wp_sipush, wp_ldc, wp_ldc2_w, wp_lconst0, wp_lconst1, wp_aconst_null, wp_iload_0, wp_istore_0, wp_iload_1, wp_istore_1, wp_iload_2, wp_istore_2, wp_iload_3, wp_istore_3, wp_iload, wp_istore, wp_lload_0, wp_lstore_0, wp_lload_1, wp_lstore_1, wp_lload_2, wp_lstore_2, wp_lload_3, wp_lstore_3, wp_lload, wp_lstore, wp_aload_0, wp_astore_0, wp_aload_1, wp_astore_1, wp_aload_2, wp_astore_2, wp_aload_3, wp_astore_3, wp_aload, wp_astore, wp_iinc, wp_iadd, wp_isub, wp_imul, wp_iand, wp_ior, wp_ixor, wp_ishl, wp_ishr, wp_iushr, wp_irem, wp_ladd, wp_lsub, wp_lmul, wp_land, wp_lor, wp_lxor, wp_lshl, wp_lshr, wp_lushr, wp_lrem, wp_lcmp, wp_i2l, wp_l2i, wp_dupI, wp_dupA, wp_dup2J, wp_dup2IA, wp_popI, wp_popA, wp_pop2, wp_goto, wp_if_eq, wp_icmp_eq, wp_if_ne, wp_icmp_ne, wp_if_lt, wp_icmp_lt, wp_if_ge, wp_icmp_ge, wp_if_gt, wp_icmp_gt, wp_if_le, wp_icmp_le, wp_ifnull, wp_ifnonnull, wp_acmp_eq, wp_acmp_ne, wp_tableswitch, wp_get0, wp_put0, wp_get1, wp_put1, wp_get2, wp_put2, wp_get3, wp_put3, wp_new, wp_newarray, wp_anewarray, wp_alen, wp_iaload, wp_laload, wp_baload, wp_aaload, wp_iastore, wp_lastore, wp_bastore, wp_aastore, wp_return, wp_ireturnI, wp_ireturnZ, wp_lreturn, wp_areturnO, wp_areturnA, wp_max, wp_min, wp_obj, wp_virt, wp_nil, ld_I0, ld_Is, ld_J0, ld_Js, ld_A0, ld_As, ha_0, ha_s, cx_put1, cx_put2, cx_dl, cx_tgt, true_and, and_true, Nat.reduceAdd, Nat.reduceSub, Int.reduceAdd, Int.reduceNeg, Int.reduceToNat, Int.reduceSub, Int.cast_ofNat_Int, List.take_succ_cons, List.take_zero, List.drop_succ_cons, List.drop_zero, List.take_nil, List.drop_nil, Option.toList_some, Option.toList_none, List.cons_append, List.nil_append, wp_spec, ne_eq, Nat.reduceEqDiff, not_false_eq_true, true_or, or_true, sx]
  exact ⟨⟨hb, hbs⟩, go _ Q' rfl⟩
theorem tt_a {a s t u f w k : Nat} {z : Int} {F : List Int} {g : cx_Q} {pf : cx_Pf} {mF mO : Nat} {ty : Option FieldType} {J : cx_J} {C : cx_Cl} {P : Option cx_V → cx_Q → Prop} {r : List ev_E} {pc : Nat} {lv : cx_L} {bc bs : Nat}
    (Q : PI c n L Z E h0 X h a s F g) (ho : own s ∧ s ≠ 99) (hz : zT n t z) (tm : t ≠ 0 ∧ t ≠ 1 ∧ t ≠ 2 ∧ t ≠ 3 ∧ t ≠ 4 ∧ t ≠ 7 ∧ t ≠ 8 ∧ t ≠ 9 ∧ t ≠ 105 ∧ t ≠ 181) (t5 : t ≠ 5) (st : tyA s f = t) (sp : spA s f = false ∨ (s = 9 ∧ (f : Int) = 1 ∧ cq_I g a 2 = 0) ∨ (s = 5 ∧ (f : Int) = 0)) (hb : 1 ≤ bc) (hbs : 0 ≤ z ∧ z ≤ 60000 ∧ z ≤ (bs : Int))
    (go : ∀ g', PI c n L Z E h0 X h a s ((f : Int) :: F) g' → g' = cq_sA (cq_nw g t z) a f (some g.1) → cx_wp ra0 pf mF mO ty J C P r (pc + 1 + 2 + 3 + 3) (some (.inr (.inr (some a))) :: lv) [] g' (bc - 1) (bs - z.toNat)) : cx_wp ra0 pf mF mO ty J C P ((.aload_n 0, 1, 0, 0, 0) :: (.bipush z, 2, 0, 0, 0) :: (.anewarray k, 3, u, t, 0) :: (.putfield w, 3, s, f, 3) :: r) pc (some (.inr (.inr (some a))) :: lv) [] g bc bs := by
  have Q' := Q.st (z := z) ho.1 hz tm.2.2.2.2.1 t5 (um tm) st sp ho.2
  have sx : cq_s (cq_nw g t z) a = s := Q'.2.2.1
  simp only [wp_iconst, wp_bipush, wp_sipush, wp_ldc, wp_ldc2_w, wp_lconst0, wp_lconst1, wp_aconst_null, wp_iload_0, wp_istore_0, wp_iload_1, wp_istore_1, wp_iload_2, wp_istore_2, wp_iload_3, wp_istore_3, wp_iload, wp_istore, wp_lload_0, wp_lstore_0, wp_lload_1, wp_lstore_1, wp_lload_2, wp_lstore_2, wp_lload_3, wp_lstore_3, wp_lload, wp_lstore, wp_aload_0, wp_astore_0, wp_aload_1, wp_astore_1, wp_aload_2, wp_astore_2, wp_aload_3, wp_astore_3, wp_aload, wp_astore, wp_iinc, wp_iadd, wp_isub, wp_imul, wp_iand, wp_ior, wp_ixor, wp_ishl, wp_ishr, wp_iushr, wp_irem, wp_ladd, wp_lsub, wp_lmul, wp_land, wp_lor, wp_lxor, wp_lshl, wp_lshr, wp_lushr, wp_lrem, wp_lcmp, wp_i2l, wp_l2i, wp_dupI, wp_dupA, wp_dup2J, wp_dup2IA, wp_popI, wp_popA, wp_pop2, wp_goto, wp_if_eq, wp_icmp_eq, wp_if_ne, wp_icmp_ne, wp_if_lt, wp_icmp_lt, wp_if_ge, wp_icmp_ge, wp_if_gt, wp_icmp_gt, wp_if_le, wp_icmp_le, wp_ifnull, wp_ifnonnull, wp_acmp_eq, wp_acmp_ne, wp_tableswitch, wp_get0, wp_put0, wp_get1, wp_put1, wp_get2, wp_put2, wp_get3, wp_put3, wp_new, wp_newarray, wp_anewarray, wp_alen, wp_iaload, wp_laload, wp_baload, wp_aaload, wp_iastore, wp_lastore, wp_bastore, wp_aastore, wp_return, wp_ireturnI, wp_ireturnZ, wp_lreturn, wp_areturnO, wp_areturnA, wp_max, wp_min, wp_obj, wp_virt, wp_nil, ld_I0, ld_Is, ld_J0, ld_Js, ld_A0, ld_As, ha_0, ha_s, cx_put1, cx_put2, cx_dl, cx_tgt, true_and, and_true, Nat.reduceAdd, Nat.reduceSub, Int.reduceAdd, Int.reduceNeg, Int.reduceToNat, Int.reduceSub, Int.cast_ofNat_Int, List.take_succ_cons, List.take_zero, List.drop_succ_cons, List.drop_zero, List.take_nil, List.drop_nil, Option.toList_some, Option.toList_none, List.cons_append, List.nil_append, wp_spec, ne_eq, Nat.reduceEqDiff, not_false_eq_true, true_or, or_true, sx]
  exact ⟨⟨hb, hbs⟩, go _ Q' rfl⟩
theorem e_X0_init (hY : cY Y) {a : Nat} (H : CI c n L Z E h0 (a :: X) h) (hs : cq_s h a = 0) (hK : ∀ h', CI c n L Z E h0 X h' → h' = cq_sA (cq_nw h 100 0) a 0 (some h.1) → K none h') : cw Y mi_X0_init K 0 [some (.inr (.inr (some a)))] [] h 1 0 := by
  obtain ⟨A1, A2, A3, A4⟩ := H.stA (t := 100) (j := 0) (z := 0) hs (own_9 (by decide)) ⟨by decide, by decide⟩ (by decide) (by decide) (fun j q => by unfold muA at q; omega) rfl (Or.inl rfl) (by decide)
  refine bx_X0_init_0 hY (pf2_ok hY) ?_
  simp only [wp_iconst, wp_bipush, wp_sipush, wp_ldc, wp_ldc2_w, wp_lconst0, wp_lconst1, wp_aconst_null, wp_iload_0, wp_istore_0, wp_iload_1, wp_istore_1, wp_iload_2, wp_istore_2, wp_iload_3, wp_istore_3, wp_iload, wp_istore, wp_lload_0, wp_lstore_0, wp_lload_1, wp_lstore_1, wp_lload_2, wp_lstore_2, wp_lload_3, wp_lstore_3, wp_lload, wp_lstore, wp_aload_0, wp_astore_0, wp_aload_1, wp_astore_1, wp_aload_2, wp_astore_2, wp_aload_3, wp_astore_3, wp_aload, wp_astore, wp_iinc, wp_iadd, wp_isub, wp_imul, wp_iand, wp_ior, wp_ixor, wp_ishl, wp_ishr, wp_iushr, wp_irem, wp_ladd, wp_lsub, wp_lmul, wp_land, wp_lor, wp_lxor, wp_lshl, wp_lshr, wp_lushr, wp_lrem, wp_lcmp, wp_i2l, wp_l2i, wp_dupI, wp_dupA, wp_dup2J, wp_dup2IA, wp_popI, wp_popA, wp_pop2, wp_goto, wp_if_eq, wp_icmp_eq, wp_if_ne, wp_icmp_ne, wp_if_lt, wp_icmp_lt, wp_if_ge, wp_icmp_ge, wp_if_gt, wp_icmp_gt, wp_if_le, wp_icmp_le, wp_ifnull, wp_ifnonnull, wp_acmp_eq, wp_acmp_ne, wp_tableswitch, wp_get0, wp_put0, wp_get1, wp_put1, wp_get2, wp_put2, wp_get3, wp_put3, wp_new, wp_newarray, wp_anewarray, wp_alen, wp_iaload, wp_laload, wp_baload, wp_aaload, wp_iastore, wp_lastore, wp_bastore, wp_aastore, wp_return, wp_ireturnI, wp_ireturnZ, wp_lreturn, wp_areturnO, wp_areturnA, wp_max, wp_min, wp_obj, wp_virt, wp_nil, ld_I0, ld_Is, ld_J0, ld_Js, ld_A0, ld_As, ha_0, ha_s, cx_put1, cx_put2, cx_dl, cx_tgt, true_and, and_true, Nat.reduceAdd, Nat.reduceSub, Int.reduceAdd, Int.reduceNeg, Int.reduceToNat, Int.reduceSub, Int.cast_ofNat_Int, List.take_succ_cons, List.take_zero, List.drop_succ_cons, List.drop_zero, List.take_nil, List.drop_nil, Option.toList_some, Option.toList_none, List.cons_append, List.nil_append, wp_spec, ne_eq, Nat.reduceEqDiff, not_false_eq_true, true_or, or_true, wf_X3_mix, wf_X3_key, wf_X3_times, wf_X3_timesModuloQ, wf_X3_power, wf_X3_rest, wf_X3_secretOf, wf_X3_sealSum, wf_X3_sum, wf_X3_letterKey, wf_X3_nextOf, wf_X3_isOpen, wf_X3_veil, wf_X3_sealIsRight, cx_sz, cx_c2, cond_true, cond_false, Nat.reduceLeDiff]
  (repeat' (with_reducible (first | refine And.intro ?_ ?_ | intro _)))
  all_goals (try omega)
  · exact A2.s hs (by decide)
  · refine hK _ (A1.mk (A2.s hs (by decide)) (fun j q => ?_) (fun q => absurd q (by decide))) rfl
    have q' : j = 0 := by unfold muA at q; omega
    rw [q', A3]; exact Option.some_ne_none _
theorem e_X4_init (hY : cY Y) {a : Nat} (H : CI c n L Z E h0 (a :: X) h) (hs : cq_s h a = 3) (hK : ∀ h', CI c n L Z E h0 X h' → h' = cq_sA (cq_nw h 175 10) a 0 (some h.1) → K none h') : cw Y mi_X4_init K 0 [some (.inr (.inr (some a)))] [] h 1 10 := by
  obtain ⟨A1, A2, A3, A4⟩ := H.stA (t := 175) (j := 0) (z := 10) hs (own_9 (by decide)) rfl (by decide) (by decide) (fun j q => by unfold muA at q; omega) rfl (Or.inl rfl) (by decide)
  refine bx_X4_init_0 hY (pf2_ok hY) ?_
  simp only [wp_iconst, wp_bipush, wp_sipush, wp_ldc, wp_ldc2_w, wp_lconst0, wp_lconst1, wp_aconst_null, wp_iload_0, wp_istore_0, wp_iload_1, wp_istore_1, wp_iload_2, wp_istore_2, wp_iload_3, wp_istore_3, wp_iload, wp_istore, wp_lload_0, wp_lstore_0, wp_lload_1, wp_lstore_1, wp_lload_2, wp_lstore_2, wp_lload_3, wp_lstore_3, wp_lload, wp_lstore, wp_aload_0, wp_astore_0, wp_aload_1, wp_astore_1, wp_aload_2, wp_astore_2, wp_aload_3, wp_astore_3, wp_aload, wp_astore, wp_iinc, wp_iadd, wp_isub, wp_imul, wp_iand, wp_ior, wp_ixor, wp_ishl, wp_ishr, wp_iushr, wp_irem, wp_ladd, wp_lsub, wp_lmul, wp_land, wp_lor, wp_lxor, wp_lshl, wp_lshr, wp_lushr, wp_lrem, wp_lcmp, wp_i2l, wp_l2i, wp_dupI, wp_dupA, wp_dup2J, wp_dup2IA, wp_popI, wp_popA, wp_pop2, wp_goto, wp_if_eq, wp_icmp_eq, wp_if_ne, wp_icmp_ne, wp_if_lt, wp_icmp_lt, wp_if_ge, wp_icmp_ge, wp_if_gt, wp_icmp_gt, wp_if_le, wp_icmp_le, wp_ifnull, wp_ifnonnull, wp_acmp_eq, wp_acmp_ne, wp_tableswitch, wp_get0, wp_put0, wp_get1, wp_put1, wp_get2, wp_put2, wp_get3, wp_put3, wp_new, wp_newarray, wp_anewarray, wp_alen, wp_iaload, wp_laload, wp_baload, wp_aaload, wp_iastore, wp_lastore, wp_bastore, wp_aastore, wp_return, wp_ireturnI, wp_ireturnZ, wp_lreturn, wp_areturnO, wp_areturnA, wp_max, wp_min, wp_obj, wp_virt, wp_nil, ld_I0, ld_Is, ld_J0, ld_Js, ld_A0, ld_As, ha_0, ha_s, cx_put1, cx_put2, cx_dl, cx_tgt, true_and, and_true, Nat.reduceAdd, Nat.reduceSub, Int.reduceAdd, Int.reduceNeg, Int.reduceToNat, Int.reduceSub, Int.cast_ofNat_Int, List.take_succ_cons, List.take_zero, List.drop_succ_cons, List.drop_zero, List.take_nil, List.drop_nil, Option.toList_some, Option.toList_none, List.cons_append, List.nil_append, wp_spec, ne_eq, Nat.reduceEqDiff, not_false_eq_true, true_or, or_true, wf_X3_mix, wf_X3_key, wf_X3_times, wf_X3_timesModuloQ, wf_X3_power, wf_X3_rest, wf_X3_secretOf, wf_X3_sealSum, wf_X3_sum, wf_X3_letterKey, wf_X3_nextOf, wf_X3_isOpen, wf_X3_veil, wf_X3_sealIsRight, cx_sz, cx_c2, cond_true, cond_false, Nat.reduceLeDiff]
  (repeat' (with_reducible (first | refine And.intro ?_ ?_ | intro _)))
  all_goals (try omega)
  · exact A2.s hs (by decide)
  · refine hK _ (A1.mk (A2.s hs (by decide)) (fun j q => ?_) (fun q => absurd q (by decide))) rfl
    have q' : j = 0 := by unfold muA at q; omega
    rw [q', A3]; exact Option.some_ne_none _
theorem e_X6_init (hY : cY Y) {a : Nat} (H : CI c n L Z E h0 (a :: X) h) (hs : cq_s h a = 5) (h1 : h.1 = a + 1) (hi : cq_I h a 1 = 0) (hK : ∀ h', CI c n L Z E h0 X h' → h' = cq_sA (cq_nw h 182 4) a 0 (some h.1) → K none h') : cw Y mi_X6_init K 0 [some (.inr (.inr (some a)))] [] h 1 4 := by
  have hal := H.al h.1 (Nat.le_refl _)
  have na : a ≠ h.1 := by omega
  obtain ⟨A1, A2, A3, A4⟩ := H.stA (t := 182) (j := 0) (z := 4) hs (own_9 (by decide)) rfl (by decide) (by decide) (fun j q => by unfold muA at q; omega) rfl (Or.inr (Or.inr ⟨rfl, rfl⟩)) (by decide)
  have i1 : cq_I (cq_sA (cq_nw h 182 4) a 0 (some h.1)) a 1 = 0 := by
    show cq_I (cq_nw h 182 4) a 1 = 0
    rw [(nw_o na).2.2.1]
    exact hi
  refine bx_X6_init_0 hY (pf2_ok hY) ?_
  simp only [wp_iconst, wp_bipush, wp_sipush, wp_ldc, wp_ldc2_w, wp_lconst0, wp_lconst1, wp_aconst_null, wp_iload_0, wp_istore_0, wp_iload_1, wp_istore_1, wp_iload_2, wp_istore_2, wp_iload_3, wp_istore_3, wp_iload, wp_istore, wp_lload_0, wp_lstore_0, wp_lload_1, wp_lstore_1, wp_lload_2, wp_lstore_2, wp_lload_3, wp_lstore_3, wp_lload, wp_lstore, wp_aload_0, wp_astore_0, wp_aload_1, wp_astore_1, wp_aload_2, wp_astore_2, wp_aload_3, wp_astore_3, wp_aload, wp_astore, wp_iinc, wp_iadd, wp_isub, wp_imul, wp_iand, wp_ior, wp_ixor, wp_ishl, wp_ishr, wp_iushr, wp_irem, wp_ladd, wp_lsub, wp_lmul, wp_land, wp_lor, wp_lxor, wp_lshl, wp_lshr, wp_lushr, wp_lrem, wp_lcmp, wp_i2l, wp_l2i, wp_dupI, wp_dupA, wp_dup2J, wp_dup2IA, wp_popI, wp_popA, wp_pop2, wp_goto, wp_if_eq, wp_icmp_eq, wp_if_ne, wp_icmp_ne, wp_if_lt, wp_icmp_lt, wp_if_ge, wp_icmp_ge, wp_if_gt, wp_icmp_gt, wp_if_le, wp_icmp_le, wp_ifnull, wp_ifnonnull, wp_acmp_eq, wp_acmp_ne, wp_tableswitch, wp_get0, wp_put0, wp_get1, wp_put1, wp_get2, wp_put2, wp_get3, wp_put3, wp_new, wp_newarray, wp_anewarray, wp_alen, wp_iaload, wp_laload, wp_baload, wp_aaload, wp_iastore, wp_lastore, wp_bastore, wp_aastore, wp_return, wp_ireturnI, wp_ireturnZ, wp_lreturn, wp_areturnO, wp_areturnA, wp_max, wp_min, wp_obj, wp_virt, wp_nil, ld_I0, ld_Is, ld_J0, ld_Js, ld_A0, ld_As, ha_0, ha_s, cx_put1, cx_put2, cx_dl, cx_tgt, true_and, and_true, Nat.reduceAdd, Nat.reduceSub, Int.reduceAdd, Int.reduceNeg, Int.reduceToNat, Int.reduceSub, Int.cast_ofNat_Int, List.take_succ_cons, List.take_zero, List.drop_succ_cons, List.drop_zero, List.take_nil, List.drop_nil, Option.toList_some, Option.toList_none, List.cons_append, List.nil_append, wp_spec, ne_eq, Nat.reduceEqDiff, not_false_eq_true, true_or, or_true, wf_X3_mix, wf_X3_key, wf_X3_times, wf_X3_timesModuloQ, wf_X3_power, wf_X3_rest, wf_X3_secretOf, wf_X3_sealSum, wf_X3_sum, wf_X3_letterKey, wf_X3_nextOf, wf_X3_isOpen, wf_X3_veil, wf_X3_sealIsRight, cx_sz, cx_c2, cond_true, cond_false, Nat.reduceLeDiff]
  (repeat' (with_reducible (first | refine And.intro ?_ ?_ | intro _)))
  all_goals (try omega)
  · exact A2.s hs (by decide)
  · refine hK _ (A1.mk (A2.s hs (by decide)) (fun j q => ?_) (fun _ => ⟨?_, fun i w1 w2 => ?_⟩)) rfl
    · exfalso; unfold muA at q; omega
    · rw [A3, h1]
    · rw [i1] at w2
      omega
/-- rows of SESSIONS up to i: m their first cell -/
def RWS (b m : Nat) (i : Int) (g : cx_Q) : Prop := ∀ j, 0 ≤ j → j < i → cq_A g b j = some (m + 2 * j.toNat) ∧ cq_s g (m + 2 * j.toNat) = 5 ∧ cq_s g (m + 2 * j.toNat + 1) = 182 ∧ cq_I g (m + 2 * j.toNat) 1 = 0
theorem rws_st {b m : Nat} {i : Int} (i0 : 0 ≤ i) (R : RWS b m i h) (hm : h.1 = m + 2 * i.toNat) (sb : cq_s h b = 181) (al : ∀ a, h.1 ≤ a → cq_s h a = 99) : ev h (cq_sA (cq_nw (cq_nw h 5 0) 182 4) h.1 0 (some (h.1 + 1))) ∧ RWS b m (i + 1) (cq_sA (cq_sA (cq_nw (cq_nw h 5 0) 182 4) h.1 0 (some (h.1 + 1))) b i (some h.1)) := by
  have hal := al h.1 (Nat.le_refl _)
  have hal1 : cq_s (cq_nw h 5 0) (cq_nw h 5 0).1 = 99 := by
    show cq_s (cq_nw h 5 0) (h.1 + 1) = 99
    rw [(nw_o (by omega)).1]
    exact al _ (by omega)
  have e : ev h (cq_sA (cq_nw (cq_nw h 5 0) 182 4) h.1 0 (some (h.1 + 1))) := ((ev.refl.nw hal).nw hal1).fA hal
  refine ⟨e, fun j j0 j1 => ?_⟩
  have nb : ¬ b = h.1 := fun z => by rw [z, hal] at sb; exact absurd sb (by decide)
  have n1 : h.1 ≠ (cq_nw h 5 0).1 := by show h.1 ≠ h.1 + 1; omega
  by_cases w : j = i
  · rw [w]
    have em : m + 2 * i.toNat = h.1 := hm.symm
    rw [em]
    refine ⟨by rw [mm_sA, if_pos ⟨rfl, rfl⟩], ?_, ?_, ?_⟩
    · show cq_s (cq_nw (cq_nw h 5 0) 182 4) h.1 = 5
      rw [(nw_o n1).1, nw_n.1]
    · show cq_s (cq_nw (cq_nw h 5 0) 182 4) (cq_nw h 5 0).1 = 182
      exact nw_n.1
    · show cq_I (cq_nw (cq_nw h 5 0) 182 4) h.1 1 = 0
      rw [(nw_o n1).2.2.1, nw_n.2.2.1]
  · obtain ⟨r1, r2, r3, r4⟩ := R j j0 (by omega)
    refine ⟨?_, e.s r2 (by decide), e.s r3 (by decide), ?_⟩
    · rw [mm_sA, if_neg (fun z => w z.2), e.A sb rfl]
      exact r1
    · show cq_I (cq_sA (cq_nw (cq_nw h 5 0) 182 4) h.1 0 (some (h.1 + 1))) (m + 2 * j.toNat) 1 = 0
      rw [e.I r2 rfl]
      exact r4
theorem ex_rows (hY : cY Y) {a b m : Nat} {v : Int64} (hn : 0 ≤ n ∧ n ≤ 6) : ∀ (r : Nat) (i : Int) (h : cx_Q), 0 ≤ i → i + r = n → CI c n L Z E h0 (b :: a :: X) h → cq_s h a = 4 → cq_s h b = 181 → cq_A h a 13 = some b → h.1 = m + 2 * i.toNat → RWS b m i h → (∀ h', CI c n L Z E h0 (b :: a :: X) h' → evx (fun q => q = b) h h' → h'.1 = m + 2 * n.toNat → RWS b m n h' → K none h') → cw Y mi_X5_init K 62 [some (.inr (.inr (some a))), some (.inr (.inl v)), none, some (.inl n), some (.inl i)] [] h (2 * r) (6 * r)
  | 0, i, h, h1, h2, H, sa, sb, e13, hm, R, hK => by
    have e : i = n := by omega
    subst e
    refine bx_X5_init_62 hY (pf2_ok hY) ?_
    simp only [wp_iconst, wp_bipush, wp_sipush, wp_ldc, wp_ldc2_w, wp_lconst0, wp_lconst1, wp_aconst_null, wp_iload_0, wp_istore_0, wp_iload_1, wp_istore_1, wp_iload_2, wp_istore_2, wp_iload_3, wp_istore_3, wp_iload, wp_istore, wp_lload_0, wp_lstore_0, wp_lload_1, wp_lstore_1, wp_lload_2, wp_lstore_2, wp_lload_3, wp_lstore_3, wp_lload, wp_lstore, wp_aload_0, wp_astore_0, wp_aload_1, wp_astore_1, wp_aload_2, wp_astore_2, wp_aload_3, wp_astore_3, wp_aload, wp_astore, wp_iinc, wp_iadd, wp_isub, wp_imul, wp_iand, wp_ior, wp_ixor, wp_ishl, wp_ishr, wp_iushr, wp_irem, wp_ladd, wp_lsub, wp_lmul, wp_land, wp_lor, wp_lxor, wp_lshl, wp_lshr, wp_lushr, wp_lrem, wp_lcmp, wp_i2l, wp_l2i, wp_dupI, wp_dupA, wp_dup2J, wp_dup2IA, wp_popI, wp_popA, wp_pop2, wp_goto, wp_if_eq, wp_icmp_eq, wp_if_ne, wp_icmp_ne, wp_if_lt, wp_icmp_lt, wp_if_ge, wp_icmp_ge, wp_if_gt, wp_icmp_gt, wp_if_le, wp_icmp_le, wp_ifnull, wp_ifnonnull, wp_acmp_eq, wp_acmp_ne, wp_tableswitch, wp_get0, wp_put0, wp_get1, wp_put1, wp_get2, wp_put2, wp_get3, wp_put3, wp_new, wp_newarray, wp_anewarray, wp_alen, wp_iaload, wp_laload, wp_baload, wp_aaload, wp_iastore, wp_lastore, wp_bastore, wp_aastore, wp_return, wp_ireturnI, wp_ireturnZ, wp_lreturn, wp_areturnO, wp_areturnA, wp_max, wp_min, wp_obj, wp_virt, wp_nil, ld_I0, ld_Is, ld_J0, ld_Js, ld_A0, ld_As, ha_0, ha_s, cx_put1, cx_put2, cx_dl, cx_tgt, true_and, and_true, Nat.reduceAdd, Nat.reduceSub, Int.reduceAdd, Int.reduceNeg, Int.reduceToNat, Int.reduceSub, Int.cast_ofNat_Int, List.take_succ_cons, List.take_zero, List.drop_succ_cons, List.drop_zero, List.take_nil, List.drop_nil, Option.toList_some, Option.toList_none, List.cons_append, List.nil_append, wp_spec, ne_eq, Nat.reduceEqDiff, not_false_eq_true, true_or, or_true, wf_X3_mix, wf_X3_key, wf_X3_times, wf_X3_timesModuloQ, wf_X3_power, wf_X3_rest, wf_X3_secretOf, wf_X3_sealSum, wf_X3_sum, wf_X3_letterKey, wf_X3_nextOf, wf_X3_isOpen, wf_X3_veil, wf_X3_sealIsRight, cx_sz, cx_c2, cond_true, cond_false, Nat.reduceLeDiff]
    refine ⟨fun _ => ?_, fun q => absurd q (by omega)⟩
    refine bx_X5_init_88 hY (pf2_ok hY) ?_
    simp only [wp_iconst, wp_bipush, wp_sipush, wp_ldc, wp_ldc2_w, wp_lconst0, wp_lconst1, wp_aconst_null, wp_iload_0, wp_istore_0, wp_iload_1, wp_istore_1, wp_iload_2, wp_istore_2, wp_iload_3, wp_istore_3, wp_iload, wp_istore, wp_lload_0, wp_lstore_0, wp_lload_1, wp_lstore_1, wp_lload_2, wp_lstore_2, wp_lload_3, wp_lstore_3, wp_lload, wp_lstore, wp_aload_0, wp_astore_0, wp_aload_1, wp_astore_1, wp_aload_2, wp_astore_2, wp_aload_3, wp_astore_3, wp_aload, wp_astore, wp_iinc, wp_iadd, wp_isub, wp_imul, wp_iand, wp_ior, wp_ixor, wp_ishl, wp_ishr, wp_iushr, wp_irem, wp_ladd, wp_lsub, wp_lmul, wp_land, wp_lor, wp_lxor, wp_lshl, wp_lshr, wp_lushr, wp_lrem, wp_lcmp, wp_i2l, wp_l2i, wp_dupI, wp_dupA, wp_dup2J, wp_dup2IA, wp_popI, wp_popA, wp_pop2, wp_goto, wp_if_eq, wp_icmp_eq, wp_if_ne, wp_icmp_ne, wp_if_lt, wp_icmp_lt, wp_if_ge, wp_icmp_ge, wp_if_gt, wp_icmp_gt, wp_if_le, wp_icmp_le, wp_ifnull, wp_ifnonnull, wp_acmp_eq, wp_acmp_ne, wp_tableswitch, wp_get0, wp_put0, wp_get1, wp_put1, wp_get2, wp_put2, wp_get3, wp_put3, wp_new, wp_newarray, wp_anewarray, wp_alen, wp_iaload, wp_laload, wp_baload, wp_aaload, wp_iastore, wp_lastore, wp_bastore, wp_aastore, wp_return, wp_ireturnI, wp_ireturnZ, wp_lreturn, wp_areturnO, wp_areturnA, wp_max, wp_min, wp_obj, wp_virt, wp_nil, ld_I0, ld_Is, ld_J0, ld_Js, ld_A0, ld_As, ha_0, ha_s, cx_put1, cx_put2, cx_dl, cx_tgt, true_and, and_true, Nat.reduceAdd, Nat.reduceSub, Int.reduceAdd, Int.reduceNeg, Int.reduceToNat, Int.reduceSub, Int.cast_ofNat_Int, List.take_succ_cons, List.take_zero, List.drop_succ_cons, List.drop_zero, List.take_nil, List.drop_nil, Option.toList_some, Option.toList_none, List.cons_append, List.nil_append, wp_spec, ne_eq, Nat.reduceEqDiff, not_false_eq_true, true_or, or_true, wf_X3_mix, wf_X3_key, wf_X3_times, wf_X3_timesModuloQ, wf_X3_power, wf_X3_rest, wf_X3_secretOf, wf_X3_sealSum, wf_X3_sum, wf_X3_letterKey, wf_X3_nextOf, wf_X3_isOpen, wf_X3_veil, wf_X3_sealIsRight, cx_sz, cx_c2, cond_true, cond_false, Nat.reduceLeDiff]
    exact hK h H evx.refl hm R
  | r + 1, i, h, h1, h2, H, sa, sb, e13, hm, R, hK => by
    have hal := H.al h.1 (Nat.le_refl _)
    refine bx_X5_init_62 hY (pf2_ok hY) ?_
    simp only [wp_iconst, wp_bipush, wp_sipush, wp_ldc, wp_ldc2_w, wp_lconst0, wp_lconst1, wp_aconst_null, wp_iload_0, wp_istore_0, wp_iload_1, wp_istore_1, wp_iload_2, wp_istore_2, wp_iload_3, wp_istore_3, wp_iload, wp_istore, wp_lload_0, wp_lstore_0, wp_lload_1, wp_lstore_1, wp_lload_2, wp_lstore_2, wp_lload_3, wp_lstore_3, wp_lload, wp_lstore, wp_aload_0, wp_astore_0, wp_aload_1, wp_astore_1, wp_aload_2, wp_astore_2, wp_aload_3, wp_astore_3, wp_aload, wp_astore, wp_iinc, wp_iadd, wp_isub, wp_imul, wp_iand, wp_ior, wp_ixor, wp_ishl, wp_ishr, wp_iushr, wp_irem, wp_ladd, wp_lsub, wp_lmul, wp_land, wp_lor, wp_lxor, wp_lshl, wp_lshr, wp_lushr, wp_lrem, wp_lcmp, wp_i2l, wp_l2i, wp_dupI, wp_dupA, wp_dup2J, wp_dup2IA, wp_popI, wp_popA, wp_pop2, wp_goto, wp_if_eq, wp_icmp_eq, wp_if_ne, wp_icmp_ne, wp_if_lt, wp_icmp_lt, wp_if_ge, wp_icmp_ge, wp_if_gt, wp_icmp_gt, wp_if_le, wp_icmp_le, wp_ifnull, wp_ifnonnull, wp_acmp_eq, wp_acmp_ne, wp_tableswitch, wp_get0, wp_put0, wp_get1, wp_put1, wp_get2, wp_put2, wp_get3, wp_put3, wp_new, wp_newarray, wp_anewarray, wp_alen, wp_iaload, wp_laload, wp_baload, wp_aaload, wp_iastore, wp_lastore, wp_bastore, wp_aastore, wp_return, wp_ireturnI, wp_ireturnZ, wp_lreturn, wp_areturnO, wp_areturnA, wp_max, wp_min, wp_obj, wp_virt, wp_nil, ld_I0, ld_Is, ld_J0, ld_Js, ld_A0, ld_As, ha_0, ha_s, cx_put1, cx_put2, cx_dl, cx_tgt, true_and, and_true, Nat.reduceAdd, Nat.reduceSub, Int.reduceAdd, Int.reduceNeg, Int.reduceToNat, Int.reduceSub, Int.cast_ofNat_Int, List.take_succ_cons, List.take_zero, List.drop_succ_cons, List.drop_zero, List.take_nil, List.drop_nil, Option.toList_some, Option.toList_none, List.cons_append, List.nil_append, wp_spec, ne_eq, Nat.reduceEqDiff, not_false_eq_true, true_or, or_true, wf_X3_mix, wf_X3_key, wf_X3_times, wf_X3_timesModuloQ, wf_X3_power, wf_X3_rest, wf_X3_secretOf, wf_X3_sealSum, wf_X3_sum, wf_X3_letterKey, wf_X3_nextOf, wf_X3_isOpen, wf_X3_veil, wf_X3_sealIsRight, cx_sz, cx_c2, cond_true, cond_false, Nat.reduceLeDiff, sa, e13]
    refine ⟨fun q => absurd q (by omega), fun _ => ⟨⟨by omega, by omega⟩, ?_⟩⟩
    have G := H.nw (s := 5) (z := 0) True.intro (fun q => absurd q (by decide))
    obtain ⟨e, R2⟩ := rws_st h1 R hm sb H.al
    refine cl_X6_init (Nat.le_of_ble_eq_true rfl) (by omega) (by omega) (e_X6_init hY G nw_n.1 rfl ?_ ?_)
    · rw [nw_n.2.2.1]
    intro g G2 eg
    have eg' : g = cq_sA (cq_nw (cq_nw h 5 0) 182 4) h.1 0 (some (h.1 + 1)) := eg
    rw [← eg'] at e R2
    have g1 : g.1 = h.1 + 2 := by rw [eg']; rfl
    have sr : cq_s g h.1 = 5 := by
      rw [eg']
      show cq_s (cq_nw (cq_nw h 5 0) 182 4) h.1 = 5
      rw [(nw_o (show h.1 ≠ (cq_nw h 5 0).1 by show h.1 ≠ h.1 + 1; omega)).1, nw_n.1]
    have sb2 : cq_s g b = 181 := e.s sb (by decide)
    have zb : cq_z g b = n := G2.tz sb2
    have G3 : CI c n L Z E h0 (b :: a :: X) (cq_sA g b i (some h.1)) := by
      refine G2.sA sb2 (by unfold own; omega) (fun d q => ?_) (fun q => (nomatch q)) ?_
      · cases q
        rw [sr]
        rfl
      · unfold spA
        simp
    refine bx_X5_init_81 hY (pf2_ok hY) ?_
    simp only [wp_iconst, wp_bipush, wp_sipush, wp_ldc, wp_ldc2_w, wp_lconst0, wp_lconst1, wp_aconst_null, wp_iload_0, wp_istore_0, wp_iload_1, wp_istore_1, wp_iload_2, wp_istore_2, wp_iload_3, wp_istore_3, wp_iload, wp_istore, wp_lload_0, wp_lstore_0, wp_lload_1, wp_lstore_1, wp_lload_2, wp_lstore_2, wp_lload_3, wp_lstore_3, wp_lload, wp_lstore, wp_aload_0, wp_astore_0, wp_aload_1, wp_astore_1, wp_aload_2, wp_astore_2, wp_aload_3, wp_astore_3, wp_aload, wp_astore, wp_iinc, wp_iadd, wp_isub, wp_imul, wp_iand, wp_ior, wp_ixor, wp_ishl, wp_ishr, wp_iushr, wp_irem, wp_ladd, wp_lsub, wp_lmul, wp_land, wp_lor, wp_lxor, wp_lshl, wp_lshr, wp_lushr, wp_lrem, wp_lcmp, wp_i2l, wp_l2i, wp_dupI, wp_dupA, wp_dup2J, wp_dup2IA, wp_popI, wp_popA, wp_pop2, wp_goto, wp_if_eq, wp_icmp_eq, wp_if_ne, wp_icmp_ne, wp_if_lt, wp_icmp_lt, wp_if_ge, wp_icmp_ge, wp_if_gt, wp_icmp_gt, wp_if_le, wp_icmp_le, wp_ifnull, wp_ifnonnull, wp_acmp_eq, wp_acmp_ne, wp_tableswitch, wp_get0, wp_put0, wp_get1, wp_put1, wp_get2, wp_put2, wp_get3, wp_put3, wp_new, wp_newarray, wp_anewarray, wp_alen, wp_iaload, wp_laload, wp_baload, wp_aaload, wp_iastore, wp_lastore, wp_bastore, wp_aastore, wp_return, wp_ireturnI, wp_ireturnZ, wp_lreturn, wp_areturnO, wp_areturnA, wp_max, wp_min, wp_obj, wp_virt, wp_nil, ld_I0, ld_Is, ld_J0, ld_Js, ld_A0, ld_As, ha_0, ha_s, cx_put1, cx_put2, cx_dl, cx_tgt, true_and, and_true, Nat.reduceAdd, Nat.reduceSub, Int.reduceAdd, Int.reduceNeg, Int.reduceToNat, Int.reduceSub, Int.cast_ofNat_Int, List.take_succ_cons, List.take_zero, List.drop_succ_cons, List.drop_zero, List.take_nil, List.drop_nil, Option.toList_some, Option.toList_none, List.cons_append, List.nil_append, wp_spec, ne_eq, Nat.reduceEqDiff, not_false_eq_true, true_or, or_true, wf_X3_mix, wf_X3_key, wf_X3_times, wf_X3_timesModuloQ, wf_X3_power, wf_X3_rest, wf_X3_secretOf, wf_X3_sealSum, wf_X3_sum, wf_X3_letterKey, wf_X3_nextOf, wf_X3_isOpen, wf_X3_veil, wf_X3_sealIsRight, cx_sz, cx_c2, cond_true, cond_false, Nat.reduceLeDiff, sb2, sr, zb, cx_rg, ra_181]
    (repeat' (with_reducible (first | refine And.intro ?_ ?_ | intro _)))
    all_goals (try omega)
    · exact sr
    rw [show 2 * (r + 1) - 1 - 1 = 2 * r by omega, show 6 * (r + 1) - 2 - 4 = 6 * r by omega]
    have nab : ¬ a = b := fun z => by rw [z, sb] at sa; exact absurd sa (by decide)
    have ka : cq_A (cq_sA g b i (some h.1)) a 13 = some b := by
      rw [mm_sA, if_neg (fun z => nab z.1), e.A sa rfl]
      exact e13
    have ex : evx (fun q => q = b) h (cq_sA g b i (some h.1)) := evx.sA (P := fun q => q = b) e.x rfl
    refine ex_rows hY hn r (i + 1) _ (by omega) (by omega) G3 (e.s sa (by decide)) sb2 ka ?_ R2 (fun h' H' x' m' R' => hK h' H' (ex.trans x') m' R')
    show g.1 = m + 2 * (i + 1).toNat
    omega
end
/-! a user is made: exactly -/
/-- a user as it is made: a its cell, v its seed -/
def PN (a : Nat) (n : Int) (v : Int64) (g : cx_Q) : Prop := (cq_s g a = 4) ∧ (cq_s g (a + 1) = 176) ∧ (cq_s g (a + 2) = 177) ∧ (cq_s g (a + 3) = 178) ∧ (cq_s g (a + 4) = 179) ∧ (cq_s g (a + 5) = 180) ∧ (cq_s g (a + 6) = 181) ∧ (cq_A g a 8 = some (a + 1)) ∧ (cq_A g a 9 = some (a + 2)) ∧ (cq_A g a 10 = some (a + 3)) ∧ (cq_A g a 14 = some (a + 4)) ∧ (cq_A g a 15 = some (a + 5)) ∧ (cq_A g a 13 = some (a + 6)) ∧ (cq_A g a 3 = none) ∧ (∀ j, cq_I g a j = 0) ∧ (cq_J g a 0 = v) ∧ (∀ j, j ≠ 0 → cq_J g a j = 0) ∧ (∀ j, cq_I g (a + 3) j = 0) ∧ (RWS (a + 6) (a + 7) n g)
theorem PN.s0 {a : Nat} {n : Int} {v : Int64} {g : cx_Q} (F_ : PN a n v g) : cq_s g a = 4 := F_.1
theorem PN.s1 {a : Nat} {n : Int} {v : Int64} {g : cx_Q} (F_ : PN a n v g) : cq_s g (a + 1) = 176 := F_.2.1
theorem PN.s2 {a : Nat} {n : Int} {v : Int64} {g : cx_Q} (F_ : PN a n v g) : cq_s g (a + 2) = 177 := F_.2.2.1
theorem PN.s3 {a : Nat} {n : Int} {v : Int64} {g : cx_Q} (F_ : PN a n v g) : cq_s g (a + 3) = 178 := F_.2.2.2.1
theorem PN.s4 {a : Nat} {n : Int} {v : Int64} {g : cx_Q} (F_ : PN a n v g) : cq_s g (a + 4) = 179 := F_.2.2.2.2.1
theorem PN.s5 {a : Nat} {n : Int} {v : Int64} {g : cx_Q} (F_ : PN a n v g) : cq_s g (a + 5) = 180 := F_.2.2.2.2.2.1
theorem PN.s6 {a : Nat} {n : Int} {v : Int64} {g : cx_Q} (F_ : PN a n v g) : cq_s g (a + 6) = 181 := F_.2.2.2.2.2.2.1
theorem PN.a8 {a : Nat} {n : Int} {v : Int64} {g : cx_Q} (F_ : PN a n v g) : cq_A g a 8 = some (a + 1) := F_.2.2.2.2.2.2.2.1
theorem PN.a9 {a : Nat} {n : Int} {v : Int64} {g : cx_Q} (F_ : PN a n v g) : cq_A g a 9 = some (a + 2) := F_.2.2.2.2.2.2.2.2.1
theorem PN.a10 {a : Nat} {n : Int} {v : Int64} {g : cx_Q} (F_ : PN a n v g) : cq_A g a 10 = some (a + 3) := F_.2.2.2.2.2.2.2.2.2.1
theorem PN.a14 {a : Nat} {n : Int} {v : Int64} {g : cx_Q} (F_ : PN a n v g) : cq_A g a 14 = some (a + 4) := F_.2.2.2.2.2.2.2.2.2.2.1
theorem PN.a15 {a : Nat} {n : Int} {v : Int64} {g : cx_Q} (F_ : PN a n v g) : cq_A g a 15 = some (a + 5) := F_.2.2.2.2.2.2.2.2.2.2.2.1
theorem PN.a13 {a : Nat} {n : Int} {v : Int64} {g : cx_Q} (F_ : PN a n v g) : cq_A g a 13 = some (a + 6) := F_.2.2.2.2.2.2.2.2.2.2.2.2.1
theorem PN.a3 {a : Nat} {n : Int} {v : Int64} {g : cx_Q} (F_ : PN a n v g) : cq_A g a 3 = none := F_.2.2.2.2.2.2.2.2.2.2.2.2.2.1
theorem PN.I0 {a : Nat} {n : Int} {v : Int64} {g : cx_Q} (F_ : PN a n v g) : ∀ j, cq_I g a j = 0 := F_.2.2.2.2.2.2.2.2.2.2.2.2.2.2.1
theorem PN.Jv {a : Nat} {n : Int} {v : Int64} {g : cx_Q} (F_ : PN a n v g) : cq_J g a 0 = v := F_.2.2.2.2.2.2.2.2.2.2.2.2.2.2.2.1
theorem PN.J0 {a : Nat} {n : Int} {v : Int64} {g : cx_Q} (F_ : PN a n v g) : ∀ j, j ≠ 0 → cq_J g a j = 0 := F_.2.2.2.2.2.2.2.2.2.2.2.2.2.2.2.2.1
theorem PN.i3 {a : Nat} {n : Int} {v : Int64} {g : cx_Q} (F_ : PN a n v g) : ∀ j, cq_I g (a + 3) j = 0 := F_.2.2.2.2.2.2.2.2.2.2.2.2.2.2.2.2.2.1
theorem PN.rw_ {a : Nat} {n : Int} {v : Int64} {g : cx_Q} (F_ : PN a n v g) : RWS (a + 6) (a + 7) n g := F_.2.2.2.2.2.2.2.2.2.2.2.2.2.2.2.2.2.2
/-- what is other elsewhere tells nothing of it -/
theorem PN.ex {a : Nat} {n : Int} {v : Int64} {g g' : cx_Q} {P : Nat → Prop} (F : PN a n v g) (e : evx P g g') (h0 : ¬ P a) (hP : ∀ b, P b → cq_s g b = 9 ∨ cq_s g b = 105 ∨ cq_s g b = 4) : PN a n v g' := by
  have np : ∀ {b k : Nat}, cq_s g b = k → (k ≠ 9 ∧ k ≠ 105 ∧ k ≠ 4) → ¬ P b := fun {b k} w1 w2 z => by
    have := hP b z
    omega
  have eA := e.A F.s0 rfl h0
  have eI := e.I F.s0 rfl h0
  have eJ := e.J F.s0 (by decide) h0
  refine ⟨e.s F.s0 (by decide), e.s F.s1 (by decide), e.s F.s2 (by decide), e.s F.s3 (by decide), e.s F.s4 (by decide), e.s F.s5 (by decide), e.s F.s6 (by decide), by rw [eA]; exact F.a8, by rw [eA]; exact F.a9, by rw [eA]; exact F.a10, by rw [eA]; exact F.a14, by rw [eA]; exact F.a15, by rw [eA]; exact F.a13, by rw [eA]; exact F.a3, by rw [eI]; exact F.I0, by rw [eJ]; exact F.Jv, by rw [eJ]; exact F.J0, by rw [e.I F.s3 rfl (np F.s3 (by decide))]; exact F.i3, fun j j0 j1 => ?_⟩
  obtain ⟨r1, r2, r3, r4⟩ := F.rw_ j j0 j1
  exact ⟨by rw [e.A F.s6 rfl (np F.s6 (by decide))]; exact r1, e.s r2 (by decide), e.s r3 (by decide), by rw [e.I r2 rfl (np r2 (by decide))]; exact r4⟩
theorem evx.tn {P Q : Nat → Prop} {h h1 h' : cx_Q} (e : evx P h h1) (f : evx Q h1 h') (w : ∀ b, cq_s h b ≠ 99 → Q b → P b) : evx P h h' := by
  refine ⟨fun a z => ?_, fun a z => ?_, fun a z hP => ?_⟩
  · have e1 := e.1 a z
    have f1 := f.1 a (by rw [e1.1]; exact z)
    exact ⟨f1.1.trans e1.1, f1.2.trans e1.2⟩
  · rw [f.2.1 a ((e.1 a (by rw [z]; decide)).1.trans z), e.2.1 a z]
  · have e1 := (e.1 a z).1
    have e2 := e.2.2 a z hP
    have f2 := f.2.2 a (by rw [e1]; exact z) (fun y => hP (w a z y))
    exact ⟨f2.1.trans e2.1, fun q => (f2.2.1 (by rw [e1]; exact q)).trans (e2.2.1 q), fun q => (f2.2.2 (by rw [e1]; exact q)).trans (e2.2.2 q)⟩
def pfd (q : Nat) : Int := if q = 1 then 8 else if q = 2 then 9 else if q = 3 then 10 else if q = 4 then 14 else if q = 5 then 15 else 0
theorem pfd_inj : ∀ q ≤ 5, ∀ o ≤ 5, 1 ≤ q → q ≠ o → pfd q ≠ pfd o := by decide
theorem pfd_3 : ∀ q ≤ 5, pfd q ≠ 3 := by decide
/-- so many of its arrays are there -/
def PV (h : cx_Q) (a o : Nat) (g : cx_Q) : Prop := (g.1 = a + 1 + o) ∧ (∀ q, 1 ≤ q → q ≤ o → cq_s g (a + q) = 175 + q) ∧ (∀ q, 1 ≤ q → q ≤ o → cq_A g a (pfd q) = some (a + q)) ∧ (∀ q, 1 ≤ q → q ≤ o → ∀ j, cq_I g (a + q) j = 0) ∧ (∀ j, cq_I g a j = 0) ∧ (∀ j, cq_J g a j = 0) ∧ (cq_A g a 3 = none) ∧ (evx (fun b => b = a) h g)
theorem PV.g1 {h : cx_Q} {a o : Nat} {g : cx_Q} (F_ : PV h a o g) : g.1 = a + 1 + o := F_.1
theorem PV.s_ {h : cx_Q} {a o : Nat} {g : cx_Q} (F_ : PV h a o g) : ∀ q, 1 ≤ q → q ≤ o → cq_s g (a + q) = 175 + q := F_.2.1
theorem PV.f_ {h : cx_Q} {a o : Nat} {g : cx_Q} (F_ : PV h a o g) : ∀ q, 1 ≤ q → q ≤ o → cq_A g a (pfd q) = some (a + q) := F_.2.2.1
theorem PV.z_ {h : cx_Q} {a o : Nat} {g : cx_Q} (F_ : PV h a o g) : ∀ q, 1 ≤ q → q ≤ o → ∀ j, cq_I g (a + q) j = 0 := F_.2.2.2.1
theorem PV.I0 {h : cx_Q} {a o : Nat} {g : cx_Q} (F_ : PV h a o g) : ∀ j, cq_I g a j = 0 := F_.2.2.2.2.1
theorem PV.J0 {h : cx_Q} {a o : Nat} {g : cx_Q} (F_ : PV h a o g) : ∀ j, cq_J g a j = 0 := F_.2.2.2.2.2.1
theorem PV.n3 {h : cx_Q} {a o : Nat} {g : cx_Q} (F_ : PV h a o g) : cq_A g a 3 = none := F_.2.2.2.2.2.2.1
theorem PV.ex {h : cx_Q} {a o : Nat} {g : cx_Q} (F_ : PV h a o g) : evx (fun b => b = a) h g := F_.2.2.2.2.2.2.2
theorem PV.st {h g : cx_Q} {a o t : Nat} {z f : Int} (P : PV h a o g) (ho : o < 5) (al : cq_s g g.1 = 99) (ht : t = 176 + o) (hf : f = pfd (o + 1)) : PV h a (o + 1) (cq_sA (cq_nw g t z) a f (some g.1)) := by
  have g1 := P.g1
  have na : a ≠ g.1 := by omega
  have oa := nw_o (h := g) (s := t) (z := z) na
  refine ⟨by show g.1 + 1 = _; omega, fun q q1 q2 => ?_, fun q q1 q2 => ?_, fun q q1 q2 j => ?_, fun j => ?_, fun j => ?_, ?_, evx.sA (P := fun b => b = a) (P.ex.trans (ev.refl.nw al).x) rfl⟩
  · show cq_s (cq_nw g t z) (a + q) = 175 + q
    by_cases w : q = o + 1
    · have e : a + q = g.1 := by omega
      rw [e, nw_n.1, ht]
      omega
    · rw [(nw_o (by omega)).1]
      exact P.s_ q q1 (by omega)
  · by_cases w : q = o + 1
    · have e : a + q = g.1 := by omega
      rw [e, mm_sA, w, hf, if_pos ⟨rfl, rfl⟩]
    · rw [mm_sA, if_neg (fun y => pfd_inj q (by omega) (o + 1) (by omega) q1 w (by rw [← hf]; exact y.2)), oa.2.2.2.2]
      exact P.f_ q q1 (by omega)
  · show cq_I (cq_nw g t z) (a + q) j = 0
    by_cases w : q = o + 1
    · have e : a + q = g.1 := by omega
      rw [e, nw_n.2.2.1]
    · rw [(nw_o (by omega)).2.2.1]
      exact P.z_ q q1 (by omega) j
  · show cq_I (cq_nw g t z) a j = 0
    rw [oa.2.2.1]
    exact P.I0 j
  · show cq_J (cq_nw g t z) a j = 0
    rw [oa.2.2.2.1]
    exact P.J0 j
  · rw [mm_sA, if_neg (fun y => pfd_3 (o + 1) (by omega) (by rw [← hf]; exact y.2.symm)), oa.2.2.2.2]
    exact P.n3
section
variable {Y : cx_Y} {K : Option cx_V → cx_Q → Prop} {c : Nat} {n L Z : Int} {E : Nat → Option Int} {h0 : cx_Q} {X : List Nat} {h : cx_Q}
theorem e_X5_init (hY : cY Y) {a : Nat} {v : Int64} (hn : 2 ≤ n ∧ n ≤ 6) (H : CI c n L Z E h0 (a :: X) h) (hs : cq_s h a = 4) (hm : h.1 = a + 1) (I0 : ∀ j, cq_I h a j = 0) (J0 : ∀ j, cq_J h a j = 0) (A3 : cq_A h a 3 = none) (hK : ∀ h', CI c n L Z E h0 X h' → evx (fun b => b = a) h h' → PN a n v h' → h'.1 = a + 7 + 2 * n.toNat → K none h') : cw Y mi_X5_init K 0 [some (.inr (.inr (some a))), some (.inr (.inl v)), none, some (.inl n), none] [] h 18 385 := by
  have Q0 : PI c n L Z E h0 X h a 4 [] h := ⟨H, kA.refl, hs, fun j q => (nomatch q)⟩
  have P0 : PV h a 0 h := ⟨by omega, fun q q1 q2 => absurd q1 (by omega), fun q q1 q2 => absurd q1 (by omega), fun q q1 q2 => absurd q1 (by omega), I0, J0, A3, evx.refl⟩
  refine bx_X5_init_0 hY (pf2_ok hY) ?_
  refine in_0 (by decide) ?_
  refine tt_a Q0 ⟨own_9 (by decide), by decide⟩ rfl (by decide) (by decide) rfl (Or.inl rfl) (by decide) (by decide) fun g1 Q1 e1 => ?_
  have P1 : PV h a 1 g1 := by rw [e1]; exact P0.st (by decide) (Q0.1.al _ (Nat.le_refl _)) rfl rfl
  refine tt_a Q1 ⟨own_9 (by decide), by decide⟩ rfl (by decide) (by decide) rfl (Or.inl rfl) (by decide) (by decide) fun g2 Q2 e2 => ?_
  have P2 : PV h a 2 g2 := by rw [e2]; exact P1.st (by decide) (Q1.1.al _ (Nat.le_refl _)) rfl rfl
  refine tt_b Q2 ⟨own_9 (by decide), by decide⟩ rfl (by decide) (by decide) rfl (Or.inl rfl) (by decide) (by decide) fun g3 Q3 e3 => ?_
  have P3 : PV h a 3 g3 := by rw [e3]; exact P2.st (by decide) (Q2.1.al _ (Nat.le_refl _)) rfl rfl
  refine tt_b Q3 ⟨own_9 (by decide), by decide⟩ rfl (by decide) (by decide) rfl (Or.inl rfl) (by decide) (by decide) fun g4 Q4 e4 => ?_
  have P4 : PV h a 4 g4 := by rw [e4]; exact P3.st (by decide) (Q3.1.al _ (Nat.le_refl _)) rfl rfl
  refine tt_b Q4 ⟨own_9 (by decide), by decide⟩ rfl (by decide) (by decide) rfl (Or.inl rfl) (by decide) (by decide) fun g5 Q5 e5 => ?_
  have P5 : PV h a 5 g5 := by rw [e5]; exact P4.st (by decide) (Q4.1.al _ (Nat.le_refl _)) rfl rfl
  clear e1 e2 e3 e4 e5 P0 P1 P2 P3 P4 Q0 Q1 Q2 Q3 Q4
  obtain ⟨G, k, sa, nn⟩ := Q5
  have hal := G.al g5.1 (Nat.le_refl _)
  have m5 := P5.g1
  have na : a ≠ g5.1 := fun e => by rw [← e, sa] at hal; exact absurd hal (by decide)
  have G1 : CI c n L Z E h0 (a :: X) (cq_sJ g5 a 0 v) := G.sJ sa (own_9 (by decide))
  have G2 := G1.nw (s := 181) (z := n) rfl (fun q => absurd q (by decide))
  have sa2 : cq_s (cq_nw (cq_sJ g5 a 0 v) 181 n) a = 4 := (nw_o (h := cq_sJ g5 a 0 v) (s := 181) (z := n) na).1.trans sa
  have sb : cq_s (cq_nw (cq_sJ g5 a 0 v) 181 n) g5.1 = 181 := nw_n.1
  have G3 : CI c n L Z E h0 (g5.1 :: a :: X) (cq_sA (cq_nw (cq_sJ g5 a 0 v) 181 n) a 13 (some g5.1)) := G2.sA sa2 (own_9 (by decide)) (fun d q => by cases q; rw [sb]; rfl) (fun q => (nomatch q)) rfl
  -- the memory ahead of its rows
  have oa := nw_o (h := cq_sJ g5 a 0 v) (s := 181) (z := n) na
  have ex6 : evx (fun b => b = a) h (cq_sA (cq_nw (cq_sJ g5 a 0 v) 181 n) a 13 (some g5.1)) := evx.sA (P := fun b => b = a) ((evx.sJ (P := fun b => b = a) P5.ex rfl (by rw [hs]; decide)).trans (ev.refl.nw (h' := cq_sJ g5 a 0 v) hal).x) rfl
  have sq : ∀ q, 1 ≤ q → q ≤ 5 → cq_s (cq_sA (cq_nw (cq_sJ g5 a 0 v) 181 n) a 13 (some g5.1)) (a + q) = 175 + q := fun q q1 q2 => by
    show cq_s (cq_nw (cq_sJ g5 a 0 v) 181 n) (a + q) = 175 + q
    rw [(nw_o (h := cq_sJ g5 a 0 v) (show a + q ≠ g5.1 by omega)).1]
    exact P5.s_ q q1 q2
  have fq : ∀ q, 1 ≤ q → q ≤ 5 → cq_A (cq_sA (cq_nw (cq_sJ g5 a 0 v) 181 n) a 13 (some g5.1)) a (pfd q) = some (a + q) := fun q q1 q2 => by
    have n13 : ∀ q ≤ 5, pfd q ≠ 13 := by decide
    rw [mm_sA, if_neg (fun y => n13 q q2 y.2), oa.2.2.2.2]
    exact P5.f_ q q1 q2
  have f13 : cq_A (cq_sA (cq_nw (cq_sJ g5 a 0 v) 181 n) a 13 (some g5.1)) a 13 = some g5.1 := by rw [mm_sA, if_pos ⟨rfl, rfl⟩]
  have f3 : cq_A (cq_sA (cq_nw (cq_sJ g5 a 0 v) 181 n) a 13 (some g5.1)) a 3 = none := by
    rw [mm_sA, if_neg (fun y => absurd y.2 (by decide)), oa.2.2.2.2]
    exact P5.n3
  have iI : ∀ j, cq_I (cq_sA (cq_nw (cq_sJ g5 a 0 v) 181 n) a 13 (some g5.1)) a j = 0 := fun j => by
    show cq_I (cq_nw (cq_sJ g5 a 0 v) 181 n) a j = 0
    rw [oa.2.2.1]
    exact P5.I0 j
  have iJ : ∀ j, cq_J (cq_sA (cq_nw (cq_sJ g5 a 0 v) 181 n) a 13 (some g5.1)) a j = if j = 0 then v else 0 := fun j => by
    show cq_J (cq_nw (cq_sJ g5 a 0 v) 181 n) a j = _
    rw [oa.2.2.2.1, mm_sJ]
    by_cases w : j = 0
    · rw [if_pos ⟨rfl, w⟩, if_pos w]
    · rw [if_neg (fun y => w y.2), if_neg w]
      exact P5.J0 j
  have i3 : ∀ j, cq_I (cq_sA (cq_nw (cq_sJ g5 a 0 v) 181 n) a 13 (some g5.1)) (a + 3) j = 0 := fun j => by
    show cq_I (cq_nw (cq_sJ g5 a 0 v) 181 n) (a + 3) j = 0
    rw [(nw_o (h := cq_sJ g5 a 0 v) (show a + 3 ≠ g5.1 by omega)).2.2.1]
    exact P5.z_ 3 (by decide) (by decide) j
  have m6 : (cq_sA (cq_nw (cq_sJ g5 a 0 v) 181 n) a 13 (some g5.1)).1 = a + 7 := by
    show g5.1 + 1 = a + 7
    omega
  have e6 : g5.1 = a + 6 := by omega
  have s6 : cq_s (cq_sA (cq_nw (cq_sJ g5 a 0 v) 181 n) a 13 (some g5.1)) g5.1 = 181 := sb
  simp only [wp_iconst, wp_bipush, wp_sipush, wp_ldc, wp_ldc2_w, wp_lconst0, wp_lconst1, wp_aconst_null, wp_iload_0, wp_istore_0, wp_iload_1, wp_istore_1, wp_iload_2, wp_istore_2, wp_iload_3, wp_istore_3, wp_iload, wp_istore, wp_lload_0, wp_lstore_0, wp_lload_1, wp_lstore_1, wp_lload_2, wp_lstore_2, wp_lload_3, wp_lstore_3, wp_lload, wp_lstore, wp_aload_0, wp_astore_0, wp_aload_1, wp_astore_1, wp_aload_2, wp_astore_2, wp_aload_3, wp_astore_3, wp_aload, wp_astore, wp_iinc, wp_iadd, wp_isub, wp_imul, wp_iand, wp_ior, wp_ixor, wp_ishl, wp_ishr, wp_iushr, wp_irem, wp_ladd, wp_lsub, wp_lmul, wp_land, wp_lor, wp_lxor, wp_lshl, wp_lshr, wp_lushr, wp_lrem, wp_lcmp, wp_i2l, wp_l2i, wp_dupI, wp_dupA, wp_dup2J, wp_dup2IA, wp_popI, wp_popA, wp_pop2, wp_goto, wp_if_eq, wp_icmp_eq, wp_if_ne, wp_icmp_ne, wp_if_lt, wp_icmp_lt, wp_if_ge, wp_icmp_ge, wp_if_gt, wp_icmp_gt, wp_if_le, wp_icmp_le, wp_ifnull, wp_ifnonnull, wp_acmp_eq, wp_acmp_ne, wp_tableswitch, wp_get0, wp_put0, wp_get1, wp_put1, wp_get2, wp_put2, wp_get3, wp_put3, wp_new, wp_newarray, wp_anewarray, wp_alen, wp_iaload, wp_laload, wp_baload, wp_aaload, wp_iastore, wp_lastore, wp_bastore, wp_aastore, wp_return, wp_ireturnI, wp_ireturnZ, wp_lreturn, wp_areturnO, wp_areturnA, wp_max, wp_min, wp_obj, wp_virt, wp_nil, ld_I0, ld_Is, ld_J0, ld_Js, ld_A0, ld_As, ha_0, ha_s, cx_put1, cx_put2, cx_dl, cx_tgt, true_and, and_true, Nat.reduceAdd, Nat.reduceSub, Int.reduceAdd, Int.reduceNeg, Int.reduceToNat, Int.reduceSub, Int.cast_ofNat_Int, List.take_succ_cons, List.take_zero, List.drop_succ_cons, List.drop_zero, List.take_nil, List.drop_nil, Option.toList_some, Option.toList_none, List.cons_append, List.nil_append, wp_spec, ne_eq, Nat.reduceEqDiff, not_false_eq_true, true_or, or_true, wf_X3_mix, wf_X3_key, wf_X3_times, wf_X3_timesModuloQ, wf_X3_power, wf_X3_rest, wf_X3_secretOf, wf_X3_sealSum, wf_X3_sum, wf_X3_letterKey, wf_X3_nextOf, wf_X3_isOpen, wf_X3_veil, wf_X3_sealIsRight, cx_sz, cx_c2, cond_true, cond_false, Nat.reduceLeDiff, sa, sa2]
  obtain ⟨g6, hg6⟩ : ∃ g6, g6 = cq_sA (cq_nw (cq_sJ g5 a 0 v) 181 n) a 13 (some g5.1) := ⟨_, rfl⟩
  rw [← hg6] at G3 ex6 sq fq f13 f3 iI iJ i3 m6 s6
  rw [e6] at G3 f13 s6
  have sa6 : cq_s g6 a = 4 := ex6.s hs (by decide)
  have goal : ∀ (r : Nat), (r : Int) = n → cw Y mi_X5_init K 62 [some (.inr (.inr (some a))), some (.inr (.inl v)), none, some (.inl n), some (.inl 0)] [] g6 (2 * r) (6 * r) := by
    intro r hr
    refine ex_rows hY (by omega) (m := a + 7) r 0 g6 (by decide) (by omega) G3 sa6 s6 f13 (by rw [m6]; rfl) (fun j w1 w2 => absurd w1 (by omega)) (fun h' H' x' m' R' => ?_)
    have sb' : cq_s h' (a + 6) = 181 := x'.s s6 (by decide)
    have sa' : cq_s h' a = 4 := x'.s sa6 (by decide)
    have zb : cq_z h' (a + 6) = n := H'.tz sb'
    have na6 : ¬ a = a + 6 := by omega
    have H2 : CI c n L Z E h0 (a :: X) h' := H'.mk sb' (fun j q => by
      obtain ⟨r1, _⟩ := R' j (by unfold muA at q; omega) (by unfold muA at q; omega)
      rw [r1]; exact Option.some_ne_none _) (fun q => absurd q (by decide))
    have eA := x'.A sa6 rfl na6
    have eI := x'.I sa6 rfl na6
    have eJ := x'.J sa6 (by decide) na6
    have f' : ∀ q, 1 ≤ q → q ≤ 5 → cq_A h' a (pfd q) = some (a + q) := fun q q1 q2 => by rw [eA]; exact fq q q1 q2
    have s' : ∀ q, 1 ≤ q → q ≤ 5 → cq_s h' (a + q) = 175 + q := fun q q1 q2 => x'.s (sq q q1 q2) (by omega)
    have PNh : PN a n v h' := ⟨sa', s' 1 (by decide) (by decide), s' 2 (by decide) (by decide), s' 3 (by decide) (by decide), s' 4 (by decide) (by decide), s' 5 (by decide) (by decide), sb', f' 1 (by decide) (by decide), f' 2 (by decide) (by decide), f' 3 (by decide) (by decide), f' 4 (by decide) (by decide), f' 5 (by decide) (by decide), by rw [eA]; exact f13, by rw [eA]; exact f3, by rw [eI]; exact iI, by rw [eJ, iJ, if_pos rfl], fun j w => by rw [eJ, iJ, if_neg w], by rw [x'.I (sq 3 (by decide) (by decide)) rfl (by omega)]; exact i3, R'⟩
    refine hK h' (H2.mk sa' (fun j q => ?_) (fun q => absurd q (by decide))) (ex6.tn x' (fun b w1 w2 => absurd (H.al b (by rw [w2]; omega)) w1)) PNh m'
    · have : j = 8 ∨ j = 9 ∨ j = 10 ∨ j = 13 ∨ j = 14 ∨ j = 15 := by unfold muA at q; omega
      rcases this with rfl | rfl | rfl | rfl | rfl | rfl
      · rw [PNh.a8]; exact Option.some_ne_none _
      · rw [PNh.a9]; exact Option.some_ne_none _
      · rw [PNh.a10]; exact Option.some_ne_none _
      · rw [PNh.a13]; exact Option.some_ne_none _
      · rw [PNh.a14]; exact Option.some_ne_none _
      · rw [PNh.a15]; exact Option.some_ne_none _
  (repeat' (with_reducible (first | refine And.intro ?_ ?_ | intro _)))
  all_goals (try omega)
  have fin := goal n.toNat (by omega)
  rw [hg6] at fin
  exact cw_room (by omega) (by omega) fin
end
/-! the class's object is made: exactly -/
abbrev CT : Type := Int × Nat × Nat
/-- its fields that are there: field, cell, sort -/
def CM (c : Nat) (l : List CT) (g : cx_Q) : Prop := (∀ j, cq_I g c j = 0) ∧ (∀ t ∈ l, cq_A g c t.1 = some t.2.1 ∧ cq_s g t.2.1 = t.2.2 ∧ t.2.2 ≠ 99)
theorem CM.i0 {c : Nat} {l : List CT} {g : cx_Q} (F_ : CM c l g) : ∀ j, cq_I g c j = 0 := F_.1
theorem CM.f_ {c : Nat} {l : List CT} {g : cx_Q} (F_ : CM c l g) : ∀ t ∈ l, cq_A g c t.1 = some t.2.1 ∧ cq_s g t.2.1 = t.2.2 ∧ t.2.2 ≠ 99 := F_.2
section
variable {c : Nat} {l : List CT} {g g' : cx_Q} {P : Nat → Prop}
theorem CM.ex (M : CM c l g) (sc : cq_s g c = 9) (e : evx P g g') (nc : ¬ P c) : CM c l g' := by
  refine ⟨fun j => by rw [e.I sc rfl nc]; exact M.i0 j, fun t ht => ?_⟩
  obtain ⟨q1, q2, q3⟩ := M.f_ t ht
  exact ⟨by rw [e.A sc rfl nc]; exact q1, e.s q2 q3, q3⟩
theorem CM.ev (M : CM c l g) (sc : cq_s g c = 9) (e : ev g g') : CM c l g' := M.ex (P := fun _ => False) sc e.x id
theorem CM.sf {b s : Nat} {f : Int} (M : CM c l g) (sb : cq_s g b = s) (s9 : s ≠ 99) (nf : ∀ t ∈ l, t.1 ≠ f) : CM c ((f, b, s) :: l) (cq_sA g c f (some b)) := by
  refine ⟨M.i0, fun t ht => ?_⟩
  rcases List.mem_cons.mp ht with e | e
  · rw [e]
    exact ⟨by rw [mm_sA, if_pos ⟨rfl, rfl⟩], sb, s9⟩
  · obtain ⟨q1, q2, q3⟩ := M.f_ t e
    exact ⟨by rw [mm_sA, if_neg (fun y => nf t e y.2)]; exact q1, q2, q3⟩
theorem CM.ar {t : Nat} {z f : Int} (M : CM c l g) (sc : cq_s g c = 9) (al : cq_s g g.1 = 99) (t9 : t ≠ 99) (nf : ∀ y ∈ l, y.1 ≠ f) : CM c ((f, g.1, t) :: l) (cq_sA (cq_nw g t z) c f (some g.1)) := (M.ev sc (ev.refl.nw al)).sf nw_n.1 t9 nf
end
section
variable {Y : cx_Y} {K : Option cx_V → cx_Q → Prop} {c : Nat} {n L Z : Int} {h0 : cx_Q} {h : cx_Q}
/-- users that are there: b their row, q their cells, w the seed -/
def USR (b : Nat) (n w i : Int) (q : Int → Nat) (g : cx_Q) : Prop := (∀ u, 0 ≤ u → u < i → cq_A g b u = some (q u) ∧ PN (q u) n (Int64.ofInt w + Int64.ofInt u) g ∧ q u + 7 + 2 * n.toNat ≤ g.1) ∧ ∀ u u', 0 ≤ u → u < u' → u' < i → q u + 7 + 2 * n.toNat ≤ q u'
theorem ex_po (hY : cY Y) {b : Nat} {v w : Int} (hn : 2 ≤ n ∧ n ≤ 6) : ∀ (r : Nat) (i : Int) (g : cx_Q) (q : Int → Nat), 0 ≤ i → i + r = n → CI c n L Z E0 h0 [c, b] g → cq_s g b = 105 → cq_A g c 0 = some b → USR b n w i q g → (∀ g' q', CI c n L Z E0 h0 [c, b] g' → evx (fun d => d = b) g g' → USR b n w n q' g' → cw Y mi_X10_init K 122 [some (.inr (.inr (some c))), some (.inl v), some (.inl w), some (.inl n), some (.inl n)] [] g' 0 0) → cw Y mi_X10_init K 89 [some (.inr (.inr (some c))), some (.inl v), some (.inl w), some (.inl n), some (.inl i)] [] g (19 * r) (402 * r)
  | 0, i, g, q, h1, h2, H, sb, e0, S, hK => by
    have e : i = n := by omega
    subst e
    refine bx_X10_init_89 hY (pf2_ok hY) ?_
    simp only [wp_iconst, wp_bipush, wp_sipush, wp_ldc, wp_ldc2_w, wp_lconst0, wp_lconst1, wp_aconst_null, wp_iload_0, wp_istore_0, wp_iload_1, wp_istore_1, wp_iload_2, wp_istore_2, wp_iload_3, wp_istore_3, wp_iload, wp_istore, wp_lload_0, wp_lstore_0, wp_lload_1, wp_lstore_1, wp_lload_2, wp_lstore_2, wp_lload_3, wp_lstore_3, wp_lload, wp_lstore, wp_aload_0, wp_astore_0, wp_aload_1, wp_astore_1, wp_aload_2, wp_astore_2, wp_aload_3, wp_astore_3, wp_aload, wp_astore, wp_iinc, wp_iadd, wp_isub, wp_imul, wp_iand, wp_ior, wp_ixor, wp_ishl, wp_ishr, wp_iushr, wp_irem, wp_ladd, wp_lsub, wp_lmul, wp_land, wp_lor, wp_lxor, wp_lshl, wp_lshr, wp_lushr, wp_lrem, wp_lcmp, wp_i2l, wp_l2i, wp_dupI, wp_dupA, wp_dup2J, wp_dup2IA, wp_popI, wp_popA, wp_pop2, wp_goto, wp_if_eq, wp_icmp_eq, wp_if_ne, wp_icmp_ne, wp_if_lt, wp_icmp_lt, wp_if_ge, wp_icmp_ge, wp_if_gt, wp_icmp_gt, wp_if_le, wp_icmp_le, wp_ifnull, wp_ifnonnull, wp_acmp_eq, wp_acmp_ne, wp_tableswitch, wp_get0, wp_put0, wp_get1, wp_put1, wp_get2, wp_put2, wp_get3, wp_put3, wp_new, wp_newarray, wp_anewarray, wp_alen, wp_iaload, wp_laload, wp_baload, wp_aaload, wp_iastore, wp_lastore, wp_bastore, wp_aastore, wp_return, wp_ireturnI, wp_ireturnZ, wp_lreturn, wp_areturnO, wp_areturnA, wp_max, wp_min, wp_obj, wp_virt, wp_nil, ld_I0, ld_Is, ld_J0, ld_Js, ld_A0, ld_As, ha_0, ha_s, cx_put1, cx_put2, cx_dl, cx_tgt, true_and, and_true, Nat.reduceAdd, Nat.reduceSub, Int.reduceAdd, Int.reduceNeg, Int.reduceToNat, Int.reduceSub, Int.cast_ofNat_Int, List.take_succ_cons, List.take_zero, List.drop_succ_cons, List.drop_zero, List.take_nil, List.drop_nil, Option.toList_some, Option.toList_none, List.cons_append, List.nil_append, wp_spec, ne_eq, Nat.reduceEqDiff, not_false_eq_true, true_or, or_true, wf_X3_mix, wf_X3_key, wf_X3_times, wf_X3_timesModuloQ, wf_X3_power, wf_X3_rest, wf_X3_secretOf, wf_X3_sealSum, wf_X3_sum, wf_X3_letterKey, wf_X3_nextOf, wf_X3_isOpen, wf_X3_veil, wf_X3_sealIsRight, cx_sz, cx_c2, cond_true, cond_false, Nat.reduceLeDiff]
    exact ⟨fun _ => hK g q H evx.refl S, fun q => absurd q (by omega)⟩
  | r + 1, i, g, q, h1, h2, H, sb, e0, S, hK => by
    have hc := H.cs
    have hal := H.al g.1 (Nat.le_refl _)
    have nb : b ≠ g.1 := fun e => by rw [← e, sb] at hal; exact absurd hal (by decide)
    have nc : c ≠ g.1 := fun e => by rw [← e, hc] at hal; exact absurd hal (by decide)
    have cb : c ≠ b := fun e => by rw [e, sb] at hc; exact absurd hc (by decide)
    refine bx_X10_init_89 hY (pf2_ok hY) ?_
    simp only [wp_iconst, wp_bipush, wp_sipush, wp_ldc, wp_ldc2_w, wp_lconst0, wp_lconst1, wp_aconst_null, wp_iload_0, wp_istore_0, wp_iload_1, wp_istore_1, wp_iload_2, wp_istore_2, wp_iload_3, wp_istore_3, wp_iload, wp_istore, wp_lload_0, wp_lstore_0, wp_lload_1, wp_lstore_1, wp_lload_2, wp_lstore_2, wp_lload_3, wp_lstore_3, wp_lload, wp_lstore, wp_aload_0, wp_astore_0, wp_aload_1, wp_astore_1, wp_aload_2, wp_astore_2, wp_aload_3, wp_astore_3, wp_aload, wp_astore, wp_iinc, wp_iadd, wp_isub, wp_imul, wp_iand, wp_ior, wp_ixor, wp_ishl, wp_ishr, wp_iushr, wp_irem, wp_ladd, wp_lsub, wp_lmul, wp_land, wp_lor, wp_lxor, wp_lshl, wp_lshr, wp_lushr, wp_lrem, wp_lcmp, wp_i2l, wp_l2i, wp_dupI, wp_dupA, wp_dup2J, wp_dup2IA, wp_popI, wp_popA, wp_pop2, wp_goto, wp_if_eq, wp_icmp_eq, wp_if_ne, wp_icmp_ne, wp_if_lt, wp_icmp_lt, wp_if_ge, wp_icmp_ge, wp_if_gt, wp_icmp_gt, wp_if_le, wp_icmp_le, wp_ifnull, wp_ifnonnull, wp_acmp_eq, wp_acmp_ne, wp_tableswitch, wp_get0, wp_put0, wp_get1, wp_put1, wp_get2, wp_put2, wp_get3, wp_put3, wp_new, wp_newarray, wp_anewarray, wp_alen, wp_iaload, wp_laload, wp_baload, wp_aaload, wp_iastore, wp_lastore, wp_bastore, wp_aastore, wp_return, wp_ireturnI, wp_ireturnZ, wp_lreturn, wp_areturnO, wp_areturnA, wp_max, wp_min, wp_obj, wp_virt, wp_nil, ld_I0, ld_Is, ld_J0, ld_Js, ld_A0, ld_As, ha_0, ha_s, cx_put1, cx_put2, cx_dl, cx_tgt, true_and, and_true, Nat.reduceAdd, Nat.reduceSub, Int.reduceAdd, Int.reduceNeg, Int.reduceToNat, Int.reduceSub, Int.cast_ofNat_Int, List.take_succ_cons, List.take_zero, List.drop_succ_cons, List.drop_zero, List.take_nil, List.drop_nil, Option.toList_some, Option.toList_none, List.cons_append, List.nil_append, wp_spec, ne_eq, Nat.reduceEqDiff, not_false_eq_true, true_or, or_true, wf_X3_mix, wf_X3_key, wf_X3_times, wf_X3_timesModuloQ, wf_X3_power, wf_X3_rest, wf_X3_secretOf, wf_X3_sealSum, wf_X3_sum, wf_X3_letterKey, wf_X3_nextOf, wf_X3_isOpen, wf_X3_veil, wf_X3_sealIsRight, cx_sz, cx_c2, cond_true, cond_false, Nat.reduceLeDiff, hc, e0]
    refine ⟨fun q => absurd q (by omega), fun _ => ⟨⟨by omega, by omega⟩, ?_⟩⟩
    have G := H.nw (s := 4) (z := 0) True.intro (fun _ => rfl)
    obtain ⟨t0, _, tI, tJ, tA⟩ := nw_n (h := g) (s := 4) (z := 0)
    refine cl_X5_init (Nat.le_of_ble_eq_true rfl) (by omega) (by omega) (e_X5_init hY hn G t0 rfl (fun j => by rw [tI]) (fun j => by rw [tJ]) (by rw [tA]) (fun g2 G2 x2 N2 m2 => ?_))
    have xe : evx (fun _ => False) g g2 := (ev.refl.nw hal).x.tn x2 (fun d w1 w2 => by rw [w2] at w1; exact w1 hal)
    have sb2 : cq_s g2 b = 105 := xe.s sb (by decide)
    have zb : cq_z g2 b = n := G2.tz sb2
    have s4 := N2.s0
    have G3 : CI c n L Z E0 h0 [c, b] (cq_sA g2 b i (some g.1)) := by
      refine G2.sA sb2 (by unfold own; omega) (fun d q => ?_) (fun q => (nomatch q)) ?_
      · cases q
        rw [s4]
        rfl
      · unfold spA
        simp
    refine bx_X10_init_115 hY (pf2_ok hY) ?_
    simp only [wp_iconst, wp_bipush, wp_sipush, wp_ldc, wp_ldc2_w, wp_lconst0, wp_lconst1, wp_aconst_null, wp_iload_0, wp_istore_0, wp_iload_1, wp_istore_1, wp_iload_2, wp_istore_2, wp_iload_3, wp_istore_3, wp_iload, wp_istore, wp_lload_0, wp_lstore_0, wp_lload_1, wp_lstore_1, wp_lload_2, wp_lstore_2, wp_lload_3, wp_lstore_3, wp_lload, wp_lstore, wp_aload_0, wp_astore_0, wp_aload_1, wp_astore_1, wp_aload_2, wp_astore_2, wp_aload_3, wp_astore_3, wp_aload, wp_astore, wp_iinc, wp_iadd, wp_isub, wp_imul, wp_iand, wp_ior, wp_ixor, wp_ishl, wp_ishr, wp_iushr, wp_irem, wp_ladd, wp_lsub, wp_lmul, wp_land, wp_lor, wp_lxor, wp_lshl, wp_lshr, wp_lushr, wp_lrem, wp_lcmp, wp_i2l, wp_l2i, wp_dupI, wp_dupA, wp_dup2J, wp_dup2IA, wp_popI, wp_popA, wp_pop2, wp_goto, wp_if_eq, wp_icmp_eq, wp_if_ne, wp_icmp_ne, wp_if_lt, wp_icmp_lt, wp_if_ge, wp_icmp_ge, wp_if_gt, wp_icmp_gt, wp_if_le, wp_icmp_le, wp_ifnull, wp_ifnonnull, wp_acmp_eq, wp_acmp_ne, wp_tableswitch, wp_get0, wp_put0, wp_get1, wp_put1, wp_get2, wp_put2, wp_get3, wp_put3, wp_new, wp_newarray, wp_anewarray, wp_alen, wp_iaload, wp_laload, wp_baload, wp_aaload, wp_iastore, wp_lastore, wp_bastore, wp_aastore, wp_return, wp_ireturnI, wp_ireturnZ, wp_lreturn, wp_areturnO, wp_areturnA, wp_max, wp_min, wp_obj, wp_virt, wp_nil, ld_I0, ld_Is, ld_J0, ld_Js, ld_A0, ld_As, ha_0, ha_s, cx_put1, cx_put2, cx_dl, cx_tgt, true_and, and_true, Nat.reduceAdd, Nat.reduceSub, Int.reduceAdd, Int.reduceNeg, Int.reduceToNat, Int.reduceSub, Int.cast_ofNat_Int, List.take_succ_cons, List.take_zero, List.drop_succ_cons, List.drop_zero, List.take_nil, List.drop_nil, Option.toList_some, Option.toList_none, List.cons_append, List.nil_append, wp_spec, ne_eq, Nat.reduceEqDiff, not_false_eq_true, true_or, or_true, wf_X3_mix, wf_X3_key, wf_X3_times, wf_X3_timesModuloQ, wf_X3_power, wf_X3_rest, wf_X3_secretOf, wf_X3_sealSum, wf_X3_sum, wf_X3_letterKey, wf_X3_nextOf, wf_X3_isOpen, wf_X3_veil, wf_X3_sealIsRight, cx_sz, cx_c2, cond_true, cond_false, Nat.reduceLeDiff, sb2, s4, zb, cx_rg, ra_105]
    (repeat' (with_reducible (first | refine And.intro ?_ ?_ | intro _)))
    all_goals (try omega)
    · exact s4
    rw [show 19 * (r + 1) - 1 - 18 = 19 * r by omega, show 402 * (r + 1) - 17 - 385 = 402 * r by omega]
    have xb : evx (fun d => d = b) g2 (cq_sA g2 b i (some g.1)) := evx.sA (P := fun d => d = b) evx.refl rfl
    have x3 : evx (fun d => d = b) g (cq_sA g2 b i (some g.1)) := (xe.mono (fun _ z => z.elim)).trans xb
    have e0' : cq_A (cq_sA g2 b i (some g.1)) c 0 = some b := by
      rw [mm_sA, if_neg (fun e => cb e.1), xe.A hc rfl id]
      exact e0
    have pb : ∀ d, d = b → cq_s g2 d = 9 ∨ cq_s g2 d = 105 ∨ cq_s g2 d = 4 := fun d z => by rw [z]; exact Or.inr (Or.inl sb2)
    obtain ⟨q2, hq1, hq2⟩ : ∃ q2 : Int → Nat, q2 i = g.1 ∧ ∀ u, u ≠ i → q2 u = q u := ⟨fun u => if u = i then g.1 else q u, if_pos rfl, fun u z => if_neg z⟩
    refine ex_po hY hn r (i + 1) _ q2 (by omega) (by omega) G3 sb2 e0' ⟨fun u u0 u1 => ?_, fun u u' u0 u1 u2 => ?_⟩ (fun g' q' H' x' S' => hK g' q' H' (x3.trans x') S')
    · have m3 : (cq_sA g2 b i (some g.1)).1 = g2.1 := rfl
      by_cases e : u = i
      · rw [e, hq1]
        refine ⟨by rw [mm_sA, if_pos ⟨rfl, rfl⟩], N2.ex xb (fun z => nb z.symm) pb, ?_⟩
        rw [m3, m2]
        exact Nat.le_refl _
      · rw [hq2 u e]
        obtain ⟨r1, r2, r3⟩ := S.1 u u0 (by omega)
        have nq : ¬ q u = b := fun z => by
          have := r2.s0
          rw [z, sb] at this
          exact absurd this (by decide)
        refine ⟨?_, (r2.ex xe id (fun _ z => z.elim)).ex xb nq pb, ?_⟩
        · rw [mm_sA, if_neg (fun y => e y.2), xe.A sb rfl id]
          exact r1
        · rw [m3, m2]
          omega
    · have nu : ¬ u = i := by omega
      rw [hq2 u nu]
      by_cases e : u' = i
      · rw [e, hq1]
        exact (S.1 u u0 (by omega)).2.2
      · rw [hq2 u' e]
        exact S.2 u u' u0 u1 (by omega)
/-- the object as it is made -/
def CN (c : Nat) (n w : Int) (pa lb tp rd en op ob : Nat) (q : Int → Nat) (g : cx_Q) : Prop := (∀ j, cq_I g c j = 0) ∧ (cq_A g c 0 = some pa ∧ cq_s g pa = 105) ∧ (cq_A g c 1 = some lb ∧ cq_s g lb = 102) ∧ (cq_A g c 8 = some tp ∧ cq_s g tp = 103) ∧ (cq_A g c 10 = some rd ∧ cq_s g rd = 104) ∧ (cq_A g c 12 = some en ∧ cq_s g en = 0) ∧ (cq_A g c 13 = some op ∧ cq_s g op = 3) ∧ (cq_A g op 0 = some ob ∧ cq_s g ob = 175) ∧ (USR pa n w n q g)
theorem CN.i0 {c : Nat} {n w : Int} {pa lb tp rd en op ob : Nat} {q : Int → Nat} {g : cx_Q} (F_ : CN c n w pa lb tp rd en op ob q g) : ∀ j, cq_I g c j = 0 := F_.1
theorem CN.a0 {c : Nat} {n w : Int} {pa lb tp rd en op ob : Nat} {q : Int → Nat} {g : cx_Q} (F_ : CN c n w pa lb tp rd en op ob q g) : cq_A g c 0 = some pa ∧ cq_s g pa = 105 := F_.2.1
theorem CN.a1 {c : Nat} {n w : Int} {pa lb tp rd en op ob : Nat} {q : Int → Nat} {g : cx_Q} (F_ : CN c n w pa lb tp rd en op ob q g) : cq_A g c 1 = some lb ∧ cq_s g lb = 102 := F_.2.2.1
theorem CN.a8 {c : Nat} {n w : Int} {pa lb tp rd en op ob : Nat} {q : Int → Nat} {g : cx_Q} (F_ : CN c n w pa lb tp rd en op ob q g) : cq_A g c 8 = some tp ∧ cq_s g tp = 103 := F_.2.2.2.1
theorem CN.a10 {c : Nat} {n w : Int} {pa lb tp rd en op ob : Nat} {q : Int → Nat} {g : cx_Q} (F_ : CN c n w pa lb tp rd en op ob q g) : cq_A g c 10 = some rd ∧ cq_s g rd = 104 := F_.2.2.2.2.1
theorem CN.a12 {c : Nat} {n w : Int} {pa lb tp rd en op ob : Nat} {q : Int → Nat} {g : cx_Q} (F_ : CN c n w pa lb tp rd en op ob q g) : cq_A g c 12 = some en ∧ cq_s g en = 0 := F_.2.2.2.2.2.1
theorem CN.a13 {c : Nat} {n w : Int} {pa lb tp rd en op ob : Nat} {q : Int → Nat} {g : cx_Q} (F_ : CN c n w pa lb tp rd en op ob q g) : cq_A g c 13 = some op ∧ cq_s g op = 3 := F_.2.2.2.2.2.2.1
theorem CN.ob_ {c : Nat} {n w : Int} {pa lb tp rd en op ob : Nat} {q : Int → Nat} {g : cx_Q} (F_ : CN c n w pa lb tp rd en op ob q g) : cq_A g op 0 = some ob ∧ cq_s g ob = 175 := F_.2.2.2.2.2.2.2.1
theorem CN.us {c : Nat} {n w : Int} {pa lb tp rd en op ob : Nat} {q : Int → Nat} {g : cx_Q} (F_ : CN c n w pa lb tp rd en op ob q g) : USR pa n w n q g := F_.2.2.2.2.2.2.2.2
theorem e_X10_init (hY : cY Y) {v w : Int} (hn : cn v = n) (H : CI c n L Z E0 h0 [c] h) (hI : ∀ j, cq_I h c j = 0) (hK : ∀ h' pa lb tp rd en op ob q, CI c n L Z E0 h0 [] h' → CN c n w pa lb tp rd en op ob q h' → K none h') : cw Y mi_X10_init K 0 [some (.inr (.inr (some c))), some (.inl v), some (.inl w), none, none] [] h 125 2699 := by
  have hn6 : 2 ≤ n ∧ n ≤ 6 := by
    rw [← hn]
    unfold cn
    split
    · omega
    · split <;> omega
  have Q0 : PI c n L Z E0 h0 [] h c 9 [] h := ⟨H, kA.refl, H.cs, fun j q => (nomatch q)⟩
  have M0 : CM c [] h := ⟨hI, fun t ht => (nomatch ht)⟩
  refine bx_X10_init_0 hY (pf2_ok hY) ?_
  refine in_0 (by decide) ?_
  refine tt_a Q0 ⟨own_9 (by decide), by decide⟩ rfl (by decide) (by decide) rfl (Or.inr (Or.inl ⟨rfl, rfl, hI 2⟩)) (by decide) (by decide) fun g1 Q1 e1 => ?_
  have M1 := M0.ar (t := 102) (z := 80) (f := 1) Q0.1.cs (Q0.1.al _ (Nat.le_refl _)) (by decide) (fun y hy => (nomatch hy))
  rw [show (1 : Int) = ((1 : Nat) : Int) from rfl, ← e1] at M1
  refine tt_b Q1 ⟨own_9 (by decide), by decide⟩ rfl (by decide) (by decide) rfl (Or.inl rfl) (by decide) (by decide) fun g2 Q2 e2 => ?_
  have M2 := M1.ar (t := 103) (z := 40) (f := 8) Q1.1.cs (Q1.1.al _ (Nat.le_refl _)) (by decide) (fun y hy => by simp at hy; rw [hy]; simp)
  rw [show (8 : Int) = ((8 : Nat) : Int) from rfl, ← e2] at M2
  refine tt_b Q2 ⟨own_9 (by decide), by decide⟩ rfl (by decide) (by decide) rfl (Or.inl rfl) (by decide) (by decide) fun g3 Q3 e3 => ?_
  have M3 := M2.ar (t := 104) (z := 40) (f := 10) Q2.1.cs (Q2.1.al _ (Nat.le_refl _)) (by decide) (fun y hy => by simp at hy; rcases hy with hy | hy <;> (rw [hy]; simp))
  rw [show (10 : Int) = ((10 : Nat) : Int) from rfl, ← e3] at M3
  clear e1 e2 e3 M0 M1 M2 Q0 Q1 Q2
  generalize h.1 = c1 at M3
  generalize g1.1 = c2 at M3
  generalize g2.1 = c3 at M3
  simp only [wp_iconst, wp_bipush, wp_sipush, wp_ldc, wp_ldc2_w, wp_lconst0, wp_lconst1, wp_aconst_null, wp_iload_0, wp_istore_0, wp_iload_1, wp_istore_1, wp_iload_2, wp_istore_2, wp_iload_3, wp_istore_3, wp_iload, wp_istore, wp_lload_0, wp_lstore_0, wp_lload_1, wp_lstore_1, wp_lload_2, wp_lstore_2, wp_lload_3, wp_lstore_3, wp_lload, wp_lstore, wp_aload_0, wp_astore_0, wp_aload_1, wp_astore_1, wp_aload_2, wp_astore_2, wp_aload_3, wp_astore_3, wp_aload, wp_astore, wp_iinc, wp_iadd, wp_isub, wp_imul, wp_iand, wp_ior, wp_ixor, wp_ishl, wp_ishr, wp_iushr, wp_irem, wp_ladd, wp_lsub, wp_lmul, wp_land, wp_lor, wp_lxor, wp_lshl, wp_lshr, wp_lushr, wp_lrem, wp_lcmp, wp_i2l, wp_l2i, wp_dupI, wp_dupA, wp_dup2J, wp_dup2IA, wp_popI, wp_popA, wp_pop2, wp_goto, wp_if_eq, wp_icmp_eq, wp_if_ne, wp_icmp_ne, wp_if_lt, wp_icmp_lt, wp_if_ge, wp_icmp_ge, wp_if_gt, wp_icmp_gt, wp_if_le, wp_icmp_le, wp_ifnull, wp_ifnonnull, wp_acmp_eq, wp_acmp_ne, wp_tableswitch, wp_get0, wp_put0, wp_get1, wp_put1, wp_get2, wp_put2, wp_get3, wp_put3, wp_new, wp_newarray, wp_anewarray, wp_alen, wp_iaload, wp_laload, wp_baload, wp_aaload, wp_iastore, wp_lastore, wp_bastore, wp_aastore, wp_return, wp_ireturnI, wp_ireturnZ, wp_lreturn, wp_areturnO, wp_areturnA, wp_max, wp_min, wp_obj, wp_virt, wp_nil, ld_I0, ld_Is, ld_J0, ld_Js, ld_A0, ld_As, ha_0, ha_s, cx_put1, cx_put2, cx_dl, cx_tgt, true_and, and_true, Nat.reduceAdd, Nat.reduceSub, Int.reduceAdd, Int.reduceNeg, Int.reduceToNat, Int.reduceSub, Int.cast_ofNat_Int, List.take_succ_cons, List.take_zero, List.drop_succ_cons, List.drop_zero, List.take_nil, List.drop_nil, Option.toList_some, Option.toList_none, List.cons_append, List.nil_append, wp_spec, ne_eq, Nat.reduceEqDiff, not_false_eq_true, true_or, or_true, wf_X3_mix, wf_X3_key, wf_X3_times, wf_X3_timesModuloQ, wf_X3_power, wf_X3_rest, wf_X3_secretOf, wf_X3_sealSum, wf_X3_sum, wf_X3_letterKey, wf_X3_nextOf, wf_X3_isOpen, wf_X3_veil, wf_X3_sealIsRight, cx_sz, cx_c2, cond_true, cond_false, Nat.reduceLeDiff]
  have hal := Q3.1.al g3.1 (Nat.le_refl _)
  (repeat' (with_reducible (first | refine And.intro ?_ ?_ | intro _)))
  all_goals (try omega)
  have G := Q3.1.nw (s := 0) (z := 0) True.intro (fun q => absurd q (by decide))
  have k1 : kA c g3.1 g3 (cq_nw g3 0 0) := nw_k hal Q3.1.cs
  have hal1 := G.al (cq_nw g3 0 0).1 (Nat.le_refl _)
  refine cl_X0_init (Nat.le_of_ble_eq_true rfl) (by decide) (by decide) (e_X0_init hY G nw_n.1 ?_)
  intro g4 G4 e4
  have v4 : ev g3 g4 := by rw [e4]; exact ((ev.refl.nw hal).nw hal1).fA hal
  have k4 : kA c g3.1 (cq_nw g3 0 0) g4 := by rw [e4]; exact (nw_k hal1 G.cs).trans sA_k
  obtain ⟨Q4, s4⟩ := Q3.ob (b := g3.1) (s := 0) hal (k4.s nw_n.1 (by decide)) G4 (k1.trans k4)
  have Q5 := Q4.sf (b := g3.1) (j := 12) s4 rfl
  have c4 := Q4.2.2.1
  have M5 := (M3.ev Q3.2.2.1 v4).sf (f := 12) s4 (by decide) (fun y hy => by simp at hy; rcases hy with hy | hy | hy <;> (rw [hy]; simp))
  generalize g3.1 = b1 at *
  refine bx_X10_init_37 hY (pf2_ok hY) ?_
  simp only [wp_iconst, wp_bipush, wp_sipush, wp_ldc, wp_ldc2_w, wp_lconst0, wp_lconst1, wp_aconst_null, wp_iload_0, wp_istore_0, wp_iload_1, wp_istore_1, wp_iload_2, wp_istore_2, wp_iload_3, wp_istore_3, wp_iload, wp_istore, wp_lload_0, wp_lstore_0, wp_lload_1, wp_lstore_1, wp_lload_2, wp_lstore_2, wp_lload_3, wp_lstore_3, wp_lload, wp_lstore, wp_aload_0, wp_astore_0, wp_aload_1, wp_astore_1, wp_aload_2, wp_astore_2, wp_aload_3, wp_astore_3, wp_aload, wp_astore, wp_iinc, wp_iadd, wp_isub, wp_imul, wp_iand, wp_ior, wp_ixor, wp_ishl, wp_ishr, wp_iushr, wp_irem, wp_ladd, wp_lsub, wp_lmul, wp_land, wp_lor, wp_lxor, wp_lshl, wp_lshr, wp_lushr, wp_lrem, wp_lcmp, wp_i2l, wp_l2i, wp_dupI, wp_dupA, wp_dup2J, wp_dup2IA, wp_popI, wp_popA, wp_pop2, wp_goto, wp_if_eq, wp_icmp_eq, wp_if_ne, wp_icmp_ne, wp_if_lt, wp_icmp_lt, wp_if_ge, wp_icmp_ge, wp_if_gt, wp_icmp_gt, wp_if_le, wp_icmp_le, wp_ifnull, wp_ifnonnull, wp_acmp_eq, wp_acmp_ne, wp_tableswitch, wp_get0, wp_put0, wp_get1, wp_put1, wp_get2, wp_put2, wp_get3, wp_put3, wp_new, wp_newarray, wp_anewarray, wp_alen, wp_iaload, wp_laload, wp_baload, wp_aaload, wp_iastore, wp_lastore, wp_bastore, wp_aastore, wp_return, wp_ireturnI, wp_ireturnZ, wp_lreturn, wp_areturnO, wp_areturnA, wp_max, wp_min, wp_obj, wp_virt, wp_nil, ld_I0, ld_Is, ld_J0, ld_Js, ld_A0, ld_As, ha_0, ha_s, cx_put1, cx_put2, cx_dl, cx_tgt, true_and, and_true, Nat.reduceAdd, Nat.reduceSub, Int.reduceAdd, Int.reduceNeg, Int.reduceToNat, Int.reduceSub, Int.cast_ofNat_Int, List.take_succ_cons, List.take_zero, List.drop_succ_cons, List.drop_zero, List.take_nil, List.drop_nil, Option.toList_some, Option.toList_none, List.cons_append, List.nil_append, wp_spec, ne_eq, Nat.reduceEqDiff, not_false_eq_true, true_or, or_true, wf_X3_mix, wf_X3_key, wf_X3_times, wf_X3_timesModuloQ, wf_X3_power, wf_X3_rest, wf_X3_secretOf, wf_X3_sealSum, wf_X3_sum, wf_X3_letterKey, wf_X3_nextOf, wf_X3_isOpen, wf_X3_veil, wf_X3_sealIsRight, cx_sz, cx_c2, cond_true, cond_false, Nat.reduceLeDiff, c4]
  generalize cq_sA g4 c 12 (some b1) = g5 at Q5 M5 ⊢
  clear Q4 s4 G4 k4 k1 G hal hal1 c4 v4 e4
  have hal := Q5.1.al g5.1 (Nat.le_refl _)
  (repeat' (with_reducible (first | refine And.intro ?_ ?_ | intro _)))
  all_goals (try omega)
  have G := Q5.1.nw (s := 3) (z := 0) True.intro (fun q => absurd q (by decide))
  have k1 : kA c g5.1 g5 (cq_nw g5 3 0) := nw_k hal Q5.1.cs
  have hal1 := G.al (cq_nw g5 3 0).1 (Nat.le_refl _)
  refine cl_X4_init (Nat.le_of_ble_eq_true rfl) (by decide) (by decide) (e_X4_init hY G nw_n.1 ?_)
  intro g6 G6 e6
  have v6 : ev g5 g6 := by rw [e6]; exact ((ev.refl.nw hal).nw hal1).fA hal
  have k6 : kA c g5.1 (cq_nw g5 3 0) g6 := by rw [e6]; exact (nw_k hal1 G.cs).trans sA_k
  obtain ⟨Q6, s6⟩ := Q5.ob (b := g5.1) (s := 3) hal (k6.s nw_n.1 (by decide)) G6 (k1.trans k6)
  have ob6 : cq_A g6 g5.1 0 = some (g5.1 + 1) ∧ cq_s g6 (g5.1 + 1) = 175 := by
    rw [e6]
    exact ⟨by rw [mm_sA, if_pos ⟨rfl, rfl⟩]; rfl, (nw_n.1 : cq_s (cq_nw (cq_nw g5 3 0) 175 10) (cq_nw g5 3 0).1 = 175)⟩
  have Q7 := Q6.sf (b := g5.1) (j := 13) s6 rfl
  have c6 := Q6.2.2.1
  have M7 := (M5.ev Q5.2.2.1 v6).sf (f := 13) s6 (by decide) (fun y hy => by simp at hy; rcases hy with hy | hy | hy | hy <;> (rw [hy]; simp))
  have nc6 : ¬ g5.1 = c := fun z => by rw [z, c6] at s6; exact absurd s6 (by decide)
  have ob7 : cq_A (cq_sA g6 c 13 (some g5.1)) g5.1 0 = some (g5.1 + 1) ∧ cq_s (cq_sA g6 c 13 (some g5.1)) (g5.1 + 1) = 175 ∧ cq_s (cq_sA g6 c 13 (some g5.1)) g5.1 = 3 := ⟨by rw [mm_sA, if_neg (fun y => nc6 y.1)]; exact ob6.1, ob6.2, s6⟩
  generalize g5.1 = b2 at *
  refine bx_X10_init_48 hY (pf2_ok hY) ?_
  simp only [wp_iconst, wp_bipush, wp_sipush, wp_ldc, wp_ldc2_w, wp_lconst0, wp_lconst1, wp_aconst_null, wp_iload_0, wp_istore_0, wp_iload_1, wp_istore_1, wp_iload_2, wp_istore_2, wp_iload_3, wp_istore_3, wp_iload, wp_istore, wp_lload_0, wp_lstore_0, wp_lload_1, wp_lstore_1, wp_lload_2, wp_lstore_2, wp_lload_3, wp_lstore_3, wp_lload, wp_lstore, wp_aload_0, wp_astore_0, wp_aload_1, wp_astore_1, wp_aload_2, wp_astore_2, wp_aload_3, wp_astore_3, wp_aload, wp_astore, wp_iinc, wp_iadd, wp_isub, wp_imul, wp_iand, wp_ior, wp_ixor, wp_ishl, wp_ishr, wp_iushr, wp_irem, wp_ladd, wp_lsub, wp_lmul, wp_land, wp_lor, wp_lxor, wp_lshl, wp_lshr, wp_lushr, wp_lrem, wp_lcmp, wp_i2l, wp_l2i, wp_dupI, wp_dupA, wp_dup2J, wp_dup2IA, wp_popI, wp_popA, wp_pop2, wp_goto, wp_if_eq, wp_icmp_eq, wp_if_ne, wp_icmp_ne, wp_if_lt, wp_icmp_lt, wp_if_ge, wp_icmp_ge, wp_if_gt, wp_icmp_gt, wp_if_le, wp_icmp_le, wp_ifnull, wp_ifnonnull, wp_acmp_eq, wp_acmp_ne, wp_tableswitch, wp_get0, wp_put0, wp_get1, wp_put1, wp_get2, wp_put2, wp_get3, wp_put3, wp_new, wp_newarray, wp_anewarray, wp_alen, wp_iaload, wp_laload, wp_baload, wp_aaload, wp_iastore, wp_lastore, wp_bastore, wp_aastore, wp_return, wp_ireturnI, wp_ireturnZ, wp_lreturn, wp_areturnO, wp_areturnA, wp_max, wp_min, wp_obj, wp_virt, wp_nil, ld_I0, ld_Is, ld_J0, ld_Js, ld_A0, ld_As, ha_0, ha_s, cx_put1, cx_put2, cx_dl, cx_tgt, true_and, and_true, Nat.reduceAdd, Nat.reduceSub, Int.reduceAdd, Int.reduceNeg, Int.reduceToNat, Int.reduceSub, Int.cast_ofNat_Int, List.take_succ_cons, List.take_zero, List.drop_succ_cons, List.drop_zero, List.take_nil, List.drop_nil, Option.toList_some, Option.toList_none, List.cons_append, List.nil_append, wp_spec, ne_eq, Nat.reduceEqDiff, not_false_eq_true, true_or, or_true, wf_X3_mix, wf_X3_key, wf_X3_times, wf_X3_timesModuloQ, wf_X3_power, wf_X3_rest, wf_X3_secretOf, wf_X3_sealSum, wf_X3_sum, wf_X3_letterKey, wf_X3_nextOf, wf_X3_isOpen, wf_X3_veil, wf_X3_sealIsRight, cx_sz, cx_c2, cond_true, cond_false, Nat.reduceLeDiff, c6]
  generalize cq_sA g6 c 13 (some b2) = g7 at Q7 M7 ob7 ⊢
  clear Q6 s6 G6 k6 k1 G hal hal1 c6 v6 e6 ob6 nc6
  have hal := Q7.1.al g7.1 (Nat.le_refl _)
  have G := Q7.1.nw (s := 8) (z := 0) True.intro (fun q => absurd q (by decide))
  have k1 : kA c g7.1 g7 (cq_nw g7 8 0) := nw_k hal Q7.1.cs
  have G' := G.new (s := 101) (z := 0) ⟨by decide, by decide⟩ (by decide) (by decide) (um (by decide))
  have hal1 := G.al (cq_nw g7 8 0).1 (Nat.le_refl _)
  have k2 : kA c g7.1 (cq_nw g7 8 0) (cq_nw (cq_nw g7 8 0) 101 0) := nw_k hal1 G.cs
  have st : cq_s (cq_nw (cq_nw g7 8 0) 101 0) g7.1 = 8 := k2.s nw_n.1 (by decide)
  have sp : cq_s (cq_nw (cq_nw g7 8 0) 101 0) (cq_nw g7 8 0).1 = 101 := nw_n.1
  (repeat' (with_reducible (first | refine And.intro ?_ ?_ | intro _)))
  all_goals (try omega)
  refine cl_X9_init (Nat.le_of_ble_eq_true rfl) (by decide) (by decide) (e_X9_init hY G' st (fun b q => (nomatch q)) sp ?_)
  intro g8 G8 v8 o8
  have v78 : ev g7 g8 := ((ev.refl.nw hal).nw hal1).trans v8
  have k8 : kA c g7.1 (cq_nw (cq_nw g7 8 0) 101 0) g8 := kA.of (v8.kp G'.cs) o8
  obtain ⟨Q8, s8⟩ := Q7.ob (b := g7.1) (s := 8) hal (k8.s st (by decide)) G8 ((k1.trans k2).trans k8)
  have Q9 := Q8.sf (b := g7.1) (j := 14) s8 rfl
  have c8 := Q8.2.2.1
  have M9 := (M7.ev Q7.2.2.1 v78).sf (f := 14) s8 (by decide) (fun y hy => by simp at hy; rcases hy with hy | hy | hy | hy | hy <;> (rw [hy]; simp))
  have nc8 : ¬ b2 = c := fun z => by
    have := ob7.2.2
    rw [z, Q7.2.2.1] at this
    exact absurd this (by decide)
  have ob9 : cq_A (cq_sA g8 c 14 (some g7.1)) b2 0 = some (b2 + 1) ∧ cq_s (cq_sA g8 c 14 (some g7.1)) (b2 + 1) = 175 ∧ cq_s (cq_sA g8 c 14 (some g7.1)) b2 = 3 := ⟨by rw [mm_sA, if_neg (fun y => nc8 y.1), v78.A ob7.2.2 rfl]; exact ob7.1, v78.s ob7.2.1 (by decide), v78.s ob7.2.2 (by decide)⟩
  generalize g7.1 = b3 at *
  refine bx_X10_init_64 hY (pf2_ok hY) ?_
  simp only [wp_iconst, wp_bipush, wp_sipush, wp_ldc, wp_ldc2_w, wp_lconst0, wp_lconst1, wp_aconst_null, wp_iload_0, wp_istore_0, wp_iload_1, wp_istore_1, wp_iload_2, wp_istore_2, wp_iload_3, wp_istore_3, wp_iload, wp_istore, wp_lload_0, wp_lstore_0, wp_lload_1, wp_lstore_1, wp_lload_2, wp_lstore_2, wp_lload_3, wp_lstore_3, wp_lload, wp_lstore, wp_aload_0, wp_astore_0, wp_aload_1, wp_astore_1, wp_aload_2, wp_astore_2, wp_aload_3, wp_astore_3, wp_aload, wp_astore, wp_iinc, wp_iadd, wp_isub, wp_imul, wp_iand, wp_ior, wp_ixor, wp_ishl, wp_ishr, wp_iushr, wp_irem, wp_ladd, wp_lsub, wp_lmul, wp_land, wp_lor, wp_lxor, wp_lshl, wp_lshr, wp_lushr, wp_lrem, wp_lcmp, wp_i2l, wp_l2i, wp_dupI, wp_dupA, wp_dup2J, wp_dup2IA, wp_popI, wp_popA, wp_pop2, wp_goto, wp_if_eq, wp_icmp_eq, wp_if_ne, wp_icmp_ne, wp_if_lt, wp_icmp_lt, wp_if_ge, wp_icmp_ge, wp_if_gt, wp_icmp_gt, wp_if_le, wp_icmp_le, wp_ifnull, wp_ifnonnull, wp_acmp_eq, wp_acmp_ne, wp_tableswitch, wp_get0, wp_put0, wp_get1, wp_put1, wp_get2, wp_put2, wp_get3, wp_put3, wp_new, wp_newarray, wp_anewarray, wp_alen, wp_iaload, wp_laload, wp_baload, wp_aaload, wp_iastore, wp_lastore, wp_bastore, wp_aastore, wp_return, wp_ireturnI, wp_ireturnZ, wp_lreturn, wp_areturnO, wp_areturnA, wp_max, wp_min, wp_obj, wp_virt, wp_nil, ld_I0, ld_Is, ld_J0, ld_Js, ld_A0, ld_As, ha_0, ha_s, cx_put1, cx_put2, cx_dl, cx_tgt, true_and, and_true, Nat.reduceAdd, Nat.reduceSub, Int.reduceAdd, Int.reduceNeg, Int.reduceToNat, Int.reduceSub, Int.cast_ofNat_Int, List.take_succ_cons, List.take_zero, List.drop_succ_cons, List.drop_zero, List.take_nil, List.drop_nil, Option.toList_some, Option.toList_none, List.cons_append, List.nil_append, wp_spec, ne_eq, Nat.reduceEqDiff, not_false_eq_true, true_or, or_true, wf_X3_mix, wf_X3_key, wf_X3_times, wf_X3_timesModuloQ, wf_X3_power, wf_X3_rest, wf_X3_secretOf, wf_X3_sealSum, wf_X3_sum, wf_X3_letterKey, wf_X3_nextOf, wf_X3_isOpen, wf_X3_veil, wf_X3_sealIsRight, cx_sz, cx_c2, cond_true, cond_false, Nat.reduceLeDiff, c8]
  generalize cq_sA g8 c 14 (some b3) = g9 at Q9 M9 ob9 ⊢
  clear Q8 s8 G8 v8 o8 k8 k2 sp st hal1 G' k1 G hal c8 v78 ob7
  have em : (if 2 < if v < 6 then v else 6 then if v < 6 then v else 6 else 2) = n := by
    rw [← hn]
    unfold cn
    split <;> split <;> omega
  rw [em]
  have hc := Q9.2.2.1
  have hal := Q9.1.al g9.1 (Nat.le_refl _)
  have nc : c ≠ g9.1 := fun e => by rw [← e, hc] at hal; exact absurd hal (by decide)
  have G := (Q9.1.nw (s := 105) (z := n) rfl (fun q => absurd q (by decide))).pm (X' := [c, g9.1]) (fun a q => by simp at q ⊢; omega)
  have sc : cq_s (cq_nw g9 105 n) c = 9 := (nw_o (s := 105) (z := n) nc).1.trans hc
  have v9 : ev g9 (cq_nw g9 105 n) := ev.refl.nw hal
  have sb : cq_s (cq_nw g9 105 n) g9.1 = 105 := nw_n.1
  have MA := (M9.ev hc v9).sf (f := 0) sb (by decide) (fun y hy => by simp at hy; rcases hy with hy | hy | hy | hy | hy | hy <;> (rw [hy]; simp))
  have GA : CI c n L Z E0 h0 [c, g9.1] (cq_sA (cq_nw g9 105 n) c 0 (some g9.1)) := G.sA sc (own_9 (by decide)) (fun d q => by cases q; exact sb) (fun q => (nomatch q)) rfl
  have obA : cq_A (cq_sA (cq_nw g9 105 n) c 0 (some g9.1)) b2 0 = some (b2 + 1) ∧ cq_s (cq_sA (cq_nw g9 105 n) c 0 (some g9.1)) (b2 + 1) = 175 ∧ cq_s (cq_sA (cq_nw g9 105 n) c 0 (some g9.1)) b2 = 3 := ⟨by rw [mm_sA, if_neg (fun y => nc8 y.1), v9.A ob9.2.2 rfl]; exact ob9.1, v9.s ob9.2.1 (by decide), v9.s ob9.2.2 (by decide)⟩
  have e0 : cq_A (cq_sA (cq_nw g9 105 n) c 0 (some g9.1)) c 0 = some g9.1 := by rw [mm_sA, if_pos ⟨rfl, rfl⟩]
  have sbA : cq_s (cq_sA (cq_nw g9 105 n) c 0 (some g9.1)) g9.1 = 105 := sb
  refine ⟨⟨by omega, by omega, by omega⟩, sc, ?_⟩
  generalize cq_sA (cq_nw g9 105 n) c 0 (some g9.1) = gA at MA GA obA e0 sbA ⊢
  generalize g9.1 = b at *
  clear v9 G sc sb hal nc hc Q9 M9 ob9
  have scA := GA.cs
  have ncb : ¬ c = b := fun z => by rw [z, sbA] at scA; exact absurd scA (by decide)
  have n2b : ¬ b2 = b := fun z => by
    have := obA.2.2
    rw [z, sbA] at this
    exact absurd this (by decide)
  refine cw_room (by omega) (by omega) (ex_po hY hn6 n.toNat 0 gA (fun _ => 0) (by decide) (by omega) GA sbA e0 ⟨fun u u0 u1 => absurd u0 (by omega), fun u u' u0 u1 u2 => absurd u0 (by omega)⟩ ?_)
  intro g q GC x S
  have sg : cq_s g c = 9 := GC.cs
  have sb := x.s sbA (by decide)
  have zb : cq_z g b = n := GC.tz sb
  have MC := MA.ex scA x ncb
  have G1 : CI c n L Z E0 h0 [c] g := (GC.pm (X' := [b, c]) (fun a q => by simp at q ⊢; omega)).mk sb (fun j q => by
    obtain ⟨w1, _⟩ := S.1 j (by unfold muA at q; omega) (by unfold muA at q; omega)
    rw [w1]; exact Option.some_ne_none _) (fun q => absurd q (by decide))
  have G2 : CI c n L Z E0 h0 [] g := G1.mk sg (fun j q => by
    have : j = 0 ∨ j = 1 ∨ j = 8 ∨ j = 10 ∨ j = 12 ∨ j = 13 ∨ j = 14 := by unfold muA at q; omega
    rcases this with rfl | rfl | rfl | rfl | rfl | rfl | rfl
    · rw [(MC.f_ (0, b, 105) (by simp)).1]; exact Option.some_ne_none _
    · rw [(MC.f_ (1, c1, 102) (by simp)).1]; exact Option.some_ne_none _
    · rw [(MC.f_ (8, c2, 103) (by simp)).1]; exact Option.some_ne_none _
    · rw [(MC.f_ (10, c3, 104) (by simp)).1]; exact Option.some_ne_none _
    · rw [(MC.f_ (12, b1, 0) (by simp)).1]; exact Option.some_ne_none _
    · rw [(MC.f_ (13, b2, 3) (by simp)).1]; exact Option.some_ne_none _
    · rw [(MC.f_ (14, b3, 8) (by simp)).1]; exact Option.some_ne_none _) (fun q => absurd q (by decide))
  obtain ⟨et, st, _⟩ := MC.f_ (14, b3, 8) (by simp)
  refine bx_X10_init_122 hY (pf2_ok hY) ?_
  simp only [wp_iconst, wp_bipush, wp_sipush, wp_ldc, wp_ldc2_w, wp_lconst0, wp_lconst1, wp_aconst_null, wp_iload_0, wp_istore_0, wp_iload_1, wp_istore_1, wp_iload_2, wp_istore_2, wp_iload_3, wp_istore_3, wp_iload, wp_istore, wp_lload_0, wp_lstore_0, wp_lload_1, wp_lstore_1, wp_lload_2, wp_lstore_2, wp_lload_3, wp_lstore_3, wp_lload, wp_lstore, wp_aload_0, wp_astore_0, wp_aload_1, wp_astore_1, wp_aload_2, wp_astore_2, wp_aload_3, wp_astore_3, wp_aload, wp_astore, wp_iinc, wp_iadd, wp_isub, wp_imul, wp_iand, wp_ior, wp_ixor, wp_ishl, wp_ishr, wp_iushr, wp_irem, wp_ladd, wp_lsub, wp_lmul, wp_land, wp_lor, wp_lxor, wp_lshl, wp_lshr, wp_lushr, wp_lrem, wp_lcmp, wp_i2l, wp_l2i, wp_dupI, wp_dupA, wp_dup2J, wp_dup2IA, wp_popI, wp_popA, wp_pop2, wp_goto, wp_if_eq, wp_icmp_eq, wp_if_ne, wp_icmp_ne, wp_if_lt, wp_icmp_lt, wp_if_ge, wp_icmp_ge, wp_if_gt, wp_icmp_gt, wp_if_le, wp_icmp_le, wp_ifnull, wp_ifnonnull, wp_acmp_eq, wp_acmp_ne, wp_tableswitch, wp_get0, wp_put0, wp_get1, wp_put1, wp_get2, wp_put2, wp_get3, wp_put3, wp_new, wp_newarray, wp_anewarray, wp_alen, wp_iaload, wp_laload, wp_baload, wp_aaload, wp_iastore, wp_lastore, wp_bastore, wp_aastore, wp_return, wp_ireturnI, wp_ireturnZ, wp_lreturn, wp_areturnO, wp_areturnA, wp_max, wp_min, wp_obj, wp_virt, wp_nil, ld_I0, ld_Is, ld_J0, ld_Js, ld_A0, ld_As, ha_0, ha_s, cx_put1, cx_put2, cx_dl, cx_tgt, true_and, and_true, Nat.reduceAdd, Nat.reduceSub, Int.reduceAdd, Int.reduceNeg, Int.reduceToNat, Int.reduceSub, Int.cast_ofNat_Int, List.take_succ_cons, List.take_zero, List.drop_succ_cons, List.drop_zero, List.take_nil, List.drop_nil, Option.toList_some, Option.toList_none, List.cons_append, List.nil_append, wp_spec, ne_eq, Nat.reduceEqDiff, not_false_eq_true, true_or, or_true, wf_X3_mix, wf_X3_key, wf_X3_times, wf_X3_timesModuloQ, wf_X3_power, wf_X3_rest, wf_X3_secretOf, wf_X3_sealSum, wf_X3_sum, wf_X3_letterKey, wf_X3_nextOf, wf_X3_isOpen, wf_X3_veil, wf_X3_sealIsRight, cx_sz, cx_c2, cond_true, cond_false, Nat.reduceLeDiff, sg, et]
  refine cl_X9_giveRoot (Nat.le_of_ble_eq_true rfl) st (Nat.le_refl _) (Nat.le_refl _) (e_X9_giveRoot hY G2 st ?_)
  intro g' G' k'
  refine bx_X10_init_129 hY (pf2_ok hY) ?_
  simp only [wp_iconst, wp_bipush, wp_sipush, wp_ldc, wp_ldc2_w, wp_lconst0, wp_lconst1, wp_aconst_null, wp_iload_0, wp_istore_0, wp_iload_1, wp_istore_1, wp_iload_2, wp_istore_2, wp_iload_3, wp_istore_3, wp_iload, wp_istore, wp_lload_0, wp_lstore_0, wp_lload_1, wp_lstore_1, wp_lload_2, wp_lstore_2, wp_lload_3, wp_lstore_3, wp_lload, wp_lstore, wp_aload_0, wp_astore_0, wp_aload_1, wp_astore_1, wp_aload_2, wp_astore_2, wp_aload_3, wp_astore_3, wp_aload, wp_astore, wp_iinc, wp_iadd, wp_isub, wp_imul, wp_iand, wp_ior, wp_ixor, wp_ishl, wp_ishr, wp_iushr, wp_irem, wp_ladd, wp_lsub, wp_lmul, wp_land, wp_lor, wp_lxor, wp_lshl, wp_lshr, wp_lushr, wp_lrem, wp_lcmp, wp_i2l, wp_l2i, wp_dupI, wp_dupA, wp_dup2J, wp_dup2IA, wp_popI, wp_popA, wp_pop2, wp_goto, wp_if_eq, wp_icmp_eq, wp_if_ne, wp_icmp_ne, wp_if_lt, wp_icmp_lt, wp_if_ge, wp_icmp_ge, wp_if_gt, wp_icmp_gt, wp_if_le, wp_icmp_le, wp_ifnull, wp_ifnonnull, wp_acmp_eq, wp_acmp_ne, wp_tableswitch, wp_get0, wp_put0, wp_get1, wp_put1, wp_get2, wp_put2, wp_get3, wp_put3, wp_new, wp_newarray, wp_anewarray, wp_alen, wp_iaload, wp_laload, wp_baload, wp_aaload, wp_iastore, wp_lastore, wp_bastore, wp_aastore, wp_return, wp_ireturnI, wp_ireturnZ, wp_lreturn, wp_areturnO, wp_areturnA, wp_max, wp_min, wp_obj, wp_virt, wp_nil, ld_I0, ld_Is, ld_J0, ld_Js, ld_A0, ld_As, ha_0, ha_s, cx_put1, cx_put2, cx_dl, cx_tgt, true_and, and_true, Nat.reduceAdd, Nat.reduceSub, Int.reduceAdd, Int.reduceNeg, Int.reduceToNat, Int.reduceSub, Int.cast_ofNat_Int, List.take_succ_cons, List.take_zero, List.drop_succ_cons, List.drop_zero, List.take_nil, List.drop_nil, Option.toList_some, Option.toList_none, List.cons_append, List.nil_append, wp_spec, ne_eq, Nat.reduceEqDiff, not_false_eq_true, true_or, or_true, wf_X3_mix, wf_X3_key, wf_X3_times, wf_X3_timesModuloQ, wf_X3_power, wf_X3_rest, wf_X3_secretOf, wf_X3_sealSum, wf_X3_sum, wf_X3_letterKey, wf_X3_nextOf, wf_X3_isOpen, wf_X3_veil, wf_X3_sealIsRight, cx_sz, cx_c2, cond_true, cond_false, Nat.reduceLeDiff]
  have ME := MC.ev sg k'
  have f2 := fun t ht => (MC.f_ t ht)
  refine hK g' b c1 c2 c3 b1 b2 (b2 + 1) q G' ⟨ME.i0, ⟨(ME.f_ (0, b, 105) (by simp)).1, (ME.f_ (0, b, 105) (by simp)).2.1⟩, ⟨(ME.f_ (1, c1, 102) (by simp)).1, (ME.f_ (1, c1, 102) (by simp)).2.1⟩, ⟨(ME.f_ (8, c2, 103) (by simp)).1, (ME.f_ (8, c2, 103) (by simp)).2.1⟩, ⟨(ME.f_ (10, c3, 104) (by simp)).1, (ME.f_ (10, c3, 104) (by simp)).2.1⟩, ⟨(ME.f_ (12, b1, 0) (by simp)).1, (ME.f_ (12, b1, 0) (by simp)).2.1⟩, ⟨(ME.f_ (13, b2, 3) (by simp)).1, (ME.f_ (13, b2, 3) (by simp)).2.1⟩, ⟨?_, k'.s (x.s obA.2.1 (by decide)) (by decide)⟩, ⟨fun u u0 u1 => ?_, S.2⟩⟩
  · rw [k'.A (x.s obA.2.2 (by decide)) rfl, x.A obA.2.2 rfl n2b]
    exact obA.1
  · obtain ⟨r1, r2, r3⟩ := S.1 u u0 u1
    exact ⟨by rw [k'.A sb rfl]; exact r1, r2.ex (P := fun _ => False) k'.x id (fun _ z => z.elim), Nat.le_trans r3 k'.1⟩
end
/-! the reference is made: exactly -/
def NJ (x : Nat) (h1 : cx_Q) (t : Int) (o : Nat) (g : cx_Q) : Prop := NI x h1 t o g ∧ ∀ a, x < a → a < g.1 → cq_J g a = fun _ => 0
section
variable {x : Nat} {h1 g : cx_Q} {t : Int} {o : Nat}
theorem NJ.st (N : NJ x h1 t o g) (ho : o < 65) {s : Nat} {z f : Int} (hs : s = 105 + (o + 1)) (hz : z = rz (o + 1)) (hf : f = rf (o + 1)) : NJ x h1 t (o + 1) (cq_sA (cq_nw g s z) x f (some g.1)) := by
  refine ⟨N.1.st ho hs hz hf, fun a ha hb => ?_⟩
  show cq_J (cq_nw g s z) a = _
  have hb : a < g.1 + 1 := hb
  by_cases e : a = g.1
  · rw [e, nw_n.2.2.2.1]
  · rw [(nw_o e).2.2.2.1]
    exact N.2 a ha (by omega)
variable {pf : cx_Pf} {mF mO : Nat} {ty : Option FieldType} {J : cx_J} {C : cx_Cl} {P : Option cx_V → cx_Q → Prop} {r : List ev_E} {pc : Nat} {lv : cx_L} {bc bs : Nat}
theorem jn_b (N : NJ x h1 t o g) {k : ArrayType} {u s f w : Nat} {z : Int} (ho : o < 65) (hs : s = 105 + (o + 1)) (hz : z = rz (o + 1)) (hf : (f : Int) = rf (o + 1)) (hb : 1 ≤ bc) (hbs : 0 ≤ z ∧ z ≤ 60000 ∧ z ≤ (bs : Int))
    (go : ∀ g', NJ x h1 t (o + 1) g' → cx_wp ra0 pf mF mO ty J C P r (pc + 1 + 2 + 2 + 3) (some (.inr (.inr (some x))) :: lv) [] g' (bc - 1) (bs - z.toNat)) : cx_wp ra0 pf mF mO ty J C P ((.aload_n 0, 1, 0, 0, 0) :: (.bipush z, 2, 0, 0, 0) :: (.newarray k, 2, u, s, 0) :: (.putfield w, 3, 10, f, 3) :: r) pc (some (.inr (.inr (some x))) :: lv) [] g bc bs := by
  have N' := N.st ho hs hz hf
  have nx : x ≠ g.1 := by have := N.1.1; omega
  have sx : cq_s (cq_nw g s z) x = 10 := (nw_o nx).1.trans N.1.2.1
  simp only [wp_iconst, wp_bipush, wp_sipush, wp_ldc, wp_ldc2_w, wp_lconst0, wp_lconst1, wp_aconst_null, wp_iload_0, wp_istore_0, wp_iload_1, wp_istore_1, wp_iload_2, wp_istore_2, wp_iload_3, wp_istore_3, wp_iload, wp_istore, wp_lload_0, wp_lstore_0, wp_lload_1, wp_lstore_1, wp_lload_2, wp_lstore_2, wp_lload_3, wp_lstore_3, wp_lload, wp_lstore, wp_aload_0, wp_astore_0, wp_aload_1, wp_astore_1, wp_aload_2, wp_astore_2, wp_aload_3, wp_astore_3, wp_aload, wp_astore, wp_iinc, wp_iadd, wp_isub, wp_imul, wp_iand, wp_ior, wp_ixor, wp_ishl, wp_ishr, wp_iushr, wp_irem, wp_ladd, wp_lsub, wp_lmul, wp_land, wp_lor, wp_lxor, wp_lshl, wp_lshr, wp_lushr, wp_lrem, wp_lcmp, wp_i2l, wp_l2i, wp_dupI, wp_dupA, wp_dup2J, wp_dup2IA, wp_popI, wp_popA, wp_pop2, wp_goto, wp_if_eq, wp_icmp_eq, wp_if_ne, wp_icmp_ne, wp_if_lt, wp_icmp_lt, wp_if_ge, wp_icmp_ge, wp_if_gt, wp_icmp_gt, wp_if_le, wp_icmp_le, wp_ifnull, wp_ifnonnull, wp_acmp_eq, wp_acmp_ne, wp_tableswitch, wp_get0, wp_put0, wp_get1, wp_put1, wp_get2, wp_put2, wp_get3, wp_put3, wp_new, wp_newarray, wp_anewarray, wp_alen, wp_iaload, wp_laload, wp_baload, wp_aaload, wp_iastore, wp_lastore, wp_bastore, wp_aastore, wp_return, wp_ireturnI, wp_ireturnZ, wp_lreturn, wp_areturnO, wp_areturnA, wp_max, wp_min, wp_obj, wp_virt, wp_nil, ld_I0, ld_Is, ld_J0, ld_Js, ld_A0, ld_As, ha_0, ha_s, cx_put1, cx_put2, cx_dl, cx_tgt, true_and, and_true, Nat.reduceAdd, Nat.reduceSub, Int.reduceAdd, Int.reduceNeg, Int.reduceToNat, Int.reduceSub, Int.cast_ofNat_Int, List.take_succ_cons, List.take_zero, List.drop_succ_cons, List.drop_zero, List.take_nil, List.drop_nil, Option.toList_some, Option.toList_none, List.cons_append, List.nil_append, wp_spec, ne_eq, Nat.reduceEqDiff, not_false_eq_true, true_or, or_true, sx]
  exact ⟨⟨hb, hbs⟩, go _ N'⟩
theorem jn_s (N : NJ x h1 t o g) {k : ArrayType} {u s f w : Nat} {z : Int} (ho : o < 65) (hs : s = 105 + (o + 1)) (hz : z = rz (o + 1)) (hf : (f : Int) = rf (o + 1)) (hb : 1 ≤ bc) (hbs : 0 ≤ z ∧ z ≤ 60000 ∧ z ≤ (bs : Int))
    (go : ∀ g', NJ x h1 t (o + 1) g' → cx_wp ra0 pf mF mO ty J C P r (pc + 1 + 3 + 2 + 3) (some (.inr (.inr (some x))) :: lv) [] g' (bc - 1) (bs - z.toNat)) : cx_wp ra0 pf mF mO ty J C P ((.aload_n 0, 1, 0, 0, 0) :: (.sipush z, 3, 0, 0, 0) :: (.newarray k, 2, u, s, 0) :: (.putfield w, 3, 10, f, 3) :: r) pc (some (.inr (.inr (some x))) :: lv) [] g bc bs := by
  have N' := N.st ho hs hz hf
  have nx : x ≠ g.1 := by have := N.1.1; omega
  have sx : cq_s (cq_nw g s z) x = 10 := (nw_o nx).1.trans N.1.2.1
  simp only [wp_iconst, wp_bipush, wp_sipush, wp_ldc, wp_ldc2_w, wp_lconst0, wp_lconst1, wp_aconst_null, wp_iload_0, wp_istore_0, wp_iload_1, wp_istore_1, wp_iload_2, wp_istore_2, wp_iload_3, wp_istore_3, wp_iload, wp_istore, wp_lload_0, wp_lstore_0, wp_lload_1, wp_lstore_1, wp_lload_2, wp_lstore_2, wp_lload_3, wp_lstore_3, wp_lload, wp_lstore, wp_aload_0, wp_astore_0, wp_aload_1, wp_astore_1, wp_aload_2, wp_astore_2, wp_aload_3, wp_astore_3, wp_aload, wp_astore, wp_iinc, wp_iadd, wp_isub, wp_imul, wp_iand, wp_ior, wp_ixor, wp_ishl, wp_ishr, wp_iushr, wp_irem, wp_ladd, wp_lsub, wp_lmul, wp_land, wp_lor, wp_lxor, wp_lshl, wp_lshr, wp_lushr, wp_lrem, wp_lcmp, wp_i2l, wp_l2i, wp_dupI, wp_dupA, wp_dup2J, wp_dup2IA, wp_popI, wp_popA, wp_pop2, wp_goto, wp_if_eq, wp_icmp_eq, wp_if_ne, wp_icmp_ne, wp_if_lt, wp_icmp_lt, wp_if_ge, wp_icmp_ge, wp_if_gt, wp_icmp_gt, wp_if_le, wp_icmp_le, wp_ifnull, wp_ifnonnull, wp_acmp_eq, wp_acmp_ne, wp_tableswitch, wp_get0, wp_put0, wp_get1, wp_put1, wp_get2, wp_put2, wp_get3, wp_put3, wp_new, wp_newarray, wp_anewarray, wp_alen, wp_iaload, wp_laload, wp_baload, wp_aaload, wp_iastore, wp_lastore, wp_bastore, wp_aastore, wp_return, wp_ireturnI, wp_ireturnZ, wp_lreturn, wp_areturnO, wp_areturnA, wp_max, wp_min, wp_obj, wp_virt, wp_nil, ld_I0, ld_Is, ld_J0, ld_Js, ld_A0, ld_As, ha_0, ha_s, cx_put1, cx_put2, cx_dl, cx_tgt, true_and, and_true, Nat.reduceAdd, Nat.reduceSub, Int.reduceAdd, Int.reduceNeg, Int.reduceToNat, Int.reduceSub, Int.cast_ofNat_Int, List.take_succ_cons, List.take_zero, List.drop_succ_cons, List.drop_zero, List.take_nil, List.drop_nil, Option.toList_some, Option.toList_none, List.cons_append, List.nil_append, wp_spec, ne_eq, Nat.reduceEqDiff, not_false_eq_true, true_or, or_true, sx]
  exact ⟨⟨hb, hbs⟩, go _ N'⟩
theorem jn_t (N : NJ x h1 0 o g) {w : Nat} (go : ∀ g', NJ x h1 1 o g' → cx_wp ra0 pf mF mO ty J C P r (pc + 1 + 1 + 3) (some (.inr (.inr (some x))) :: lv) [] g' bc bs) : cx_wp ra0 pf mF mO ty J C P ((.aload_n 0, 1, 0, 0, 0) :: (.iconst 1, 1, 0, 0, 0) :: (.putfield w, 3, 10, 2, 0) :: r) pc (some (.inr (.inr (some x))) :: lv) [] g bc bs := by
  have sx := N.1.2.1
  simp only [wp_iconst, wp_bipush, wp_sipush, wp_ldc, wp_ldc2_w, wp_lconst0, wp_lconst1, wp_aconst_null, wp_iload_0, wp_istore_0, wp_iload_1, wp_istore_1, wp_iload_2, wp_istore_2, wp_iload_3, wp_istore_3, wp_iload, wp_istore, wp_lload_0, wp_lstore_0, wp_lload_1, wp_lstore_1, wp_lload_2, wp_lstore_2, wp_lload_3, wp_lstore_3, wp_lload, wp_lstore, wp_aload_0, wp_astore_0, wp_aload_1, wp_astore_1, wp_aload_2, wp_astore_2, wp_aload_3, wp_astore_3, wp_aload, wp_astore, wp_iinc, wp_iadd, wp_isub, wp_imul, wp_iand, wp_ior, wp_ixor, wp_ishl, wp_ishr, wp_iushr, wp_irem, wp_ladd, wp_lsub, wp_lmul, wp_land, wp_lor, wp_lxor, wp_lshl, wp_lshr, wp_lushr, wp_lrem, wp_lcmp, wp_i2l, wp_l2i, wp_dupI, wp_dupA, wp_dup2J, wp_dup2IA, wp_popI, wp_popA, wp_pop2, wp_goto, wp_if_eq, wp_icmp_eq, wp_if_ne, wp_icmp_ne, wp_if_lt, wp_icmp_lt, wp_if_ge, wp_icmp_ge, wp_if_gt, wp_icmp_gt, wp_if_le, wp_icmp_le, wp_ifnull, wp_ifnonnull, wp_acmp_eq, wp_acmp_ne, wp_tableswitch, wp_get0, wp_put0, wp_get1, wp_put1, wp_get2, wp_put2, wp_get3, wp_put3, wp_new, wp_newarray, wp_anewarray, wp_alen, wp_iaload, wp_laload, wp_baload, wp_aaload, wp_iastore, wp_lastore, wp_bastore, wp_aastore, wp_return, wp_ireturnI, wp_ireturnZ, wp_lreturn, wp_areturnO, wp_areturnA, wp_max, wp_min, wp_obj, wp_virt, wp_nil, ld_I0, ld_Is, ld_J0, ld_Js, ld_A0, ld_As, ha_0, ha_s, cx_put1, cx_put2, cx_dl, cx_tgt, true_and, and_true, Nat.reduceAdd, Nat.reduceSub, Int.reduceAdd, Int.reduceNeg, Int.reduceToNat, Int.reduceSub, Int.cast_ofNat_Int, List.take_succ_cons, List.take_zero, List.drop_succ_cons, List.drop_zero, List.take_nil, List.drop_nil, Option.toList_some, Option.toList_none, List.cons_append, List.nil_append, wp_spec, ne_eq, Nat.reduceEqDiff, not_false_eq_true, true_or, or_true, sx]
  refine go _ ?_
  obtain ⟨⟨n1, n2, n3, n4, n5, n6, n7⟩, n8⟩ := N
  refine ⟨?_, fun a ha hb => by rw [← n8 a ha hb]; rfl⟩
  refine ⟨n1, n2, n3, fun a ha => ⟨(n4 a ha).1, (n4 a ha).2.1, ?_, (n4 a ha).2.2.2⟩, fun a ha hb => ?_, ?_, n7⟩
  · rw [← (n4 a ha).2.2.1]
    funext j
    rw [mm_sI, if_neg (fun e => by omega)]
  · rw [← n5 a ha hb]
    funext j
    rw [mm_sI, if_neg (fun e => by omega)]
  · funext j
    rw [mm_sI]
    by_cases e : j = 2
    · rw [if_pos ⟨rfl, e⟩, if_pos e]
    · rw [if_neg (fun q => e q.2), if_neg e, n6]
      exact if_neg e
theorem jn_m (N : NJ x h1 t o g) {k : ArrayType} {u s : Nat} {z : Int} (hb : 1 ≤ bc) (hbs : 0 ≤ z ∧ z ≤ 60000 ∧ z ≤ (bs : Int))
    (go : J (pc + 1 + 3 + 2) (some (.inr (.inr (some x))) :: lv) [.inr (.inr (some g.1)), .inr (.inr (some x))] (cq_nw g s z) (bc - 1) (bs - z.toNat)) : cx_wp ra0 pf mF mO ty J C P [(.aload_n 0, 1, 0, 0, 0), (.sipush z, 3, 0, 0, 0), (.newarray k, 2, u, s, 0)] pc (some (.inr (.inr (some x))) :: lv) [] g bc bs := by
  simp only [wp_iconst, wp_bipush, wp_sipush, wp_ldc, wp_ldc2_w, wp_lconst0, wp_lconst1, wp_aconst_null, wp_iload_0, wp_istore_0, wp_iload_1, wp_istore_1, wp_iload_2, wp_istore_2, wp_iload_3, wp_istore_3, wp_iload, wp_istore, wp_lload_0, wp_lstore_0, wp_lload_1, wp_lstore_1, wp_lload_2, wp_lstore_2, wp_lload_3, wp_lstore_3, wp_lload, wp_lstore, wp_aload_0, wp_astore_0, wp_aload_1, wp_astore_1, wp_aload_2, wp_astore_2, wp_aload_3, wp_astore_3, wp_aload, wp_astore, wp_iinc, wp_iadd, wp_isub, wp_imul, wp_iand, wp_ior, wp_ixor, wp_ishl, wp_ishr, wp_iushr, wp_irem, wp_ladd, wp_lsub, wp_lmul, wp_land, wp_lor, wp_lxor, wp_lshl, wp_lshr, wp_lushr, wp_lrem, wp_lcmp, wp_i2l, wp_l2i, wp_dupI, wp_dupA, wp_dup2J, wp_dup2IA, wp_popI, wp_popA, wp_pop2, wp_goto, wp_if_eq, wp_icmp_eq, wp_if_ne, wp_icmp_ne, wp_if_lt, wp_icmp_lt, wp_if_ge, wp_icmp_ge, wp_if_gt, wp_icmp_gt, wp_if_le, wp_icmp_le, wp_ifnull, wp_ifnonnull, wp_acmp_eq, wp_acmp_ne, wp_tableswitch, wp_get0, wp_put0, wp_get1, wp_put1, wp_get2, wp_put2, wp_get3, wp_put3, wp_new, wp_newarray, wp_anewarray, wp_alen, wp_iaload, wp_laload, wp_baload, wp_aaload, wp_iastore, wp_lastore, wp_bastore, wp_aastore, wp_return, wp_ireturnI, wp_ireturnZ, wp_lreturn, wp_areturnO, wp_areturnA, wp_max, wp_min, wp_obj, wp_virt, wp_nil, ld_I0, ld_Is, ld_J0, ld_Js, ld_A0, ld_As, ha_0, ha_s, cx_put1, cx_put2, cx_dl, cx_tgt, true_and, and_true, Nat.reduceAdd, Nat.reduceSub, Int.reduceAdd, Int.reduceNeg, Int.reduceToNat, Int.reduceSub, Int.cast_ofNat_Int, List.take_succ_cons, List.take_zero, List.drop_succ_cons, List.drop_zero, List.take_nil, List.drop_nil, Option.toList_some, Option.toList_none, List.cons_append, List.nil_append, wp_spec, ne_eq, Nat.reduceEqDiff, not_false_eq_true, true_or, or_true]
  exact ⟨⟨hb, hbs⟩, go⟩
theorem jn_p (N : NJ x h1 t o g) {s f w : Nat} {z : Int} (ho : o < 65) (hs : s = 105 + (o + 1)) (hz : z = rz (o + 1)) (hf : (f : Int) = rf (o + 1))
    (go : ∀ g', NJ x h1 t (o + 1) g' → cx_wp ra0 pf mF mO ty J C P r (pc + 3) (some (.inr (.inr (some x))) :: lv) [] g' bc bs) : cx_wp ra0 pf mF mO ty J C P ((.putfield w, 3, 10, f, 3) :: r) pc (some (.inr (.inr (some x))) :: lv) [.inr (.inr (some g.1)), .inr (.inr (some x))] (cq_nw g s z) bc bs := by
  have N' := N.st ho hs hz hf
  have nx : x ≠ g.1 := by have := N.1.1; omega
  have sx : cq_s (cq_nw g s z) x = 10 := (nw_o nx).1.trans N.1.2.1
  simp only [wp_iconst, wp_bipush, wp_sipush, wp_ldc, wp_ldc2_w, wp_lconst0, wp_lconst1, wp_aconst_null, wp_iload_0, wp_istore_0, wp_iload_1, wp_istore_1, wp_iload_2, wp_istore_2, wp_iload_3, wp_istore_3, wp_iload, wp_istore, wp_lload_0, wp_lstore_0, wp_lload_1, wp_lstore_1, wp_lload_2, wp_lstore_2, wp_lload_3, wp_lstore_3, wp_lload, wp_lstore, wp_aload_0, wp_astore_0, wp_aload_1, wp_astore_1, wp_aload_2, wp_astore_2, wp_aload_3, wp_astore_3, wp_aload, wp_astore, wp_iinc, wp_iadd, wp_isub, wp_imul, wp_iand, wp_ior, wp_ixor, wp_ishl, wp_ishr, wp_iushr, wp_irem, wp_ladd, wp_lsub, wp_lmul, wp_land, wp_lor, wp_lxor, wp_lshl, wp_lshr, wp_lushr, wp_lrem, wp_lcmp, wp_i2l, wp_l2i, wp_dupI, wp_dupA, wp_dup2J, wp_dup2IA, wp_popI, wp_popA, wp_pop2, wp_goto, wp_if_eq, wp_icmp_eq, wp_if_ne, wp_icmp_ne, wp_if_lt, wp_icmp_lt, wp_if_ge, wp_icmp_ge, wp_if_gt, wp_icmp_gt, wp_if_le, wp_icmp_le, wp_ifnull, wp_ifnonnull, wp_acmp_eq, wp_acmp_ne, wp_tableswitch, wp_get0, wp_put0, wp_get1, wp_put1, wp_get2, wp_put2, wp_get3, wp_put3, wp_new, wp_newarray, wp_anewarray, wp_alen, wp_iaload, wp_laload, wp_baload, wp_aaload, wp_iastore, wp_lastore, wp_bastore, wp_aastore, wp_return, wp_ireturnI, wp_ireturnZ, wp_lreturn, wp_areturnO, wp_areturnA, wp_max, wp_min, wp_obj, wp_virt, wp_nil, ld_I0, ld_Is, ld_J0, ld_Js, ld_A0, ld_As, ha_0, ha_s, cx_put1, cx_put2, cx_dl, cx_tgt, true_and, and_true, Nat.reduceAdd, Nat.reduceSub, Int.reduceAdd, Int.reduceNeg, Int.reduceToNat, Int.reduceSub, Int.cast_ofNat_Int, List.take_succ_cons, List.take_zero, List.drop_succ_cons, List.drop_zero, List.take_nil, List.drop_nil, Option.toList_some, Option.toList_none, List.cons_append, List.nil_append, wp_spec, ne_eq, Nat.reduceEqDiff, not_false_eq_true, true_or, or_true, sx]
  exact go _ N'
end
theorem d_X11_init0 {Y : cx_Y} (hY : cY Y) {K : Option cx_V → cx_Q → Prop} {x : Nat} {h1 g0 : cx_Q} {a b : Int} (N0 : NJ x h1 0 0 g0) (hK : ∀ g, NJ x h1 1 65 g → cx_wp ra0 pf1 1 12 none (cw Y mi_X11_init K) (cwl Y mi_X11_init K) K [(.aload_n 0, 1, 0, 0, 0), (.iload_n 1, 1, 0, 0, 0), (.iconst 2, 1, 0, 0, 0), (.if_icmp .ge 7, 3, 0, 0, 0), (.iconst 2, 1, 0, 0, 0), (.goto 15, 3, 0, 0, 0)] 574 [some (.inr (.inr (some x))), some (.inl a), some (.inl b), none] [] g 0 0) : cw Y mi_X11_init K 0 [some (.inr (.inr (some x))), some (.inl a), some (.inl b), none] [] g0 65 149752 := by
  refine bx_X11_init_0 hY (pf1_ok hY) ?_
  refine in_0 (by decide) ?_
  refine jn_b N0 (by decide) rfl rfl rfl (by decide) (by decide) fun g1 N1 => ?_
  refine jn_t N1 fun g2 N2 => ?_
  refine jn_s N2 (by decide) rfl rfl rfl (by decide) (by decide) fun g3 N3 => ?_
  refine jn_s N3 (by decide) rfl rfl rfl (by decide) (by decide) fun g4 N4 => ?_
  refine jn_s N4 (by decide) rfl rfl rfl (by decide) (by decide) fun g5 N5 => ?_
  refine jn_s N5 (by decide) rfl rfl rfl (by decide) (by decide) fun g6 N6 => ?_
  refine jn_s N6 (by decide) rfl rfl rfl (by decide) (by decide) fun g7 N7 => ?_
  refine jn_s N7 (by decide) rfl rfl rfl (by decide) (by decide) fun g8 N8 => ?_
  refine jn_s N8 (by decide) rfl rfl rfl (by decide) (by decide) fun g9 N9 => ?_
  refine jn_s N9 (by decide) rfl rfl rfl (by decide) (by decide) fun g10 N10 => ?_
  refine jn_s N10 (by decide) rfl rfl rfl (by decide) (by decide) fun g11 N11 => ?_
  refine jn_b N11 (by decide) rfl rfl rfl (by decide) (by decide) fun g12 N12 => ?_
  refine jn_b N12 (by decide) rfl rfl rfl (by decide) (by decide) fun g13 N13 => ?_
  refine jn_b N13 (by decide) rfl rfl rfl (by decide) (by decide) fun g14 N14 => ?_
  refine jn_b N14 (by decide) rfl rfl rfl (by decide) (by decide) fun g15 N15 => ?_
  refine jn_b N15 (by decide) rfl rfl rfl (by decide) (by decide) fun g16 N16 => ?_
  refine jn_b N16 (by decide) rfl rfl rfl (by decide) (by decide) fun g17 N17 => ?_
  refine jn_b N17 (by decide) rfl rfl rfl (by decide) (by decide) fun g18 N18 => ?_
  refine jn_b N18 (by decide) rfl rfl rfl (by decide) (by decide) fun g19 N19 => ?_
  refine jn_b N19 (by decide) rfl rfl rfl (by decide) (by decide) fun g20 N20 => ?_
  refine jn_b N20 (by decide) rfl rfl rfl (by decide) (by decide) fun g21 N21 => ?_
  refine jn_b N21 (by decide) rfl rfl rfl (by decide) (by decide) fun g22 N22 => ?_
  refine jn_b N22 (by decide) rfl rfl rfl (by decide) (by decide) fun g23 N23 => ?_
  refine jn_b N23 (by decide) rfl rfl rfl (by decide) (by decide) fun g24 N24 => ?_
  refine jn_m N24 (by decide) (by decide) ?_
  refine bx_X11_init_208 hY (pf1_ok hY) ?_
  refine jn_p N24 (by decide) rfl rfl rfl fun g25 N25 => ?_
  refine jn_s N25 (by decide) rfl rfl rfl (by decide) (by decide) fun g26 N26 => ?_
  refine jn_s N26 (by decide) rfl rfl rfl (by decide) (by decide) fun g27 N27 => ?_
  refine jn_s N27 (by decide) rfl rfl rfl (by decide) (by decide) fun g28 N28 => ?_
  refine jn_s N28 (by decide) rfl rfl rfl (by decide) (by decide) fun g29 N29 => ?_
  refine jn_s N29 (by decide) rfl rfl rfl (by decide) (by decide) fun g30 N30 => ?_
  refine jn_b N30 (by decide) rfl rfl rfl (by decide) (by decide) fun g31 N31 => ?_
  refine jn_s N31 (by decide) rfl rfl rfl (by decide) (by decide) fun g32 N32 => ?_
  refine jn_s N32 (by decide) rfl rfl rfl (by decide) (by decide) fun g33 N33 => ?_
  refine jn_s N33 (by decide) rfl rfl rfl (by decide) (by decide) fun g34 N34 => ?_
  refine jn_s N34 (by decide) rfl rfl rfl (by decide) (by decide) fun g35 N35 => ?_
  refine jn_s N35 (by decide) rfl rfl rfl (by decide) (by decide) fun g36 N36 => ?_
  refine jn_s N36 (by decide) rfl rfl rfl (by decide) (by decide) fun g37 N37 => ?_
  refine jn_s N37 (by decide) rfl rfl rfl (by decide) (by decide) fun g38 N38 => ?_
  refine jn_s N38 (by decide) rfl rfl rfl (by decide) (by decide) fun g39 N39 => ?_
  refine jn_s N39 (by decide) rfl rfl rfl (by decide) (by decide) fun g40 N40 => ?_
  refine jn_s N40 (by decide) rfl rfl rfl (by decide) (by decide) fun g41 N41 => ?_
  refine jn_s N41 (by decide) rfl rfl rfl (by decide) (by decide) fun g42 N42 => ?_
  refine jn_s N42 (by decide) rfl rfl rfl (by decide) (by decide) fun g43 N43 => ?_
  refine jn_s N43 (by decide) rfl rfl rfl (by decide) (by decide) fun g44 N44 => ?_
  refine jn_s N44 (by decide) rfl rfl rfl (by decide) (by decide) fun g45 N45 => ?_
  refine jn_s N45 (by decide) rfl rfl rfl (by decide) (by decide) fun g46 N46 => ?_
  refine jn_s N46 (by decide) rfl rfl rfl (by decide) (by decide) fun g47 N47 => ?_
  refine jn_s N47 (by decide) rfl rfl rfl (by decide) (by decide) fun g48 N48 => ?_
  refine jn_s N48 (by decide) rfl rfl rfl (by decide) (by decide) fun g49 N49 => ?_
  refine jn_m N49 (by decide) (by decide) ?_
  refine bx_X11_init_432 hY (pf1_ok hY) ?_
  refine jn_p N49 (by decide) rfl rfl rfl fun g50 N50 => ?_
  refine jn_s N50 (by decide) rfl rfl rfl (by decide) (by decide) fun g51 N51 => ?_
  refine jn_s N51 (by decide) rfl rfl rfl (by decide) (by decide) fun g52 N52 => ?_
  refine jn_s N52 (by decide) rfl rfl rfl (by decide) (by decide) fun g53 N53 => ?_
  refine jn_s N53 (by decide) rfl rfl rfl (by decide) (by decide) fun g54 N54 => ?_
  refine jn_s N54 (by decide) rfl rfl rfl (by decide) (by decide) fun g55 N55 => ?_
  refine jn_s N55 (by decide) rfl rfl rfl (by decide) (by decide) fun g56 N56 => ?_
  refine jn_s N56 (by decide) rfl rfl rfl (by decide) (by decide) fun g57 N57 => ?_
  refine jn_s N57 (by decide) rfl rfl rfl (by decide) (by decide) fun g58 N58 => ?_
  refine jn_b N58 (by decide) rfl rfl rfl (by decide) (by decide) fun g59 N59 => ?_
  refine jn_s N59 (by decide) rfl rfl rfl (by decide) (by decide) fun g60 N60 => ?_
  refine jn_s N60 (by decide) rfl rfl rfl (by decide) (by decide) fun g61 N61 => ?_
  refine jn_b N61 (by decide) rfl rfl rfl (by decide) (by decide) fun g62 N62 => ?_
  refine jn_s N62 (by decide) rfl rfl rfl (by decide) (by decide) fun g63 N63 => ?_
  refine jn_b N63 (by decide) rfl rfl rfl (by decide) (by decide) fun g64 N64 => ?_
  refine jn_b N64 (by decide) rfl rfl rfl (by decide) (by decide) fun g65 N65 => ?_
  refine jn_b N65 (by decide) rfl rfl rfl (by decide) (by decide) fun g66 N66 => ?_
  exact hK _ N66
/-- all of it as it is made: b the seed -/
def ZR (x : Nat) (n b i : Int) (g : cx_Q) : Prop := (∀ j, cq_I g x j = if j = 0 then n else if j = 2 then 1 else 0) ∧ (∀ o j, 1 ≤ o → o ≤ 65 → cq_I g (x + o) j = 0) ∧ (∀ o j, 2 ≤ o → o ≤ 65 → cq_J g (x + o) j = 0) ∧ (∀ u, 0 ≤ u → u < i → cq_J g (x + 1) u = Int64.ofInt b + Int64.ofInt u)
theorem ZR.x_ {x : Nat} {n b i : Int} {g : cx_Q} (F_ : ZR x n b i g) : ∀ j, cq_I g x j = if j = 0 then n else if j = 2 then 1 else 0 := F_.1
theorem ZR.I_ {x : Nat} {n b i : Int} {g : cx_Q} (F_ : ZR x n b i g) : ∀ o j, 1 ≤ o → o ≤ 65 → cq_I g (x + o) j = 0 := F_.2.1
theorem ZR.J_ {x : Nat} {n b i : Int} {g : cx_Q} (F_ : ZR x n b i g) : ∀ o j, 2 ≤ o → o ≤ 65 → cq_J g (x + o) j = 0 := F_.2.2.1
theorem ZR.sd {x : Nat} {n b i : Int} {g : cx_Q} (F_ : ZR x n b i g) : ∀ u, 0 ≤ u → u < i → cq_J g (x + 1) u = Int64.ofInt b + Int64.ofInt u := F_.2.2.2
theorem d_X11_init {Y : cx_Y} (hY : cY Y) {K : Option cx_V → cx_Q → Prop} {x : Nat} {h1 g0 : cx_Q} {a b : Int} (N0 : NJ x h1 0 0 g0) (hK : ∀ h0 g, RI x (cn a) 0 (fun _ => 0) (fun _ => 0) 0 h0 g → aL x h1 g → ZR x (cn a) b 6 g → K none g) : cw Y mi_X11_init K 0 [some (.inr (.inr (some x))), some (.inl a), some (.inl b), none] [] g0 65 149752 := by
  refine d_X11_init0 hY N0 ?_
  intro g N
  have loop : ∀ (c : Nat) (i : Int) (h0 h : cx_Q), 0 ≤ i → i + c = 6 → RI x (cn a) 0 (fun _ => 0) (fun _ => 0) 0 h0 h → aL x h1 h → ZR x (cn a) b i h → cw Y mi_X11_init K 601 [some (.inr (.inr (some x))), some (.inl a), some (.inl b), some (.inl i)] [] h 0 0 := by
    intro c
    induction c with
    | zero =>
      intro i h0 h q1 q2 R A Zr
      have hS := R.1.rS
      have e6 : i = 6 := by omega
      rw [e6] at Zr
      refine bx_X11_init_601 hY (pf1_ok hY) ?_
      simp only [wp_iconst, wp_bipush, wp_sipush, wp_ldc, wp_ldc2_w, wp_lconst0, wp_lconst1, wp_aconst_null, wp_iload_0, wp_istore_0, wp_iload_1, wp_istore_1, wp_iload_2, wp_istore_2, wp_iload_3, wp_istore_3, wp_iload, wp_istore, wp_lload_0, wp_lstore_0, wp_lload_1, wp_lstore_1, wp_lload_2, wp_lstore_2, wp_lload_3, wp_lstore_3, wp_lload, wp_lstore, wp_aload_0, wp_astore_0, wp_aload_1, wp_astore_1, wp_aload_2, wp_astore_2, wp_aload_3, wp_astore_3, wp_aload, wp_astore, wp_iinc, wp_iadd, wp_isub, wp_imul, wp_iand, wp_ior, wp_ixor, wp_ishl, wp_ishr, wp_iushr, wp_irem, wp_ladd, wp_lsub, wp_lmul, wp_land, wp_lor, wp_lxor, wp_lshl, wp_lshr, wp_lushr, wp_lrem, wp_lcmp, wp_i2l, wp_l2i, wp_dupI, wp_dupA, wp_dup2J, wp_dup2IA, wp_popI, wp_popA, wp_pop2, wp_goto, wp_if_eq, wp_icmp_eq, wp_if_ne, wp_icmp_ne, wp_if_lt, wp_icmp_lt, wp_if_ge, wp_icmp_ge, wp_if_gt, wp_icmp_gt, wp_if_le, wp_icmp_le, wp_ifnull, wp_ifnonnull, wp_acmp_eq, wp_acmp_ne, wp_tableswitch, wp_get0, wp_put0, wp_get1, wp_put1, wp_get2, wp_put2, wp_get3, wp_put3, wp_new, wp_newarray, wp_anewarray, wp_alen, wp_iaload, wp_laload, wp_baload, wp_aaload, wp_iastore, wp_lastore, wp_bastore, wp_aastore, wp_return, wp_ireturnI, wp_ireturnZ, wp_lreturn, wp_areturnO, wp_areturnA, wp_max, wp_min, wp_obj, wp_virt, wp_nil, ld_I0, ld_Is, ld_J0, ld_Js, ld_A0, ld_As, ha_0, ha_s, cx_put1, cx_put2, cx_dl, cx_tgt, true_and, and_true, Nat.reduceAdd, Nat.reduceSub, Int.reduceAdd, Int.reduceNeg, Int.reduceToNat, Int.reduceSub, Int.cast_ofNat_Int, List.take_succ_cons, List.take_zero, List.drop_succ_cons, List.drop_zero, List.take_nil, List.drop_nil, Option.toList_some, Option.toList_none, List.cons_append, List.nil_append, wp_spec, ne_eq, Nat.reduceEqDiff, not_false_eq_true, true_or, or_true, rA_seeds hS, rs_seeds hS, rz_seeds hS, ra_106, (hS).1]
      refine ⟨fun _ => ?_, fun w => absurd w (by omega)⟩
      refine bx_X11_init_624 hY (pf1_ok hY) ?_
      simp only [wp_iconst, wp_bipush, wp_sipush, wp_ldc, wp_ldc2_w, wp_lconst0, wp_lconst1, wp_aconst_null, wp_iload_0, wp_istore_0, wp_iload_1, wp_istore_1, wp_iload_2, wp_istore_2, wp_iload_3, wp_istore_3, wp_iload, wp_istore, wp_lload_0, wp_lstore_0, wp_lload_1, wp_lstore_1, wp_lload_2, wp_lstore_2, wp_lload_3, wp_lstore_3, wp_lload, wp_lstore, wp_aload_0, wp_astore_0, wp_aload_1, wp_astore_1, wp_aload_2, wp_astore_2, wp_aload_3, wp_astore_3, wp_aload, wp_astore, wp_iinc, wp_iadd, wp_isub, wp_imul, wp_iand, wp_ior, wp_ixor, wp_ishl, wp_ishr, wp_iushr, wp_irem, wp_ladd, wp_lsub, wp_lmul, wp_land, wp_lor, wp_lxor, wp_lshl, wp_lshr, wp_lushr, wp_lrem, wp_lcmp, wp_i2l, wp_l2i, wp_dupI, wp_dupA, wp_dup2J, wp_dup2IA, wp_popI, wp_popA, wp_pop2, wp_goto, wp_if_eq, wp_icmp_eq, wp_if_ne, wp_icmp_ne, wp_if_lt, wp_icmp_lt, wp_if_ge, wp_icmp_ge, wp_if_gt, wp_icmp_gt, wp_if_le, wp_icmp_le, wp_ifnull, wp_ifnonnull, wp_acmp_eq, wp_acmp_ne, wp_tableswitch, wp_get0, wp_put0, wp_get1, wp_put1, wp_get2, wp_put2, wp_get3, wp_put3, wp_new, wp_newarray, wp_anewarray, wp_alen, wp_iaload, wp_laload, wp_baload, wp_aaload, wp_iastore, wp_lastore, wp_bastore, wp_aastore, wp_return, wp_ireturnI, wp_ireturnZ, wp_lreturn, wp_areturnO, wp_areturnA, wp_max, wp_min, wp_obj, wp_virt, wp_nil, ld_I0, ld_Is, ld_J0, ld_Js, ld_A0, ld_As, ha_0, ha_s, cx_put1, cx_put2, cx_dl, cx_tgt, true_and, and_true, Nat.reduceAdd, Nat.reduceSub, Int.reduceAdd, Int.reduceNeg, Int.reduceToNat, Int.reduceSub, Int.cast_ofNat_Int, List.take_succ_cons, List.take_zero, List.drop_succ_cons, List.drop_zero, List.take_nil, List.drop_nil, Option.toList_some, Option.toList_none, List.cons_append, List.nil_append, wp_spec, ne_eq, Nat.reduceEqDiff, not_false_eq_true, true_or, or_true]
      exact hK _ _ R A Zr
    | succ c ih =>
      intro i h0 h q1 q2 R A Zr
      have hS := R.1.rS
      refine bx_X11_init_601 hY (pf1_ok hY) ?_
      simp only [wp_iconst, wp_bipush, wp_sipush, wp_ldc, wp_ldc2_w, wp_lconst0, wp_lconst1, wp_aconst_null, wp_iload_0, wp_istore_0, wp_iload_1, wp_istore_1, wp_iload_2, wp_istore_2, wp_iload_3, wp_istore_3, wp_iload, wp_istore, wp_lload_0, wp_lstore_0, wp_lload_1, wp_lstore_1, wp_lload_2, wp_lstore_2, wp_lload_3, wp_lstore_3, wp_lload, wp_lstore, wp_aload_0, wp_astore_0, wp_aload_1, wp_astore_1, wp_aload_2, wp_astore_2, wp_aload_3, wp_astore_3, wp_aload, wp_astore, wp_iinc, wp_iadd, wp_isub, wp_imul, wp_iand, wp_ior, wp_ixor, wp_ishl, wp_ishr, wp_iushr, wp_irem, wp_ladd, wp_lsub, wp_lmul, wp_land, wp_lor, wp_lxor, wp_lshl, wp_lshr, wp_lushr, wp_lrem, wp_lcmp, wp_i2l, wp_l2i, wp_dupI, wp_dupA, wp_dup2J, wp_dup2IA, wp_popI, wp_popA, wp_pop2, wp_goto, wp_if_eq, wp_icmp_eq, wp_if_ne, wp_icmp_ne, wp_if_lt, wp_icmp_lt, wp_if_ge, wp_icmp_ge, wp_if_gt, wp_icmp_gt, wp_if_le, wp_icmp_le, wp_ifnull, wp_ifnonnull, wp_acmp_eq, wp_acmp_ne, wp_tableswitch, wp_get0, wp_put0, wp_get1, wp_put1, wp_get2, wp_put2, wp_get3, wp_put3, wp_new, wp_newarray, wp_anewarray, wp_alen, wp_iaload, wp_laload, wp_baload, wp_aaload, wp_iastore, wp_lastore, wp_bastore, wp_aastore, wp_return, wp_ireturnI, wp_ireturnZ, wp_lreturn, wp_areturnO, wp_areturnA, wp_max, wp_min, wp_obj, wp_virt, wp_nil, ld_I0, ld_Is, ld_J0, ld_Js, ld_A0, ld_As, ha_0, ha_s, cx_put1, cx_put2, cx_dl, cx_tgt, true_and, and_true, Nat.reduceAdd, Nat.reduceSub, Int.reduceAdd, Int.reduceNeg, Int.reduceToNat, Int.reduceSub, Int.cast_ofNat_Int, List.take_succ_cons, List.take_zero, List.drop_succ_cons, List.drop_zero, List.take_nil, List.drop_nil, Option.toList_some, Option.toList_none, List.cons_append, List.nil_append, wp_spec, ne_eq, Nat.reduceEqDiff, not_false_eq_true, true_or, or_true, rA_seeds hS, rs_seeds hS, rz_seeds hS, ra_106, (hS).1, cx_rg]
      refine ⟨fun w => absurd w (by omega), fun _ => ?_⟩
      (repeat' (with_reducible (first | refine And.intro ?_ ?_ | intro _)))
      all_goals (try omega)
      refine ih (i + 1) h0 _ (by omega) (by omega) ⟨R.1.sJ (by decide), TI.sJ R.2⟩ ⟨A.1, fun a ha => ⟨(A.2.1 a ha).1, (A.2.1 a ha).2.1, (A.2.1 a ha).2.2.1, ?_, (A.2.1 a ha).2.2.2.2⟩, A.2.2⟩ ⟨Zr.x_, Zr.I_, fun o j w1 w2 => ?_, fun u w1 w2 => ?_⟩
      · rw [← (A.2.1 a ha).2.2.2.1]
        funext j
        rw [mm_sJ, if_neg (fun e => by omega)]
      · rw [mm_sJ, if_neg (fun e => by omega)]
        exact Zr.J_ o j w1 w2
      · rw [mm_sJ]
        by_cases e : u = i
        · rw [if_pos ⟨rfl, e⟩, e]
        · rw [if_neg (fun z => e z.2)]
          exact Zr.sd u w1 (by omega)
  have Z0 : ZR x (cn a) b 0 (cq_sI g x 0 (cn a)) := by
    obtain ⟨⟨n1, n2, n3, n4, n5, n6, n7⟩, n8⟩ := N
    refine ⟨fun j => ?_, fun o j w1 w2 => ?_, fun o j w1 w2 => ?_, fun u w1 w2 => absurd w1 (by omega)⟩
    · rw [mm_sI, n6]
      simp only [true_and]
    · rw [mm_sI, if_neg (fun e => by omega), n5 (x + o) (by omega) (by omega)]
    · rw [mm_JI, n8 (x + o) (by omega) (by omega)]
  have j596 : cw Y mi_X11_init K 596 [some (.inr (.inr (some x))), some (.inl a), some (.inl b), none] [.inl (cn a), .inr (.inr (some x))] g 0 0 := by
    refine bx_X11_init_596 hY (pf1_ok hY) ?_
    simp only [wp_iconst, wp_bipush, wp_sipush, wp_ldc, wp_ldc2_w, wp_lconst0, wp_lconst1, wp_aconst_null, wp_iload_0, wp_istore_0, wp_iload_1, wp_istore_1, wp_iload_2, wp_istore_2, wp_iload_3, wp_istore_3, wp_iload, wp_istore, wp_lload_0, wp_lstore_0, wp_lload_1, wp_lstore_1, wp_lload_2, wp_lstore_2, wp_lload_3, wp_lstore_3, wp_lload, wp_lstore, wp_aload_0, wp_astore_0, wp_aload_1, wp_astore_1, wp_aload_2, wp_astore_2, wp_aload_3, wp_astore_3, wp_aload, wp_astore, wp_iinc, wp_iadd, wp_isub, wp_imul, wp_iand, wp_ior, wp_ixor, wp_ishl, wp_ishr, wp_iushr, wp_irem, wp_ladd, wp_lsub, wp_lmul, wp_land, wp_lor, wp_lxor, wp_lshl, wp_lshr, wp_lushr, wp_lrem, wp_lcmp, wp_i2l, wp_l2i, wp_dupI, wp_dupA, wp_dup2J, wp_dup2IA, wp_popI, wp_popA, wp_pop2, wp_goto, wp_if_eq, wp_icmp_eq, wp_if_ne, wp_icmp_ne, wp_if_lt, wp_icmp_lt, wp_if_ge, wp_icmp_ge, wp_if_gt, wp_icmp_gt, wp_if_le, wp_icmp_le, wp_ifnull, wp_ifnonnull, wp_acmp_eq, wp_acmp_ne, wp_tableswitch, wp_get0, wp_put0, wp_get1, wp_put1, wp_get2, wp_put2, wp_get3, wp_put3, wp_new, wp_newarray, wp_anewarray, wp_alen, wp_iaload, wp_laload, wp_baload, wp_aaload, wp_iastore, wp_lastore, wp_bastore, wp_aastore, wp_return, wp_ireturnI, wp_ireturnZ, wp_lreturn, wp_areturnO, wp_areturnA, wp_max, wp_min, wp_obj, wp_virt, wp_nil, ld_I0, ld_Is, ld_J0, ld_Js, ld_A0, ld_As, ha_0, ha_s, cx_put1, cx_put2, cx_dl, cx_tgt, true_and, and_true, Nat.reduceAdd, Nat.reduceSub, Int.reduceAdd, Int.reduceNeg, Int.reduceToNat, Int.reduceSub, Int.cast_ofNat_Int, List.take_succ_cons, List.take_zero, List.drop_succ_cons, List.drop_zero, List.take_nil, List.drop_nil, Option.toList_some, Option.toList_none, List.cons_append, List.nil_append, wp_spec, ne_eq, Nat.reduceEqDiff, not_false_eq_true, true_or, or_true, N.1.2.1]
    exact loop 6 0 _ _ (by decide) (by decide) (NI.RI N.1).1 (NI.RI N.1).2 Z0
  simp only [wp_iconst, wp_bipush, wp_sipush, wp_ldc, wp_ldc2_w, wp_lconst0, wp_lconst1, wp_aconst_null, wp_iload_0, wp_istore_0, wp_iload_1, wp_istore_1, wp_iload_2, wp_istore_2, wp_iload_3, wp_istore_3, wp_iload, wp_istore, wp_lload_0, wp_lstore_0, wp_lload_1, wp_lstore_1, wp_lload_2, wp_lstore_2, wp_lload_3, wp_lstore_3, wp_lload, wp_lstore, wp_aload_0, wp_astore_0, wp_aload_1, wp_astore_1, wp_aload_2, wp_astore_2, wp_aload_3, wp_astore_3, wp_aload, wp_astore, wp_iinc, wp_iadd, wp_isub, wp_imul, wp_iand, wp_ior, wp_ixor, wp_ishl, wp_ishr, wp_iushr, wp_irem, wp_ladd, wp_lsub, wp_lmul, wp_land, wp_lor, wp_lxor, wp_lshl, wp_lshr, wp_lushr, wp_lrem, wp_lcmp, wp_i2l, wp_l2i, wp_dupI, wp_dupA, wp_dup2J, wp_dup2IA, wp_popI, wp_popA, wp_pop2, wp_goto, wp_if_eq, wp_icmp_eq, wp_if_ne, wp_icmp_ne, wp_if_lt, wp_icmp_lt, wp_if_ge, wp_icmp_ge, wp_if_gt, wp_icmp_gt, wp_if_le, wp_icmp_le, wp_ifnull, wp_ifnonnull, wp_acmp_eq, wp_acmp_ne, wp_tableswitch, wp_get0, wp_put0, wp_get1, wp_put1, wp_get2, wp_put2, wp_get3, wp_put3, wp_new, wp_newarray, wp_anewarray, wp_alen, wp_iaload, wp_laload, wp_baload, wp_aaload, wp_iastore, wp_lastore, wp_bastore, wp_aastore, wp_return, wp_ireturnI, wp_ireturnZ, wp_lreturn, wp_areturnO, wp_areturnA, wp_max, wp_min, wp_obj, wp_virt, wp_nil, ld_I0, ld_Is, ld_J0, ld_Js, ld_A0, ld_As, ha_0, ha_s, cx_put1, cx_put2, cx_dl, cx_tgt, true_and, and_true, Nat.reduceAdd, Nat.reduceSub, Int.reduceAdd, Int.reduceNeg, Int.reduceToNat, Int.reduceSub, Int.cast_ofNat_Int, List.take_succ_cons, List.take_zero, List.drop_succ_cons, List.drop_zero, List.take_nil, List.drop_nil, Option.toList_some, Option.toList_none, List.cons_append, List.nil_append, wp_spec, ne_eq, Nat.reduceEqDiff, not_false_eq_true, true_or, or_true]
  refine ⟨fun q => ?_, fun q => ?_⟩
  · refine bx_X11_init_584 hY (pf1_ok hY) ?_
    simp only [wp_iconst, wp_bipush, wp_sipush, wp_ldc, wp_ldc2_w, wp_lconst0, wp_lconst1, wp_aconst_null, wp_iload_0, wp_istore_0, wp_iload_1, wp_istore_1, wp_iload_2, wp_istore_2, wp_iload_3, wp_istore_3, wp_iload, wp_istore, wp_lload_0, wp_lstore_0, wp_lload_1, wp_lstore_1, wp_lload_2, wp_lstore_2, wp_lload_3, wp_lstore_3, wp_lload, wp_lstore, wp_aload_0, wp_astore_0, wp_aload_1, wp_astore_1, wp_aload_2, wp_astore_2, wp_aload_3, wp_astore_3, wp_aload, wp_astore, wp_iinc, wp_iadd, wp_isub, wp_imul, wp_iand, wp_ior, wp_ixor, wp_ishl, wp_ishr, wp_iushr, wp_irem, wp_ladd, wp_lsub, wp_lmul, wp_land, wp_lor, wp_lxor, wp_lshl, wp_lshr, wp_lushr, wp_lrem, wp_lcmp, wp_i2l, wp_l2i, wp_dupI, wp_dupA, wp_dup2J, wp_dup2IA, wp_popI, wp_popA, wp_pop2, wp_goto, wp_if_eq, wp_icmp_eq, wp_if_ne, wp_icmp_ne, wp_if_lt, wp_icmp_lt, wp_if_ge, wp_icmp_ge, wp_if_gt, wp_icmp_gt, wp_if_le, wp_icmp_le, wp_ifnull, wp_ifnonnull, wp_acmp_eq, wp_acmp_ne, wp_tableswitch, wp_get0, wp_put0, wp_get1, wp_put1, wp_get2, wp_put2, wp_get3, wp_put3, wp_new, wp_newarray, wp_anewarray, wp_alen, wp_iaload, wp_laload, wp_baload, wp_aaload, wp_iastore, wp_lastore, wp_bastore, wp_aastore, wp_return, wp_ireturnI, wp_ireturnZ, wp_lreturn, wp_areturnO, wp_areturnA, wp_max, wp_min, wp_obj, wp_virt, wp_nil, ld_I0, ld_Is, ld_J0, ld_Js, ld_A0, ld_As, ha_0, ha_s, cx_put1, cx_put2, cx_dl, cx_tgt, true_and, and_true, Nat.reduceAdd, Nat.reduceSub, Int.reduceAdd, Int.reduceNeg, Int.reduceToNat, Int.reduceSub, Int.cast_ofNat_Int, List.take_succ_cons, List.take_zero, List.drop_succ_cons, List.drop_zero, List.take_nil, List.drop_nil, Option.toList_some, Option.toList_none, List.cons_append, List.nil_append, wp_spec, ne_eq, Nat.reduceEqDiff, not_false_eq_true, true_or, or_true]
    refine ⟨fun q2 => ?_, fun q2 => ?_⟩
    · refine bx_X11_init_595 hY (pf1_ok hY) ?_
      simp only [wp_iconst, wp_bipush, wp_sipush, wp_ldc, wp_ldc2_w, wp_lconst0, wp_lconst1, wp_aconst_null, wp_iload_0, wp_istore_0, wp_iload_1, wp_istore_1, wp_iload_2, wp_istore_2, wp_iload_3, wp_istore_3, wp_iload, wp_istore, wp_lload_0, wp_lstore_0, wp_lload_1, wp_lstore_1, wp_lload_2, wp_lstore_2, wp_lload_3, wp_lstore_3, wp_lload, wp_lstore, wp_aload_0, wp_astore_0, wp_aload_1, wp_astore_1, wp_aload_2, wp_astore_2, wp_aload_3, wp_astore_3, wp_aload, wp_astore, wp_iinc, wp_iadd, wp_isub, wp_imul, wp_iand, wp_ior, wp_ixor, wp_ishl, wp_ishr, wp_iushr, wp_irem, wp_ladd, wp_lsub, wp_lmul, wp_land, wp_lor, wp_lxor, wp_lshl, wp_lshr, wp_lushr, wp_lrem, wp_lcmp, wp_i2l, wp_l2i, wp_dupI, wp_dupA, wp_dup2J, wp_dup2IA, wp_popI, wp_popA, wp_pop2, wp_goto, wp_if_eq, wp_icmp_eq, wp_if_ne, wp_icmp_ne, wp_if_lt, wp_icmp_lt, wp_if_ge, wp_icmp_ge, wp_if_gt, wp_icmp_gt, wp_if_le, wp_icmp_le, wp_ifnull, wp_ifnonnull, wp_acmp_eq, wp_acmp_ne, wp_tableswitch, wp_get0, wp_put0, wp_get1, wp_put1, wp_get2, wp_put2, wp_get3, wp_put3, wp_new, wp_newarray, wp_anewarray, wp_alen, wp_iaload, wp_laload, wp_baload, wp_aaload, wp_iastore, wp_lastore, wp_bastore, wp_aastore, wp_return, wp_ireturnI, wp_ireturnZ, wp_lreturn, wp_areturnO, wp_areturnA, wp_max, wp_min, wp_obj, wp_virt, wp_nil, ld_I0, ld_Is, ld_J0, ld_Js, ld_A0, ld_As, ha_0, ha_s, cx_put1, cx_put2, cx_dl, cx_tgt, true_and, and_true, Nat.reduceAdd, Nat.reduceSub, Int.reduceAdd, Int.reduceNeg, Int.reduceToNat, Int.reduceSub, Int.cast_ofNat_Int, List.take_succ_cons, List.take_zero, List.drop_succ_cons, List.drop_zero, List.take_nil, List.drop_nil, Option.toList_some, Option.toList_none, List.cons_append, List.nil_append, wp_spec, ne_eq, Nat.reduceEqDiff, not_false_eq_true, true_or, or_true]
      have : cn a = a := by unfold cn; rw [if_neg (by omega), if_pos (by omega)]
      rw [this] at j596
      exact j596
    · have : cn a = 6 := by unfold cn; rw [if_neg (by omega), if_neg (by omega)]
      rw [this] at j596
      exact j596
  · have : cn a = 2 := by unfold cn; rw [if_pos (by omega)]
    rw [this] at j596
    exact j596
/-! the law, from its start, by value -/
section
variable {c x : Nat} {n w : Int} {pa lb tp rd en op ob : Nat} {q : Int → Nat} {g g' : cx_Q}
theorem CN.ex (F : CN c n w pa lb tp rd en op ob q g) (sc : cq_s g c = 9) (e : evx (fun _ => False) g g') (m : g.1 ≤ g'.1) : CN c n w pa lb tp rd en op ob q g' := by
  have eA := e.A sc rfl id
  refine ⟨by rw [e.I sc rfl id]; exact F.i0, ⟨by rw [eA]; exact F.a0.1, e.s F.a0.2 (by decide)⟩, ⟨by rw [eA]; exact F.a1.1, e.s F.a1.2 (by decide)⟩, ⟨by rw [eA]; exact F.a8.1, e.s F.a8.2 (by decide)⟩, ⟨by rw [eA]; exact F.a10.1, e.s F.a10.2 (by decide)⟩, ⟨by rw [eA]; exact F.a12.1, e.s F.a12.2 (by decide)⟩, ⟨by rw [eA]; exact F.a13.1, e.s F.a13.2 (by decide)⟩, ⟨by rw [e.A F.a13.2 rfl id]; exact F.ob_.1, e.s F.ob_.2 (by decide)⟩, ⟨fun u u0 u1 => ?_, F.us.2⟩⟩
  obtain ⟨r1, r2, r3⟩ := F.us.1 u u0 u1
  exact ⟨by rw [e.A F.a0.2 rfl id]; exact r1, r2.ex e id (fun _ z => z.elim), Nat.le_trans r3 m⟩
theorem fx_start (F : CN c n w pa lb tp rd en op ob q g) (sc : cq_s g c = 9) (hn : 2 ≤ n ∧ n ≤ 6) (R : ZR x n w 6 g) : FX c x n q (fun u v => q u + 7 + 2 * v.toNat) pa lb tp rd en op ob (fun _ => 0) (fun _ => 0) g g := by
  have x0 : ∀ j, j ≠ 0 → j ≠ 2 → cq_I g x j = 0 := fun j w1 w2 => by rw [R.x_, if_neg w1, if_neg w2]
  have I0 := R.I_
  have J0 := R.J_
  have pn := fun u u0 u1 => (F.us.1 u u0 u1).2.1
  refine ⟨⟨sc, F.a8.2, F.a10.2, F.a8.1, F.a10.1, by rw [F.i0, x0 72 (by decide) (by decide)], by rw [F.i0, x0 73 (by decide) (by decide)], by rw [F.i0, x0 63 (by decide) (by decide)], by rw [F.i0, x0 85 (by decide) (by decide)], by rw [F.i0, x0 84 (by decide) (by decide)], by rw [F.i0, x0 86 (by decide) (by decide)], by rw [F.i0, x0 68 (by decide) (by decide)], by rw [F.i0, x0 75 (by decide) (by decide)], fun k k0 k1 => ?_, fun k k0 k1 => ?_, fun k k0 k1 => ?_⟩, hn, by rw [R.x_, if_pos rfl], F.a0.1, F.a0.2, F.a1.1, F.a1.2, F.a12.1, F.a12.2, F.a13.1, F.a13.2, F.ob_.1, F.ob_.2, fun u u0 u1 => (F.us.1 u u0 u1).1, fun u u0 u1 => ⟨(pn u u0 u1).a13, (pn u u0 u1).s6⟩, fun u v u0 u1 v0 v1 => ((pn u u0 u1).rw_ v v0 v1).1, fun u u0 u1 => ?_, fun u v u0 u1 v0 v1 => ?_, by rw [x0 72 (by decide) (by decide)]; omega, fun l l0 l1 => ?_, fun l m l0 l1 l2 => ?_, fun u w u0 u1 w0 w1 ne => ?_, fun u v u' v' u0 u1 v0 v1 u0' u1' v0' v1' ne => ?_, fun u v u' v' i j u0 u1 v0 v1 u0' u1' v0' v1' i0 i1 => ?_⟩
  · rw [x0 68 (by decide) (by decide)] at k1; omega
  · rw [x0 75 (by decide) (by decide)] at k1; omega
  · rw [x0 68 (by decide) (by decide)] at k1; omega
  · have p := pn u u0 u1
    refine ⟨p.s0, p.s1, p.s2, p.s3, p.s4, p.s5, p.a8, p.a9, p.a10, p.a14, p.a15, by rw [p.Jv, R.sd u u0 (by omega)], by rw [p.I0, I0 12 u (by decide) (by decide)], fun _ => p.a3, fun z => absurd (I0 11 u (by decide) (by decide)) z, by rw [J0 21 u (by decide) (by decide)]; decide, by rw [p.I0, I0 16 u (by decide) (by decide)], by rw [I0 16 u (by decide) (by decide)]; decide, by rw [p.J0 5 (by decide), J0 20 u (by decide) (by decide)], by rw [p.J0 6 (by decide), J0 21 u (by decide) (by decide)], by rw [p.J0 7 (by decide), J0 22 u (by decide) (by decide)], fun k k0 k1 => ?_, by rw [p.I0, I0 23 u (by decide) (by decide)], by rw [I0 23 u (by decide) (by decide)]; decide, fun k k0 k1 => ?_, fun k k0 k1 => ?_, fun k k1 => p.i3 k, by rw [p.I0, I0 23 u (by decide) (by decide)]; decide, fun k k0 k1 => ?_, by rw [p.I0, I0 58 u (by decide) (by decide)], by rw [I0 58 u (by decide) (by decide)]; decide, fun k k0 k1 => ?_⟩
    · rw [I0 16 u (by decide) (by decide)] at k1; omega
    · rw [I0 23 u (by decide) (by decide)] at k1; omega
    · rw [I0 23 u (by decide) (by decide)] at k1; omega
    · rw [I0 23 u (by decide) (by decide)] at k1; omega
    · rw [I0 58 u (by decide) (by decide)] at k1; omega
  · obtain ⟨r1, r2, r3, r4⟩ := (pn u u0 u1).rw_ v v0 v1
    have e30 := I0 30 (6 * u + v) (by decide) (by decide)
    refine ⟨r2, r3, by rw [e30]; exact r4, by rw [e30]; decide, fun i i0 i1 => ?_, fun i i0 i1 => ?_, fun i j i0 i1 i2 => ?_, fun i i0 i1 => ?_⟩
    · rw [e30] at i1; omega
    · rw [e30] at i1; omega
    · rw [e30] at i2; omega
    · rw [e30] at i1; omega
  · rw [x0 72 (by decide) (by decide)] at l1; omega
  · rw [x0 72 (by decide) (by decide)] at l2; omega
  · rcases Int.lt_or_lt_of_ne ne with z | z
    · have := F.us.2 u w u0 z w1
      omega
    · have := F.us.2 w u w0 z u1
      omega
  · show q u + 7 + 2 * v.toNat ≠ q u' + 7 + 2 * v'.toNat
    by_cases e : u = u'
    · rw [e]
      omega
    · rcases Int.lt_or_lt_of_ne e with z | z
      · have := F.us.2 u u' u0 z u1'
        omega
      · have := F.us.2 u' u u0' z u1
        omega
  · rw [I0 30 (6 * u + v) (by decide) (by decide)] at i1; omega
end
section
variable {Y : cx_Y} {K : Option cx_V → cx_Q → Prop} {p : Nat} {N : Int} {h : cx_Q}
theorem fw_start (hY : cY Y) (S : S0 p N h) (hN : 0 ≤ N ∧ N ≤ 386) (hK : ∀ h, K (some (.inl 1)) h) : cw Y mi_L_law K 0 [some (.inr (.inr (some p))), none, none, none] [] h 600000 7302249 := by
  have hp : cq_s h p = 98 ∧ cq_z h p = N := ⟨S.2.1, S.2.2.1⟩
  have np : p ≠ h.1 := by have := S.1; omega
  have hp1 : cq_s (cq_nw h 9 0) p = 98 ∧ cq_z (cq_nw h 9 0) p = N := ⟨(nw_o np).1.trans hp.1, (nw_o np).2.1.trans hp.2⟩
  have e1 : cq_I (cq_nw h 9 0) p = cq_I h p := (nw_o np).2.2.1
  have hi : ∀ j, cq_I (cq_nw h 9 0) h.1 j = 0 := fun j => by rw [nw_n.2.2.1]
  refine bx_L_law_0 hY (pf2_ok hY) ?_
  simp only [wp_iconst, wp_bipush, wp_sipush, wp_ldc, wp_ldc2_w, wp_lconst0, wp_lconst1, wp_aconst_null, wp_iload_0, wp_istore_0, wp_iload_1, wp_istore_1, wp_iload_2, wp_istore_2, wp_iload_3, wp_istore_3, wp_iload, wp_istore, wp_lload_0, wp_lstore_0, wp_lload_1, wp_lstore_1, wp_lload_2, wp_lstore_2, wp_lload_3, wp_lstore_3, wp_lload, wp_lstore, wp_aload_0, wp_astore_0, wp_aload_1, wp_astore_1, wp_aload_2, wp_astore_2, wp_aload_3, wp_astore_3, wp_aload, wp_astore, wp_iinc, wp_iadd, wp_isub, wp_imul, wp_iand, wp_ior, wp_ixor, wp_ishl, wp_ishr, wp_iushr, wp_irem, wp_ladd, wp_lsub, wp_lmul, wp_land, wp_lor, wp_lxor, wp_lshl, wp_lshr, wp_lushr, wp_lrem, wp_lcmp, wp_i2l, wp_l2i, wp_dupI, wp_dupA, wp_dup2J, wp_dup2IA, wp_popI, wp_popA, wp_pop2, wp_goto, wp_if_eq, wp_icmp_eq, wp_if_ne, wp_icmp_ne, wp_if_lt, wp_icmp_lt, wp_if_ge, wp_icmp_ge, wp_if_gt, wp_icmp_gt, wp_if_le, wp_icmp_le, wp_ifnull, wp_ifnonnull, wp_acmp_eq, wp_acmp_ne, wp_tableswitch, wp_get0, wp_put0, wp_get1, wp_put1, wp_get2, wp_put2, wp_get3, wp_put3, wp_new, wp_newarray, wp_anewarray, wp_alen, wp_iaload, wp_laload, wp_baload, wp_aaload, wp_iastore, wp_lastore, wp_bastore, wp_aastore, wp_return, wp_ireturnI, wp_ireturnZ, wp_lreturn, wp_areturnO, wp_areturnA, wp_max, wp_min, wp_obj, wp_virt, wp_nil, ld_I0, ld_Is, ld_J0, ld_Js, ld_A0, ld_As, ha_0, ha_s, cx_put1, cx_put2, cx_dl, cx_tgt, true_and, and_true, Nat.reduceAdd, Nat.reduceSub, Int.reduceAdd, Int.reduceNeg, Int.reduceToNat, Int.reduceSub, Int.cast_ofNat_Int, List.take_succ_cons, List.take_zero, List.drop_succ_cons, List.drop_zero, List.take_nil, List.drop_nil, Option.toList_some, Option.toList_none, List.cons_append, List.nil_append, wp_spec, ne_eq, Nat.reduceEqDiff, not_false_eq_true, true_or, or_true]
  (repeat' (with_reducible (first | refine And.intro ?_ ?_ | intro _)))
  all_goals (try omega)
  refine cl_L_cell (Nat.le_of_ble_eq_true rfl) (by decide) (by decide) (d_L_cell hY hp1 (by decide) ?_)
  rw [e1]
  refine bx_L_law_9 hY (pf2_ok hY) ?_
  simp only [wp_iconst, wp_bipush, wp_sipush, wp_ldc, wp_ldc2_w, wp_lconst0, wp_lconst1, wp_aconst_null, wp_iload_0, wp_istore_0, wp_iload_1, wp_istore_1, wp_iload_2, wp_istore_2, wp_iload_3, wp_istore_3, wp_iload, wp_istore, wp_lload_0, wp_lstore_0, wp_lload_1, wp_lstore_1, wp_lload_2, wp_lstore_2, wp_lload_3, wp_lstore_3, wp_lload, wp_lstore, wp_aload_0, wp_astore_0, wp_aload_1, wp_astore_1, wp_aload_2, wp_astore_2, wp_aload_3, wp_astore_3, wp_aload, wp_astore, wp_iinc, wp_iadd, wp_isub, wp_imul, wp_iand, wp_ior, wp_ixor, wp_ishl, wp_ishr, wp_iushr, wp_irem, wp_ladd, wp_lsub, wp_lmul, wp_land, wp_lor, wp_lxor, wp_lshl, wp_lshr, wp_lushr, wp_lrem, wp_lcmp, wp_i2l, wp_l2i, wp_dupI, wp_dupA, wp_dup2J, wp_dup2IA, wp_popI, wp_popA, wp_pop2, wp_goto, wp_if_eq, wp_icmp_eq, wp_if_ne, wp_icmp_ne, wp_if_lt, wp_icmp_lt, wp_if_ge, wp_icmp_ge, wp_if_gt, wp_icmp_gt, wp_if_le, wp_icmp_le, wp_ifnull, wp_ifnonnull, wp_acmp_eq, wp_acmp_ne, wp_tableswitch, wp_get0, wp_put0, wp_get1, wp_put1, wp_get2, wp_put2, wp_get3, wp_put3, wp_new, wp_newarray, wp_anewarray, wp_alen, wp_iaload, wp_laload, wp_baload, wp_aaload, wp_iastore, wp_lastore, wp_bastore, wp_aastore, wp_return, wp_ireturnI, wp_ireturnZ, wp_lreturn, wp_areturnO, wp_areturnA, wp_max, wp_min, wp_obj, wp_virt, wp_nil, ld_I0, ld_Is, ld_J0, ld_Js, ld_A0, ld_As, ha_0, ha_s, cx_put1, cx_put2, cx_dl, cx_tgt, true_and, and_true, Nat.reduceAdd, Nat.reduceSub, Int.reduceAdd, Int.reduceNeg, Int.reduceToNat, Int.reduceSub, Int.cast_ofNat_Int, List.take_succ_cons, List.take_zero, List.drop_succ_cons, List.drop_zero, List.take_nil, List.drop_nil, Option.toList_some, Option.toList_none, List.cons_append, List.nil_append, wp_spec, ne_eq, Nat.reduceEqDiff, not_false_eq_true, true_or, or_true]
  refine cl_L_cell (Nat.le_of_ble_eq_true rfl) (by decide) (by decide) (d_L_cell hY hp1 (by decide) ?_)
  rw [e1]
  refine bx_L_law_14 hY (pf2_ok hY) ?_
  simp only [wp_iconst, wp_bipush, wp_sipush, wp_ldc, wp_ldc2_w, wp_lconst0, wp_lconst1, wp_aconst_null, wp_iload_0, wp_istore_0, wp_iload_1, wp_istore_1, wp_iload_2, wp_istore_2, wp_iload_3, wp_istore_3, wp_iload, wp_istore, wp_lload_0, wp_lstore_0, wp_lload_1, wp_lstore_1, wp_lload_2, wp_lstore_2, wp_lload_3, wp_lstore_3, wp_lload, wp_lstore, wp_aload_0, wp_astore_0, wp_aload_1, wp_astore_1, wp_aload_2, wp_astore_2, wp_aload_3, wp_astore_3, wp_aload, wp_astore, wp_iinc, wp_iadd, wp_isub, wp_imul, wp_iand, wp_ior, wp_ixor, wp_ishl, wp_ishr, wp_iushr, wp_irem, wp_ladd, wp_lsub, wp_lmul, wp_land, wp_lor, wp_lxor, wp_lshl, wp_lshr, wp_lushr, wp_lrem, wp_lcmp, wp_i2l, wp_l2i, wp_dupI, wp_dupA, wp_dup2J, wp_dup2IA, wp_popI, wp_popA, wp_pop2, wp_goto, wp_if_eq, wp_icmp_eq, wp_if_ne, wp_icmp_ne, wp_if_lt, wp_icmp_lt, wp_if_ge, wp_icmp_ge, wp_if_gt, wp_icmp_gt, wp_if_le, wp_icmp_le, wp_ifnull, wp_ifnonnull, wp_acmp_eq, wp_acmp_ne, wp_tableswitch, wp_get0, wp_put0, wp_get1, wp_put1, wp_get2, wp_put2, wp_get3, wp_put3, wp_new, wp_newarray, wp_anewarray, wp_alen, wp_iaload, wp_laload, wp_baload, wp_aaload, wp_iastore, wp_lastore, wp_bastore, wp_aastore, wp_return, wp_ireturnI, wp_ireturnZ, wp_lreturn, wp_areturnO, wp_areturnA, wp_max, wp_min, wp_obj, wp_virt, wp_nil, ld_I0, ld_Is, ld_J0, ld_Js, ld_A0, ld_As, ha_0, ha_s, cx_put1, cx_put2, cx_dl, cx_tgt, true_and, and_true, Nat.reduceAdd, Nat.reduceSub, Int.reduceAdd, Int.reduceNeg, Int.reduceToNat, Int.reduceSub, Int.cast_ofNat_Int, List.take_succ_cons, List.take_zero, List.drop_succ_cons, List.drop_zero, List.take_nil, List.drop_nil, Option.toList_some, Option.toList_none, List.cons_append, List.nil_append, wp_spec, ne_eq, Nat.reduceEqDiff, not_false_eq_true, true_or, or_true]
  obtain ⟨a, ha⟩ : ∃ a, a = if 0 < N then cq_I h p 0 else 0 := ⟨_, rfl⟩
  obtain ⟨b, hb⟩ : ∃ b, b = if 1 < N then cq_I h p 1 else 0 := ⟨_, rfl⟩
  obtain ⟨n, hn⟩ : ∃ n, cn a = n := ⟨_, rfl⟩
  rw [← ha, ← hb]
  have H := S.CI (n := n)
  have hn6 : 2 ≤ n ∧ n ≤ 6 := by
    rw [← hn]
    unfold cn
    split
    · omega
    · split <;> omega
  refine cl_X10_init (Nat.le_of_ble_eq_true rfl) (by decide) (by decide) (e_X10_init hY hn H hi ?_)
  intro g pa lb tp rd en op ob q G C
  have fp := G.fr.2 p (by rw [hp.1]; exact iR98)
  have hp2 : cq_s g p = 98 ∧ cq_z g p = N := ⟨fp.2.1.trans hp.1, fp.2.2.1.trans hp.2⟩
  have e2 : cq_I g p = cq_I h p := fp.2.2.2.1
  have hal := G.al g.1 (Nat.le_refl _)
  have np2 : p ≠ g.1 := fun e => by rw [← e, hp2.1] at hal; exact absurd hal (by decide)
  have hp3 : cq_s (cq_nw g 10 0) p = 98 ∧ cq_z (cq_nw g 10 0) p = N := ⟨(nw_o np2).1.trans hp2.1, (nw_o np2).2.1.trans hp2.2⟩
  have e3 : cq_I (cq_nw g 10 0) p = cq_I h p := (nw_o np2).2.2.1.trans e2
  refine bx_L_law_17 hY (pf2_ok hY) ?_
  simp only [wp_iconst, wp_bipush, wp_sipush, wp_ldc, wp_ldc2_w, wp_lconst0, wp_lconst1, wp_aconst_null, wp_iload_0, wp_istore_0, wp_iload_1, wp_istore_1, wp_iload_2, wp_istore_2, wp_iload_3, wp_istore_3, wp_iload, wp_istore, wp_lload_0, wp_lstore_0, wp_lload_1, wp_lstore_1, wp_lload_2, wp_lstore_2, wp_lload_3, wp_lstore_3, wp_lload, wp_lstore, wp_aload_0, wp_astore_0, wp_aload_1, wp_astore_1, wp_aload_2, wp_astore_2, wp_aload_3, wp_astore_3, wp_aload, wp_astore, wp_iinc, wp_iadd, wp_isub, wp_imul, wp_iand, wp_ior, wp_ixor, wp_ishl, wp_ishr, wp_iushr, wp_irem, wp_ladd, wp_lsub, wp_lmul, wp_land, wp_lor, wp_lxor, wp_lshl, wp_lshr, wp_lushr, wp_lrem, wp_lcmp, wp_i2l, wp_l2i, wp_dupI, wp_dupA, wp_dup2J, wp_dup2IA, wp_popI, wp_popA, wp_pop2, wp_goto, wp_if_eq, wp_icmp_eq, wp_if_ne, wp_icmp_ne, wp_if_lt, wp_icmp_lt, wp_if_ge, wp_icmp_ge, wp_if_gt, wp_icmp_gt, wp_if_le, wp_icmp_le, wp_ifnull, wp_ifnonnull, wp_acmp_eq, wp_acmp_ne, wp_tableswitch, wp_get0, wp_put0, wp_get1, wp_put1, wp_get2, wp_put2, wp_get3, wp_put3, wp_new, wp_newarray, wp_anewarray, wp_alen, wp_iaload, wp_laload, wp_baload, wp_aaload, wp_iastore, wp_lastore, wp_bastore, wp_aastore, wp_return, wp_ireturnI, wp_ireturnZ, wp_lreturn, wp_areturnO, wp_areturnA, wp_max, wp_min, wp_obj, wp_virt, wp_nil, ld_I0, ld_Is, ld_J0, ld_Js, ld_A0, ld_As, ha_0, ha_s, cx_put1, cx_put2, cx_dl, cx_tgt, true_and, and_true, Nat.reduceAdd, Nat.reduceSub, Int.reduceAdd, Int.reduceNeg, Int.reduceToNat, Int.reduceSub, Int.cast_ofNat_Int, List.take_succ_cons, List.take_zero, List.drop_succ_cons, List.drop_zero, List.take_nil, List.drop_nil, Option.toList_some, Option.toList_none, List.cons_append, List.nil_append, wp_spec, ne_eq, Nat.reduceEqDiff, not_false_eq_true, true_or, or_true]
  (repeat' (with_reducible (first | refine And.intro ?_ ?_ | intro _)))
  all_goals (try omega)
  refine cl_L_cell (Nat.le_of_ble_eq_true rfl) (by decide) (by decide) (d_L_cell hY hp3 (by decide) ?_)
  rw [e3, ← ha]
  refine bx_L_law_27 hY (pf2_ok hY) ?_
  simp only [wp_iconst, wp_bipush, wp_sipush, wp_ldc, wp_ldc2_w, wp_lconst0, wp_lconst1, wp_aconst_null, wp_iload_0, wp_istore_0, wp_iload_1, wp_istore_1, wp_iload_2, wp_istore_2, wp_iload_3, wp_istore_3, wp_iload, wp_istore, wp_lload_0, wp_lstore_0, wp_lload_1, wp_lstore_1, wp_lload_2, wp_lstore_2, wp_lload_3, wp_lstore_3, wp_lload, wp_lstore, wp_aload_0, wp_astore_0, wp_aload_1, wp_astore_1, wp_aload_2, wp_astore_2, wp_aload_3, wp_astore_3, wp_aload, wp_astore, wp_iinc, wp_iadd, wp_isub, wp_imul, wp_iand, wp_ior, wp_ixor, wp_ishl, wp_ishr, wp_iushr, wp_irem, wp_ladd, wp_lsub, wp_lmul, wp_land, wp_lor, wp_lxor, wp_lshl, wp_lshr, wp_lushr, wp_lrem, wp_lcmp, wp_i2l, wp_l2i, wp_dupI, wp_dupA, wp_dup2J, wp_dup2IA, wp_popI, wp_popA, wp_pop2, wp_goto, wp_if_eq, wp_icmp_eq, wp_if_ne, wp_icmp_ne, wp_if_lt, wp_icmp_lt, wp_if_ge, wp_icmp_ge, wp_if_gt, wp_icmp_gt, wp_if_le, wp_icmp_le, wp_ifnull, wp_ifnonnull, wp_acmp_eq, wp_acmp_ne, wp_tableswitch, wp_get0, wp_put0, wp_get1, wp_put1, wp_get2, wp_put2, wp_get3, wp_put3, wp_new, wp_newarray, wp_anewarray, wp_alen, wp_iaload, wp_laload, wp_baload, wp_aaload, wp_iastore, wp_lastore, wp_bastore, wp_aastore, wp_return, wp_ireturnI, wp_ireturnZ, wp_lreturn, wp_areturnO, wp_areturnA, wp_max, wp_min, wp_obj, wp_virt, wp_nil, ld_I0, ld_Is, ld_J0, ld_Js, ld_A0, ld_As, ha_0, ha_s, cx_put1, cx_put2, cx_dl, cx_tgt, true_and, and_true, Nat.reduceAdd, Nat.reduceSub, Int.reduceAdd, Int.reduceNeg, Int.reduceToNat, Int.reduceSub, Int.cast_ofNat_Int, List.take_succ_cons, List.take_zero, List.drop_succ_cons, List.drop_zero, List.take_nil, List.drop_nil, Option.toList_some, Option.toList_none, List.cons_append, List.nil_append, wp_spec, ne_eq, Nat.reduceEqDiff, not_false_eq_true, true_or, or_true]
  refine cl_L_cell (Nat.le_of_ble_eq_true rfl) (by decide) (by decide) (d_L_cell hY hp3 (by decide) ?_)
  rw [e3, ← hb]
  refine bx_L_law_32 hY (pf2_ok hY) ?_
  simp only [wp_iconst, wp_bipush, wp_sipush, wp_ldc, wp_ldc2_w, wp_lconst0, wp_lconst1, wp_aconst_null, wp_iload_0, wp_istore_0, wp_iload_1, wp_istore_1, wp_iload_2, wp_istore_2, wp_iload_3, wp_istore_3, wp_iload, wp_istore, wp_lload_0, wp_lstore_0, wp_lload_1, wp_lstore_1, wp_lload_2, wp_lstore_2, wp_lload_3, wp_lstore_3, wp_lload, wp_lstore, wp_aload_0, wp_astore_0, wp_aload_1, wp_astore_1, wp_aload_2, wp_astore_2, wp_aload_3, wp_astore_3, wp_aload, wp_astore, wp_iinc, wp_iadd, wp_isub, wp_imul, wp_iand, wp_ior, wp_ixor, wp_ishl, wp_ishr, wp_iushr, wp_irem, wp_ladd, wp_lsub, wp_lmul, wp_land, wp_lor, wp_lxor, wp_lshl, wp_lshr, wp_lushr, wp_lrem, wp_lcmp, wp_i2l, wp_l2i, wp_dupI, wp_dupA, wp_dup2J, wp_dup2IA, wp_popI, wp_popA, wp_pop2, wp_goto, wp_if_eq, wp_icmp_eq, wp_if_ne, wp_icmp_ne, wp_if_lt, wp_icmp_lt, wp_if_ge, wp_icmp_ge, wp_if_gt, wp_icmp_gt, wp_if_le, wp_icmp_le, wp_ifnull, wp_ifnonnull, wp_acmp_eq, wp_acmp_ne, wp_tableswitch, wp_get0, wp_put0, wp_get1, wp_put1, wp_get2, wp_put2, wp_get3, wp_put3, wp_new, wp_newarray, wp_anewarray, wp_alen, wp_iaload, wp_laload, wp_baload, wp_aaload, wp_iastore, wp_lastore, wp_bastore, wp_aastore, wp_return, wp_ireturnI, wp_ireturnZ, wp_lreturn, wp_areturnO, wp_areturnA, wp_max, wp_min, wp_obj, wp_virt, wp_nil, ld_I0, ld_Is, ld_J0, ld_Js, ld_A0, ld_As, ha_0, ha_s, cx_put1, cx_put2, cx_dl, cx_tgt, true_and, and_true, Nat.reduceAdd, Nat.reduceSub, Int.reduceAdd, Int.reduceNeg, Int.reduceToNat, Int.reduceSub, Int.cast_ofNat_Int, List.take_succ_cons, List.take_zero, List.drop_succ_cons, List.drop_zero, List.take_nil, List.drop_nil, Option.toList_some, Option.toList_none, List.cons_append, List.nil_append, wp_spec, ne_eq, Nat.reduceEqDiff, not_false_eq_true, true_or, or_true]
  have N0 : NJ g.1 g 0 0 (cq_nw g 10 0) := by
    refine ⟨⟨rfl, nw_n.1, fun q q1 q2 => absurd q1 (by omega), fun a w => nw_o (by omega), fun a w1 w2 => ?_, ?_, fun a w => ?_⟩, fun a w1 w2 => ?_⟩
    · have w2 : a < g.1 + 1 := w2
      omega
    · rw [nw_n.2.2.1]
      funext j
      split <;> rfl
    · have w : g.1 + 1 ≤ a := w
      rw [(nw_o (by omega)).1]
      exact G.al a (by omega)
    · have w2 : a < g.1 + 1 := w2
      omega
  refine cl_X11_init (Nat.le_of_ble_eq_true rfl) (by decide) (by decide) (d_X11_init hY N0 ?_)
  intro h0 g2 R A Zr
  rw [hn] at R Zr
  obtain ⟨H2, z2⟩ := G.aL rfl R.1.rS A
  refine bx_L_law_35 hY (pf2_ok hY) ?_
  simp only [wp_iconst, wp_bipush, wp_sipush, wp_ldc, wp_ldc2_w, wp_lconst0, wp_lconst1, wp_aconst_null, wp_iload_0, wp_istore_0, wp_iload_1, wp_istore_1, wp_iload_2, wp_istore_2, wp_iload_3, wp_istore_3, wp_iload, wp_istore, wp_lload_0, wp_lstore_0, wp_lload_1, wp_lstore_1, wp_lload_2, wp_lstore_2, wp_lload_3, wp_lstore_3, wp_lload, wp_lstore, wp_aload_0, wp_astore_0, wp_aload_1, wp_astore_1, wp_aload_2, wp_astore_2, wp_aload_3, wp_astore_3, wp_aload, wp_astore, wp_iinc, wp_iadd, wp_isub, wp_imul, wp_iand, wp_ior, wp_ixor, wp_ishl, wp_ishr, wp_iushr, wp_irem, wp_ladd, wp_lsub, wp_lmul, wp_land, wp_lor, wp_lxor, wp_lshl, wp_lshr, wp_lushr, wp_lrem, wp_lcmp, wp_i2l, wp_l2i, wp_dupI, wp_dupA, wp_dup2J, wp_dup2IA, wp_popI, wp_popA, wp_pop2, wp_goto, wp_if_eq, wp_icmp_eq, wp_if_ne, wp_icmp_ne, wp_if_lt, wp_icmp_lt, wp_if_ge, wp_icmp_ge, wp_if_gt, wp_icmp_gt, wp_if_le, wp_icmp_le, wp_ifnull, wp_ifnonnull, wp_acmp_eq, wp_acmp_ne, wp_tableswitch, wp_get0, wp_put0, wp_get1, wp_put1, wp_get2, wp_put2, wp_get3, wp_put3, wp_new, wp_newarray, wp_anewarray, wp_alen, wp_iaload, wp_laload, wp_baload, wp_aaload, wp_iastore, wp_lastore, wp_bastore, wp_aastore, wp_return, wp_ireturnI, wp_ireturnZ, wp_lreturn, wp_areturnO, wp_areturnA, wp_max, wp_min, wp_obj, wp_virt, wp_nil, ld_I0, ld_Is, ld_J0, ld_Js, ld_A0, ld_As, ha_0, ha_s, cx_put1, cx_put2, cx_dl, cx_tgt, true_and, and_true, Nat.reduceAdd, Nat.reduceSub, Int.reduceAdd, Int.reduceNeg, Int.reduceToNat, Int.reduceSub, Int.cast_ofNat_Int, List.take_succ_cons, List.take_zero, List.drop_succ_cons, List.drop_zero, List.take_nil, List.drop_nil, Option.toList_some, Option.toList_none, List.cons_append, List.nil_append, wp_spec, ne_eq, Nat.reduceEqDiff, not_false_eq_true, true_or, or_true]
  have lt : ∀ d, cq_s g d ≠ 99 → d < g.1 := fun d w => by
    by_cases z : g.1 ≤ d
    · exact absurd (G.al d z) w
    · omega
  have ex : evx (fun _ => False) g g2 := ⟨fun d w => ⟨(A.2.1 d (lt d w)).1, (A.2.1 d (lt d w)).2.1⟩, fun d w => (A.2.1 d (lt d (by rw [w]; decide))).2.2.2.1, fun d w _ => ⟨(A.2.1 d (lt d w)).2.2.2.1, fun _ => (A.2.1 d (lt d w)).2.2.1, fun _ => (A.2.1 d (lt d w)).2.2.2.2⟩⟩
  have C2 := C.ex G.cs ex (by have := A.1; omega)
  have X : LF p h.1 g.1 n N q (fun u v => q u + 7 + 2 * v.toNat) pa lb tp rd en op ob 0 g2 := by
    have lp : p < g.1 := lt p (by rw [hp2.1]; decide)
    have ap := A.2.1 p lp
    exact ⟨0, E0, 0, _, _, 0, _, _, H2, by decide, R.fr H2.fr, hn6, ⟨by decide, by decide⟩, fun _ => ⟨Int.le_refl 0, (by decide : (0 : Int) ≤ 20)⟩, fun _ _ => rfl, ⟨ap.1.trans hp2.1, ap.2.1.trans hp2.2⟩, fx_start C2 H2.cs hn6 Zr, by rw [Zr.x_, if_neg (by decide), if_neg (by decide)]; decide⟩
  exact cw_room (by decide) (by decide) (fw_loop hY hN hK 64 0 g2 (by decide) (by decide) X)
end
