/-! the class: a user is made -/
section
variable {Y : cx_Y} {K : Option cx_V → cx_Q → Prop} {c : Nat} {n L Z : Int} {E : Nat → Option Int} {h0 : cx_Q} {X : List Nat} {h : cx_Q}
theorem nw_k {a : Nat} {s : Nat} {z : Int} (hal : cq_s h h.1 = 99) (hc : cq_s h c = 9) : kA c a h (cq_nw h s z) := by
  have nb : ∀ {b : Nat}, cq_s h b ≠ 99 → b ≠ h.1 := fun w e => by rw [e] at w; exact w hal
  refine ⟨fun b w => (nw_o (s := s) (z := z) (nb w)).1, fun b r w _ => ?_, (nw_o (s := s) (z := z) (nb (by rw [hc]; decide))).2.2.1⟩
  rw [(nw_o (s := s) (z := z) (nb w)).2.2.2.2]
theorem sA_k {a : Nat} {j : Int} {v : Option Nat} : kA c a h (cq_sA h a j v) := ⟨fun _ _ => rfl, fun b r _ w => by rw [mm_sA, if_neg (fun e => w e.1)], rfl⟩
/-- what is other at cells that were not there yet does not count -/
theorem kA.nx {a b : Nat} {h' h2 : cx_Q} (p : kA c a h h') (hb : cq_s h b = 99) (q : kA c b h' h2) : kA c a h h2 := ⟨fun d w => (q.1 d (by rw [p.1 d w]; exact w)).trans (p.1 d w), fun d r w w2 => (q.2.1 d r (by rw [p.1 d w]; exact w) (fun e => by rw [e] at w; exact w hb)).trans (p.2.1 d r w w2), q.2.2.trans p.2.2⟩
theorem px_loop (hY : cY Y) {a b : Nat} {v : Int64} (hn : 0 ≤ n ∧ n ≤ 6) : ∀ (r : Nat) (i : Int) (h : cx_Q), 0 ≤ i → i + r = n → CI c n L Z E h0 (b :: a :: X) h → cq_s h a = 4 → cq_s h b = 181 → cq_A h a 13 = some b → (∀ j, 0 ≤ j → j < i → cq_A h b j ≠ none) → (∀ h', CI c n L Z E h0 (b :: a :: X) h' → kA c b h h' → (∀ j, 0 ≤ j → j < n → cq_A h' b j ≠ none) → K none h') → cw Y mi_X5_init K 62 [some (.inr (.inr (some a))), some (.inr (.inl v)), none, some (.inl n), some (.inl i)] [] h (2 * r) (6 * r)
  | 0, i, h, h1, h2, H, sa, sb, e13, hj, hK => by
    refine bx_X5_init_62 hY (pf2_ok hY) ?_
    simp only [wp_iconst, wp_bipush, wp_sipush, wp_ldc, wp_ldc2_w, wp_lconst0, wp_lconst1, wp_aconst_null, wp_iload_0, wp_istore_0, wp_iload_1, wp_istore_1, wp_iload_2, wp_istore_2, wp_iload_3, wp_istore_3, wp_iload, wp_istore, wp_lload_0, wp_lstore_0, wp_lload_1, wp_lstore_1, wp_lload_2, wp_lstore_2, wp_lload_3, wp_lstore_3, wp_lload, wp_lstore, wp_aload_0, wp_astore_0, wp_aload_1, wp_astore_1, wp_aload_2, wp_astore_2, wp_aload_3, wp_astore_3, wp_aload, wp_astore, wp_iinc, wp_iadd, wp_isub, wp_imul, wp_iand, wp_ior, wp_ixor, wp_ishl, wp_ishr, wp_iushr, wp_irem, wp_ladd, wp_lsub, wp_lmul, wp_land, wp_lor, wp_lxor, wp_lshl, wp_lshr, wp_lushr, wp_lrem, wp_lcmp, wp_i2l, wp_l2i, wp_dupI, wp_dupA, wp_dup2J, wp_dup2IA, wp_popI, wp_popA, wp_pop2, wp_goto, wp_if_eq, wp_icmp_eq, wp_if_ne, wp_icmp_ne, wp_if_lt, wp_icmp_lt, wp_if_ge, wp_icmp_ge, wp_if_gt, wp_icmp_gt, wp_if_le, wp_icmp_le, wp_ifnull, wp_ifnonnull, wp_acmp_eq, wp_acmp_ne, wp_tableswitch, wp_get0, wp_put0, wp_get1, wp_put1, wp_get2, wp_put2, wp_get3, wp_put3, wp_new, wp_newarray, wp_anewarray, wp_alen, wp_iaload, wp_laload, wp_baload, wp_aaload, wp_iastore, wp_lastore, wp_bastore, wp_aastore, wp_return, wp_ireturnI, wp_ireturnZ, wp_lreturn, wp_areturnO, wp_areturnA, wp_max, wp_min, wp_obj, wp_virt, wp_nil, ld_I0, ld_Is, ld_J0, ld_Js, ld_A0, ld_As, ha_0, ha_s, cx_put1, cx_put2, cx_dl, cx_tgt, true_and, and_true, Nat.reduceAdd, Nat.reduceSub, Int.reduceAdd, Int.reduceNeg, Int.reduceToNat, Int.reduceSub, Int.cast_ofNat_Int, List.take_succ_cons, List.take_zero, List.drop_succ_cons, List.drop_zero, List.take_nil, List.drop_nil, Option.toList_some, Option.toList_none, List.cons_append, List.nil_append, wp_spec, ne_eq, Nat.reduceEqDiff, not_false_eq_true, true_or, or_true, wf_X3_mix, wf_X3_key, wf_X3_times, wf_X3_timesModuloQ, wf_X3_power, wf_X3_rest, wf_X3_secretOf, wf_X3_sealSum, wf_X3_sum, wf_X3_letterKey, wf_X3_nextOf, wf_X3_isOpen, wf_X3_veil, wf_X3_sealIsRight, cx_sz, cx_c2, cond_true, cond_false, Nat.reduceLeDiff]
    refine ⟨fun _ => ?_, fun q => absurd q (by omega)⟩
    refine bx_X5_init_88 hY (pf2_ok hY) ?_
    simp only [wp_iconst, wp_bipush, wp_sipush, wp_ldc, wp_ldc2_w, wp_lconst0, wp_lconst1, wp_aconst_null, wp_iload_0, wp_istore_0, wp_iload_1, wp_istore_1, wp_iload_2, wp_istore_2, wp_iload_3, wp_istore_3, wp_iload, wp_istore, wp_lload_0, wp_lstore_0, wp_lload_1, wp_lstore_1, wp_lload_2, wp_lstore_2, wp_lload_3, wp_lstore_3, wp_lload, wp_lstore, wp_aload_0, wp_astore_0, wp_aload_1, wp_astore_1, wp_aload_2, wp_astore_2, wp_aload_3, wp_astore_3, wp_aload, wp_astore, wp_iinc, wp_iadd, wp_isub, wp_imul, wp_iand, wp_ior, wp_ixor, wp_ishl, wp_ishr, wp_iushr, wp_irem, wp_ladd, wp_lsub, wp_lmul, wp_land, wp_lor, wp_lxor, wp_lshl, wp_lshr, wp_lushr, wp_lrem, wp_lcmp, wp_i2l, wp_l2i, wp_dupI, wp_dupA, wp_dup2J, wp_dup2IA, wp_popI, wp_popA, wp_pop2, wp_goto, wp_if_eq, wp_icmp_eq, wp_if_ne, wp_icmp_ne, wp_if_lt, wp_icmp_lt, wp_if_ge, wp_icmp_ge, wp_if_gt, wp_icmp_gt, wp_if_le, wp_icmp_le, wp_ifnull, wp_ifnonnull, wp_acmp_eq, wp_acmp_ne, wp_tableswitch, wp_get0, wp_put0, wp_get1, wp_put1, wp_get2, wp_put2, wp_get3, wp_put3, wp_new, wp_newarray, wp_anewarray, wp_alen, wp_iaload, wp_laload, wp_baload, wp_aaload, wp_iastore, wp_lastore, wp_bastore, wp_aastore, wp_return, wp_ireturnI, wp_ireturnZ, wp_lreturn, wp_areturnO, wp_areturnA, wp_max, wp_min, wp_obj, wp_virt, wp_nil, ld_I0, ld_Is, ld_J0, ld_Js, ld_A0, ld_As, ha_0, ha_s, cx_put1, cx_put2, cx_dl, cx_tgt, true_and, and_true, Nat.reduceAdd, Nat.reduceSub, Int.reduceAdd, Int.reduceNeg, Int.reduceToNat, Int.reduceSub, Int.cast_ofNat_Int, List.take_succ_cons, List.take_zero, List.drop_succ_cons, List.drop_zero, List.take_nil, List.drop_nil, Option.toList_some, Option.toList_none, List.cons_append, List.nil_append, wp_spec, ne_eq, Nat.reduceEqDiff, not_false_eq_true, true_or, or_true, wf_X3_mix, wf_X3_key, wf_X3_times, wf_X3_timesModuloQ, wf_X3_power, wf_X3_rest, wf_X3_secretOf, wf_X3_sealSum, wf_X3_sum, wf_X3_letterKey, wf_X3_nextOf, wf_X3_isOpen, wf_X3_veil, wf_X3_sealIsRight, cx_sz, cx_c2, cond_true, cond_false, Nat.reduceLeDiff]
    exact hK h H kA.refl (fun j w1 w2 => hj j w1 (by omega))
  | r + 1, i, h, h1, h2, H, sa, sb, e13, hj, hK => by
    have hal := H.al h.1 (Nat.le_refl _)
    have nb : b ≠ h.1 := fun e => by rw [← e, sb] at hal; exact absurd hal (by decide)
    have na : a ≠ h.1 := fun e => by rw [← e, sa] at hal; exact absurd hal (by decide)
    refine bx_X5_init_62 hY (pf2_ok hY) ?_
    simp only [wp_iconst, wp_bipush, wp_sipush, wp_ldc, wp_ldc2_w, wp_lconst0, wp_lconst1, wp_aconst_null, wp_iload_0, wp_istore_0, wp_iload_1, wp_istore_1, wp_iload_2, wp_istore_2, wp_iload_3, wp_istore_3, wp_iload, wp_istore, wp_lload_0, wp_lstore_0, wp_lload_1, wp_lstore_1, wp_lload_2, wp_lstore_2, wp_lload_3, wp_lstore_3, wp_lload, wp_lstore, wp_aload_0, wp_astore_0, wp_aload_1, wp_astore_1, wp_aload_2, wp_astore_2, wp_aload_3, wp_astore_3, wp_aload, wp_astore, wp_iinc, wp_iadd, wp_isub, wp_imul, wp_iand, wp_ior, wp_ixor, wp_ishl, wp_ishr, wp_iushr, wp_irem, wp_ladd, wp_lsub, wp_lmul, wp_land, wp_lor, wp_lxor, wp_lshl, wp_lshr, wp_lushr, wp_lrem, wp_lcmp, wp_i2l, wp_l2i, wp_dupI, wp_dupA, wp_dup2J, wp_dup2IA, wp_popI, wp_popA, wp_pop2, wp_goto, wp_if_eq, wp_icmp_eq, wp_if_ne, wp_icmp_ne, wp_if_lt, wp_icmp_lt, wp_if_ge, wp_icmp_ge, wp_if_gt, wp_icmp_gt, wp_if_le, wp_icmp_le, wp_ifnull, wp_ifnonnull, wp_acmp_eq, wp_acmp_ne, wp_tableswitch, wp_get0, wp_put0, wp_get1, wp_put1, wp_get2, wp_put2, wp_get3, wp_put3, wp_new, wp_newarray, wp_anewarray, wp_alen, wp_iaload, wp_laload, wp_baload, wp_aaload, wp_iastore, wp_lastore, wp_bastore, wp_aastore, wp_return, wp_ireturnI, wp_ireturnZ, wp_lreturn, wp_areturnO, wp_areturnA, wp_max, wp_min, wp_obj, wp_virt, wp_nil, ld_I0, ld_Is, ld_J0, ld_Js, ld_A0, ld_As, ha_0, ha_s, cx_put1, cx_put2, cx_dl, cx_tgt, true_and, and_true, Nat.reduceAdd, Nat.reduceSub, Int.reduceAdd, Int.reduceNeg, Int.reduceToNat, Int.reduceSub, Int.cast_ofNat_Int, List.take_succ_cons, List.take_zero, List.drop_succ_cons, List.drop_zero, List.take_nil, List.drop_nil, Option.toList_some, Option.toList_none, List.cons_append, List.nil_append, wp_spec, ne_eq, Nat.reduceEqDiff, not_false_eq_true, true_or, or_true, wf_X3_mix, wf_X3_key, wf_X3_times, wf_X3_timesModuloQ, wf_X3_power, wf_X3_rest, wf_X3_secretOf, wf_X3_sealSum, wf_X3_sum, wf_X3_letterKey, wf_X3_nextOf, wf_X3_isOpen, wf_X3_veil, wf_X3_sealIsRight, cx_sz, cx_c2, cond_true, cond_false, Nat.reduceLeDiff, sa, e13]
    refine ⟨fun q => absurd q (by omega), fun _ => ⟨⟨by omega, by omega⟩, ?_⟩⟩
    have G := H.nw (s := 5) (z := 0) True.intro (fun q => absurd q (by decide))
    have k1 : kA c b h (cq_nw h 5 0) := nw_k hal H.cs
    refine cl_X6_init (Nat.le_of_ble_eq_true rfl) (by omega) (by omega) (c_X6_init hY G nw_n.1 rfl ?_ ?_)
    · rw [nw_n.2.2.1]
    intro g G2 k2
    have k3 : kA c b h g := k1.nx hal k2
    have sb2 : cq_s g b = 181 := k3.s sb (by decide)
    have sr : cq_s g h.1 = 5 := k2.s nw_n.1 (by decide)
    have zb : cq_z g b = n := G2.tz sb2
    have G3 : CI c n L Z E h0 (b :: a :: X) (cq_sA g b i (some h.1)) := by
      refine G2.sA sb2 (by unfold own; omega) (fun d q => ?_) (fun q => (nomatch q)) ?_
      · cases q
        rw [sr]
        rfl
      · unfold spA
        simp
    refine bx_X5_init_81 hY (pf2_ok hY) ?_
    simp only [wp_iconst, wp_bipush, wp_sipush, wp_ldc, wp_ldc2_w, wp_lconst0, wp_lconst1, wp_aconst_null, wp_iload_0, wp_istore_0, wp_iload_1, wp_istore_1, wp_iload_2, wp_istore_2, wp_iload_3, wp_istore_3, wp_iload, wp_istore, wp_lload_0, wp_lstore_0, wp_lload_1, wp_lstore_1, wp_lload_2, wp_lstore_2, wp_lload_3, wp_lstore_3, wp_lload, wp_lstore, wp_aload_0, wp_astore_0, wp_aload_1, wp_astore_1, wp_aload_2, wp_astore_2, wp_aload_3, wp_astore_3, wp_aload, wp_astore, wp_iinc, wp_iadd, wp_isub, wp_imul, wp_iand, wp_ior, wp_ixor, wp_ishl, wp_ishr, wp_iushr, wp_irem, wp_ladd, wp_lsub, wp_lmul, wp_land, wp_lor, wp_lxor, wp_lshl, wp_lshr, wp_lushr, wp_lrem, wp_lcmp, wp_i2l, wp_l2i, wp_dupI, wp_dupA, wp_dup2J, wp_dup2IA, wp_popI, wp_popA, wp_pop2, wp_goto, wp_if_eq, wp_icmp_eq, wp_if_ne, wp_icmp_ne, wp_if_lt, wp_icmp_lt, wp_if_ge, wp_icmp_ge, wp_if_gt, wp_icmp_gt, wp_if_le, wp_icmp_le, wp_ifnull, wp_ifnonnull, wp_acmp_eq, wp_acmp_ne, wp_tableswitch, wp_get0, wp_put0, wp_get1, wp_put1, wp_get2, wp_put2, wp_get3, wp_put3, wp_new, wp_newarray, wp_anewarray, wp_alen, wp_iaload, wp_laload, wp_baload, wp_aaload, wp_iastore, wp_lastore, wp_bastore, wp_aastore, wp_return, wp_ireturnI, wp_ireturnZ, wp_lreturn, wp_areturnO, wp_areturnA, wp_max, wp_min, wp_obj, wp_virt, wp_nil, ld_I0, ld_Is, ld_J0, ld_Js, ld_A0, ld_As, ha_0, ha_s, cx_put1, cx_put2, cx_dl, cx_tgt, true_and, and_true, Nat.reduceAdd, Nat.reduceSub, Int.reduceAdd, Int.reduceNeg, Int.reduceToNat, Int.reduceSub, Int.cast_ofNat_Int, List.take_succ_cons, List.take_zero, List.drop_succ_cons, List.drop_zero, List.take_nil, List.drop_nil, Option.toList_some, Option.toList_none, List.cons_append, List.nil_append, wp_spec, ne_eq, Nat.reduceEqDiff, not_false_eq_true, true_or, or_true, wf_X3_mix, wf_X3_key, wf_X3_times, wf_X3_timesModuloQ, wf_X3_power, wf_X3_rest, wf_X3_secretOf, wf_X3_sealSum, wf_X3_sum, wf_X3_letterKey, wf_X3_nextOf, wf_X3_isOpen, wf_X3_veil, wf_X3_sealIsRight, cx_sz, cx_c2, cond_true, cond_false, Nat.reduceLeDiff, sb2, sr, zb, cx_rg, ra_181]
    (repeat' (with_reducible (first | refine And.intro ?_ ?_ | intro _)))
    all_goals (try omega)
    · exact sr
    rw [show 2 * (r + 1) - 1 - 1 = 2 * r by omega, show 6 * (r + 1) - 2 - 4 = 6 * r by omega]
    have ka : cq_A (cq_sA g b i (some h.1)) a 13 = some b := by
      rw [mm_sA, if_neg (fun e => by rw [e.1, sb] at sa; exact absurd sa (by decide)), k3.2.1 a 13 (by rw [sa]; decide) (fun e => by rw [e, sb] at sa; exact absurd sa (by decide))]
      exact e13
    refine px_loop hY hn r (i + 1) _ (by omega) (by omega) G3 (k3.s sa (by decide)) sb2 ka (fun j w1 w2 => ?_) (fun h' H' k' z' => hK h' H' ((k3.trans sA_k).trans k') z')
    rw [mm_sA]
    by_cases e : j = i
    · rw [if_pos ⟨rfl, e⟩]; exact Option.some_ne_none _
    · rw [if_neg (fun q => e q.2)]
      have : cq_A g b j = cq_A h b j := by
        rw [k2.2.1 b j (by rw [k1.s sb (by decide)]; decide) nb]
        exact congrFun (nw_o (s := 5) (z := 0) nb).2.2.2.2 j
      rw [this]
      exact hj j w1 (by omega)
/-- cell a is being made; its fields F are there -/
def PI (c : Nat) (n L Z : Int) (E : Nat → Option Int) (h0 : cx_Q) (X : List Nat) (h : cx_Q) (a s : Nat) (F : List Int) (g : cx_Q) : Prop := CI c n L Z E h0 (a :: X) g ∧ kA c a h g ∧ cq_s g a = s ∧ ∀ j ∈ F, cq_A g a j ≠ none
theorem PI.st {a s t : Nat} {j z : Int} {F : List Int} {g : cx_Q} (Q : PI c n L Z E h0 X h a s F g) (ho : own s) (hz : zT n t z) (t4 : t ≠ 4) (t5 : t ≠ 5) (tm : ∀ j, ¬ muA t j z) (st : tyA s j = t) (sp : spA s j = false ∨ (s = 9 ∧ j = 1 ∧ cq_I g a 2 = 0) ∨ (s = 5 ∧ j = 0)) (s9 : s ≠ 99) : PI c n L Z E h0 X h a s (j :: F) (cq_sA (cq_nw g t z) a j (some g.1)) := by
  obtain ⟨A1, A2, A3, A4⟩ := Q.1.stA (z := z) Q.2.2.1 ho hz t4 t5 tm st sp s9
  refine ⟨A1, Q.2.1.trans A2, A2.s Q.2.2.1 s9, fun r hr => ?_⟩
  by_cases e : r = j
  · rw [e, A3]; exact Option.some_ne_none _
  · rw [A4 r e]
    rcases List.mem_cons.mp hr with q | q
    · exact absurd q e
    · exact Q.2.2.2 r q
theorem um {t : Nat} {z : Int} (w : t ≠ 0 ∧ t ≠ 1 ∧ t ≠ 2 ∧ t ≠ 3 ∧ t ≠ 4 ∧ t ≠ 7 ∧ t ≠ 8 ∧ t ≠ 9 ∧ t ≠ 105 ∧ t ≠ 181) : ∀ j, ¬ muA t j z := fun j q => by unfold muA at q; omega
theorem st_b {a s t u f w : Nat} {z : Int} {F : List Int} {g : cx_Q} {k : ArrayType} {pf : cx_Pf} {mF mO : Nat} {ty : Option FieldType} {J : cx_J} {C : cx_Cl} {P : Option cx_V → cx_Q → Prop} {r : List ev_E} {pc : Nat} {lv : cx_L} {bc bs : Nat}
    (Q : PI c n L Z E h0 X h a s F g) (ho : own s ∧ s ≠ 99) (hz : zT n t z) (tm : t ≠ 0 ∧ t ≠ 1 ∧ t ≠ 2 ∧ t ≠ 3 ∧ t ≠ 4 ∧ t ≠ 7 ∧ t ≠ 8 ∧ t ≠ 9 ∧ t ≠ 105 ∧ t ≠ 181) (t5 : t ≠ 5) (st : tyA s f = t) (sp : spA s f = false ∨ (s = 9 ∧ (f : Int) = 1 ∧ cq_I g a 2 = 0) ∨ (s = 5 ∧ (f : Int) = 0)) (hb : 1 ≤ bc) (hbs : 0 ≤ z ∧ z ≤ 60000 ∧ z ≤ (bs : Int))
    (go : ∀ g', PI c n L Z E h0 X h a s ((f : Int) :: F) g' → cx_wp ra0 pf mF mO ty J C P r (pc + 1 + 2 + 2 + 3) (some (.inr (.inr (some a))) :: lv) [] g' (bc - 1) (bs - z.toNat)) : cx_wp ra0 pf mF mO ty J C P ((.aload_n 0, 1, 0, 0, 0) :: (.bipush z, 2, 0, 0, 0) :: (.newarray k, 2, u, t, 0) :: (.putfield w, 3, s, f, 3) :: r) pc (some (.inr (.inr (some a))) :: lv) [] g bc bs := by
  have Q' := Q.st (z := z) ho.1 hz tm.2.2.2.2.1 t5 (um tm) st sp ho.2
  have sx : cq_s (cq_nw g t z) a = s := Q'.2.2.1
  simp only [wp_iconst, wp_bipush, wp_sipush, wp_ldc, wp_ldc2_w, wp_lconst0, wp_lconst1, wp_aconst_null, wp_iload_0, wp_istore_0, wp_iload_1, wp_istore_1, wp_iload_2, wp_istore_2, wp_iload_3, wp_istore_3, wp_iload, wp_istore, wp_lload_0, wp_lstore_0, wp_lload_1, wp_lstore_1, wp_lload_2, wp_lstore_2, wp_lload_3, wp_lstore_3, wp_lload, wp_lstore, wp_aload_0, wp_astore_0, wp_aload_1, wp_astore_1, wp_aload_2, wp_astore_2, wp_aload_3, wp_astore_3, wp_aload, wp_astore, wp_iinc, wp_iadd, wp_isub, wp_imul, wp_iand, wp_ior, wp_ixor, wp_ishl, wp_ishr, wp_iushr, wp_irem, wp_ladd, wp_lsub, wp_lmul, wp_land, wp_lor, wp_lxor, wp_lshl, wp_lshr, wp_lushr, wp_lrem, wp_lcmp, wp_i2l, wp_l2i, wp_dupI, wp_dupA, wp_dup2J, wp_dup2IA, wp_popI, wp_popA, wp_pop2, wp_goto, wp_if_eq, wp_icmp_eq, wp_if_ne, wp_icmp_ne, wp_if_lt, wp_icmp_lt, wp_if_ge, wp_icmp_ge, wp_if_gt, wp_icmp_gt, wp_if_le, wp_icmp_le, wp_ifnull, wp_ifnonnull, wp_acmp_eq, wp_acmp_ne, wp_tableswitch, wp_get0, wp_put0, wp_get1, wp_put1, wp_get2, wp_put2, wp_get3, wp_put3, wp_new, wp_newarray, wp_anewarray, wp_alen, wp_iaload, wp_laload, wp_baload, wp_aaload, wp_iastore, wp_lastore, wp_bastore, wp_aastore, wp_return, wp_ireturnI, wp_ireturnZ, wp_lreturn, wp_areturnO, wp_areturnA, wp_max, wp_min, wp_obj, wp_virt, wp_nil, ld_I0, ld_Is, ld_J0, ld_Js, ld_A0, ld_As, ha_0, ha_s, cx_put1, cx_put2, cx_dl, cx_tgt, true_and, and_true, Nat.reduceAdd, Nat.reduceSub, Int.reduceAdd, Int.reduceNeg, Int.reduceToNat, Int.reduceSub, Int.cast_ofNat_Int, List.take_succ_cons, List.take_zero, List.drop_succ_cons, List.drop_zero, List.take_nil, List.drop_nil, Option.toList_some, Option.toList_none, List.cons_append, List.nil_append, wp_spec, ne_eq, Nat.reduceEqDiff, not_false_eq_true, true_or, or_true, sx]
  exact ⟨⟨hb, hbs⟩, go _ Q'⟩
theorem st_a {a s t u f w k : Nat} {z : Int} {F : List Int} {g : cx_Q} {pf : cx_Pf} {mF mO : Nat} {ty : Option FieldType} {J : cx_J} {C : cx_Cl} {P : Option cx_V → cx_Q → Prop} {r : List ev_E} {pc : Nat} {lv : cx_L} {bc bs : Nat}
    (Q : PI c n L Z E h0 X h a s F g) (ho : own s ∧ s ≠ 99) (hz : zT n t z) (tm : t ≠ 0 ∧ t ≠ 1 ∧ t ≠ 2 ∧ t ≠ 3 ∧ t ≠ 4 ∧ t ≠ 7 ∧ t ≠ 8 ∧ t ≠ 9 ∧ t ≠ 105 ∧ t ≠ 181) (t5 : t ≠ 5) (st : tyA s f = t) (sp : spA s f = false ∨ (s = 9 ∧ (f : Int) = 1 ∧ cq_I g a 2 = 0) ∨ (s = 5 ∧ (f : Int) = 0)) (hb : 1 ≤ bc) (hbs : 0 ≤ z ∧ z ≤ 60000 ∧ z ≤ (bs : Int))
    (go : ∀ g', PI c n L Z E h0 X h a s ((f : Int) :: F) g' → cx_wp ra0 pf mF mO ty J C P r (pc + 1 + 2 + 3 + 3) (some (.inr (.inr (some a))) :: lv) [] g' (bc - 1) (bs - z.toNat)) : cx_wp ra0 pf mF mO ty J C P ((.aload_n 0, 1, 0, 0, 0) :: (.bipush z, 2, 0, 0, 0) :: (.anewarray k, 3, u, t, 0) :: (.putfield w, 3, s, f, 3) :: r) pc (some (.inr (.inr (some a))) :: lv) [] g bc bs := by
  have Q' := Q.st (z := z) ho.1 hz tm.2.2.2.2.1 t5 (um tm) st sp ho.2
  have sx : cq_s (cq_nw g t z) a = s := Q'.2.2.1
  simp only [wp_iconst, wp_bipush, wp_sipush, wp_ldc, wp_ldc2_w, wp_lconst0, wp_lconst1, wp_aconst_null, wp_iload_0, wp_istore_0, wp_iload_1, wp_istore_1, wp_iload_2, wp_istore_2, wp_iload_3, wp_istore_3, wp_iload, wp_istore, wp_lload_0, wp_lstore_0, wp_lload_1, wp_lstore_1, wp_lload_2, wp_lstore_2, wp_lload_3, wp_lstore_3, wp_lload, wp_lstore, wp_aload_0, wp_astore_0, wp_aload_1, wp_astore_1, wp_aload_2, wp_astore_2, wp_aload_3, wp_astore_3, wp_aload, wp_astore, wp_iinc, wp_iadd, wp_isub, wp_imul, wp_iand, wp_ior, wp_ixor, wp_ishl, wp_ishr, wp_iushr, wp_irem, wp_ladd, wp_lsub, wp_lmul, wp_land, wp_lor, wp_lxor, wp_lshl, wp_lshr, wp_lushr, wp_lrem, wp_lcmp, wp_i2l, wp_l2i, wp_dupI, wp_dupA, wp_dup2J, wp_dup2IA, wp_popI, wp_popA, wp_pop2, wp_goto, wp_if_eq, wp_icmp_eq, wp_if_ne, wp_icmp_ne, wp_if_lt, wp_icmp_lt, wp_if_ge, wp_icmp_ge, wp_if_gt, wp_icmp_gt, wp_if_le, wp_icmp_le, wp_ifnull, wp_ifnonnull, wp_acmp_eq, wp_acmp_ne, wp_tableswitch, wp_get0, wp_put0, wp_get1, wp_put1, wp_get2, wp_put2, wp_get3, wp_put3, wp_new, wp_newarray, wp_anewarray, wp_alen, wp_iaload, wp_laload, wp_baload, wp_aaload, wp_iastore, wp_lastore, wp_bastore, wp_aastore, wp_return, wp_ireturnI, wp_ireturnZ, wp_lreturn, wp_areturnO, wp_areturnA, wp_max, wp_min, wp_obj, wp_virt, wp_nil, ld_I0, ld_Is, ld_J0, ld_Js, ld_A0, ld_As, ha_0, ha_s, cx_put1, cx_put2, cx_dl, cx_tgt, true_and, and_true, Nat.reduceAdd, Nat.reduceSub, Int.reduceAdd, Int.reduceNeg, Int.reduceToNat, Int.reduceSub, Int.cast_ofNat_Int, List.take_succ_cons, List.take_zero, List.drop_succ_cons, List.drop_zero, List.take_nil, List.drop_nil, Option.toList_some, Option.toList_none, List.cons_append, List.nil_append, wp_spec, ne_eq, Nat.reduceEqDiff, not_false_eq_true, true_or, or_true, sx]
  exact ⟨⟨hb, hbs⟩, go _ Q'⟩
/-- a user is made: none but its own cells is other -/
theorem c_X5_init (hY : cY Y) {a : Nat} {v : Int64} (hn : 2 ≤ n ∧ n ≤ 6) (H : CI c n L Z E h0 (a :: X) h) (hs : cq_s h a = 4) (hK : ∀ h', CI c n L Z E h0 X h' → kA c a h h' → K none h') : cw Y mi_X5_init K 0 [some (.inr (.inr (some a))), some (.inr (.inl v)), none, some (.inl n), none] [] h 18 385 := by
  have Q0 : PI c n L Z E h0 X h a 4 [] h := ⟨H, kA.refl, hs, fun j q => (nomatch q)⟩
  refine bx_X5_init_0 hY (pf2_ok hY) ?_
  refine in_0 (by decide) ?_
  refine st_a Q0 ⟨own_9 (by decide), by decide⟩ rfl (by decide) (by decide) rfl (Or.inl rfl) (by decide) (by decide) fun g1 Q1 => ?_
  refine st_a Q1 ⟨own_9 (by decide), by decide⟩ rfl (by decide) (by decide) rfl (Or.inl rfl) (by decide) (by decide) fun g2 Q2 => ?_
  refine st_b Q2 ⟨own_9 (by decide), by decide⟩ rfl (by decide) (by decide) rfl (Or.inl rfl) (by decide) (by decide) fun g3 Q3 => ?_
  refine st_b Q3 ⟨own_9 (by decide), by decide⟩ rfl (by decide) (by decide) rfl (Or.inl rfl) (by decide) (by decide) fun g4 Q4 => ?_
  refine st_b Q4 ⟨own_9 (by decide), by decide⟩ rfl (by decide) (by decide) rfl (Or.inl rfl) (by decide) (by decide) fun g5 Q5 => ?_
  obtain ⟨G, k, sa, nn⟩ := Q5
  have hal := G.al g5.1 (Nat.le_refl _)
  have na : a ≠ g5.1 := fun e => by rw [← e, sa] at hal; exact absurd hal (by decide)
  have G1 : CI c n L Z E h0 (a :: X) (cq_sJ g5 a 0 v) := G.sJ sa (own_9 (by decide))
  have G2 := G1.nw (s := 181) (z := n) rfl (fun q => absurd q (by decide))
  have sa2 : cq_s (cq_nw (cq_sJ g5 a 0 v) 181 n) a = 4 := (nw_o (h := cq_sJ g5 a 0 v) (s := 181) (z := n) na).1.trans sa
  have sb : cq_s (cq_nw (cq_sJ g5 a 0 v) 181 n) g5.1 = 181 := nw_n.1
  have G3 : CI c n L Z E h0 (g5.1 :: a :: X) (cq_sA (cq_nw (cq_sJ g5 a 0 v) 181 n) a 13 (some g5.1)) := G2.sA sa2 (own_9 (by decide)) (fun d q => by cases q; rw [sb]; rfl) (fun q => (nomatch q)) rfl
  have k2 : kA c a h (cq_sA (cq_nw (cq_sJ g5 a 0 v) 181 n) a 13 (some g5.1)) := (k.trans (nw_k (h := cq_sJ g5 a 0 v) hal G1.cs)).trans sA_k
  simp only [wp_iconst, wp_bipush, wp_sipush, wp_ldc, wp_ldc2_w, wp_lconst0, wp_lconst1, wp_aconst_null, wp_iload_0, wp_istore_0, wp_iload_1, wp_istore_1, wp_iload_2, wp_istore_2, wp_iload_3, wp_istore_3, wp_iload, wp_istore, wp_lload_0, wp_lstore_0, wp_lload_1, wp_lstore_1, wp_lload_2, wp_lstore_2, wp_lload_3, wp_lstore_3, wp_lload, wp_lstore, wp_aload_0, wp_astore_0, wp_aload_1, wp_astore_1, wp_aload_2, wp_astore_2, wp_aload_3, wp_astore_3, wp_aload, wp_astore, wp_iinc, wp_iadd, wp_isub, wp_imul, wp_iand, wp_ior, wp_ixor, wp_ishl, wp_ishr, wp_iushr, wp_irem, wp_ladd, wp_lsub, wp_lmul, wp_land, wp_lor, wp_lxor, wp_lshl, wp_lshr, wp_lushr, wp_lrem, wp_lcmp, wp_i2l, wp_l2i, wp_dupI, wp_dupA, wp_dup2J, wp_dup2IA, wp_popI, wp_popA, wp_pop2, wp_goto, wp_if_eq, wp_icmp_eq, wp_if_ne, wp_icmp_ne, wp_if_lt, wp_icmp_lt, wp_if_ge, wp_icmp_ge, wp_if_gt, wp_icmp_gt, wp_if_le, wp_icmp_le, wp_ifnull, wp_ifnonnull, wp_acmp_eq, wp_acmp_ne, wp_tableswitch, wp_get0, wp_put0, wp_get1, wp_put1, wp_get2, wp_put2, wp_get3, wp_put3, wp_new, wp_newarray, wp_anewarray, wp_alen, wp_iaload, wp_laload, wp_baload, wp_aaload, wp_iastore, wp_lastore, wp_bastore, wp_aastore, wp_return, wp_ireturnI, wp_ireturnZ, wp_lreturn, wp_areturnO, wp_areturnA, wp_max, wp_min, wp_obj, wp_virt, wp_nil, ld_I0, ld_Is, ld_J0, ld_Js, ld_A0, ld_As, ha_0, ha_s, cx_put1, cx_put2, cx_dl, cx_tgt, true_and, and_true, Nat.reduceAdd, Nat.reduceSub, Int.reduceAdd, Int.reduceNeg, Int.reduceToNat, Int.reduceSub, Int.cast_ofNat_Int, List.take_succ_cons, List.take_zero, List.drop_succ_cons, List.drop_zero, List.take_nil, List.drop_nil, Option.toList_some, Option.toList_none, List.cons_append, List.nil_append, wp_spec, ne_eq, Nat.reduceEqDiff, not_false_eq_true, true_or, or_true, wf_X3_mix, wf_X3_key, wf_X3_times, wf_X3_timesModuloQ, wf_X3_power, wf_X3_rest, wf_X3_secretOf, wf_X3_sealSum, wf_X3_sum, wf_X3_letterKey, wf_X3_nextOf, wf_X3_isOpen, wf_X3_veil, wf_X3_sealIsRight, cx_sz, cx_c2, cond_true, cond_false, Nat.reduceLeDiff, sa, sa2]
  have goal : ∀ (r : Nat), (r : Int) = n → cw Y mi_X5_init K 62 [some (.inr (.inr (some a))), some (.inr (.inl v)), none, some (.inl n), some (.inl 0)] [] (cq_sA (cq_nw (cq_sJ g5 a 0 v) 181 n) a 13 (some g5.1)) (2 * r) (6 * r) := by
    intro r hr
    refine px_loop hY (by omega) r 0 _ (by decide) (by omega) G3 sa2 sb ?_ (fun j w1 w2 => absurd w1 (by omega)) ?_
    · rw [mm_sA, if_pos ⟨rfl, rfl⟩]
    · intro h' H' k' z'
      have sb' : cq_s h' g5.1 = 181 := k'.s sb (by decide)
      have sa' : cq_s h' a = 4 := k'.s sa2 (by decide)
      have zb : cq_z h' g5.1 = n := H'.tz sb'
      have H2 : CI c n L Z E h0 (a :: X) h' := H'.mk sb' (fun j q => z' j (by unfold muA at q; omega) (by unfold muA at q; omega)) (fun q => absurd q (by decide))
      have hb99 : cq_s h g5.1 = 99 := by
        by_cases q : cq_s h g5.1 = 99
        · exact q
        · have := k.1 g5.1 q
          rw [hal] at this
          exact this.symm
      refine hK h' (H2.mk sa' (fun j q => ?_) (fun q => absurd q (by decide))) (k2.nx hb99 k')
      rw [k'.2.1 a j (by rw [show cq_s (cq_sA (cq_nw (cq_sJ g5 a 0 v) 181 n) a 13 (some g5.1)) a = 4 from sa2]; decide) na, mm_sA]
      by_cases e : j = 13
      · rw [if_pos ⟨rfl, e⟩]; exact Option.some_ne_none _
      · rw [if_neg (fun q => e q.2), (nw_o (h := cq_sJ g5 a 0 v) (s := 181) (z := n) na).2.2.2.2]
        refine nn j ?_
        have : j = 8 ∨ j = 9 ∨ j = 10 ∨ j = 14 ∨ j = 15 := by unfold muA at q; omega
        rcases this with rfl | rfl | rfl | rfl | rfl <;> decide
  (repeat' (with_reducible (first | refine And.intro ?_ ?_ | intro _)))
  all_goals (try omega)
  exact cw_room (by omega) (by omega) (goal n.toNat (by omega))
end
