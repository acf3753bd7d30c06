/-! the class, exactly: a SESSION -/
section
variable {Y : cx_Y} {K : Option cx_V → cx_Q → Prop} {c : Nat} {n L Z : Int} {E : Nat → Option Int} {h0 : cx_Q} {X : List Nat} {h : cx_Q}
theorem e_X1_init (hY : cY Y) {a : Nat} (H : CI c n L Z E h0 (a :: X) h) (hs : cq_s h a = 1) (hn : cq_s h0 a ≠ 1) (hK : ∀ g, CI c n L Z E h0 X g → ev (cq_sA (cq_sA (cq_sA (cq_sA h a 0 (some h.1)) a 1 (some (h.1 + 1))) a 2 (some (h.1 + 2))) a 3 (some (h.1 + 3))) g → (∀ d, cq_s g d = 8 → cq_s h d = 8) → K none g) : cw Y mi_X1_init K 0 [some (.inr (.inr (some a)))] [] h 4 80 := by
  have step : ∀ (g : cx_Q) (s : Nat) (j : Int), CI c n L Z E h0 (a :: X) g → cq_s g a = 1 → zT n s 20 → s ≠ 4 → s ≠ 5 → s ≠ 6 → s ≠ 8 → (∀ j, ¬ muA s j 20) → tyA 1 j = s → CI c n L Z E h0 (a :: X) (cq_sA (cq_nw g s 20) a j (some g.1)) ∧ cq_s (cq_sA (cq_nw g s 20) a j (some g.1)) a = 1 ∧ (∀ m, ev m g → ev (cq_sA m a j (some g.1)) (cq_sA (cq_nw g s 20) a j (some g.1))) ∧ (∀ d, cq_s (cq_sA (cq_nw g s 20) a j (some g.1)) d = 8 → cq_s g d = 8) := by
    intro g s j G sa z s4 s5 s6 s8 sm st
    have hal := G.al g.1 (Nat.le_refl _)
    have na : a ≠ g.1 := fun e => by rw [← e, sa] at hal; exact absurd hal (by decide)
    have G2 := G.new z s4 s5 sm s6 s8
    have sa2 : cq_s (cq_nw g s 20) a = 1 := (nw_o na).1.trans sa
    have sn : cq_s (cq_nw g s 20) g.1 = s := nw_n.1
    refine ⟨G2.s1 sa2 (fun q => absurd q hn) (fun b q => by cases q; rw [sn, st]) (fun q => (nomatch q)) ?_, sa2, fun m p => (p.nw hal).cA, fun d q => ?_⟩
    rotate_left
    · have q' : cq_s (cq_nw g s 20) d = 8 := q
      by_cases e : d = g.1
      · rw [e, sn] at q'
        exact absurd q' s8
      · rw [(nw_o e).1] at q'
        exact q'
    unfold spA0
    simp
  obtain ⟨A1, A2, A3, A4⟩ := step h 171 0 H hs rfl (by decide) (by decide) (by decide) (by decide) (fun j q => by unfold muA at q; omega) rfl
  obtain ⟨B1, B2, B3, B4⟩ := step _ 172 1 A1 A2 rfl (by decide) (by decide) (by decide) (by decide) (fun j q => by unfold muA at q; omega) rfl
  obtain ⟨C1, C2, C3, C4⟩ := step _ 173 2 B1 B2 rfl (by decide) (by decide) (by decide) (by decide) (fun j q => by unfold muA at q; omega) rfl
  obtain ⟨D1, D2, D3, D4⟩ := step _ 174 3 C1 C2 rfl (by decide) (by decide) (by decide) (by decide) (fun j q => by unfold muA at q; omega) rfl
  have D5 := D3 _ (C3 _ (B3 _ (A3 _ ev.refl)))
  refine bx_X1_init_0 hY (pf2_ok hY) ?_
  simp only [wp_iconst, wp_bipush, wp_sipush, wp_ldc, wp_ldc2_w, wp_lconst0, wp_lconst1, wp_aconst_null, wp_iload_0, wp_istore_0, wp_iload_1, wp_istore_1, wp_iload_2, wp_istore_2, wp_iload_3, wp_istore_3, wp_iload, wp_istore, wp_lload_0, wp_lstore_0, wp_lload_1, wp_lstore_1, wp_lload_2, wp_lstore_2, wp_lload_3, wp_lstore_3, wp_lload, wp_lstore, wp_aload_0, wp_astore_0, wp_aload_1, wp_astore_1, wp_aload_2, wp_astore_2, wp_aload_3, wp_astore_3, wp_aload, wp_astore, wp_iinc, wp_iadd, wp_isub, wp_imul, wp_iand, wp_ior, wp_ixor, wp_ishl, wp_ishr, wp_iushr, wp_irem, wp_ladd, wp_lsub, wp_lmul, wp_land, wp_lor, wp_lxor, wp_lshl, wp_lshr, wp_lushr, wp_lrem, wp_lcmp, wp_i2l, wp_l2i, wp_dupI, wp_dupA, wp_dup2J, wp_dup2IA, wp_popI, wp_popA, wp_pop2, wp_goto, wp_if_eq, wp_icmp_eq, wp_if_ne, wp_icmp_ne, wp_if_lt, wp_icmp_lt, wp_if_ge, wp_icmp_ge, wp_if_gt, wp_icmp_gt, wp_if_le, wp_icmp_le, wp_ifnull, wp_ifnonnull, wp_acmp_eq, wp_acmp_ne, wp_tableswitch, wp_get0, wp_put0, wp_get1, wp_put1, wp_get2, wp_put2, wp_get3, wp_put3, wp_new, wp_newarray, wp_anewarray, wp_alen, wp_iaload, wp_laload, wp_baload, wp_aaload, wp_iastore, wp_lastore, wp_bastore, wp_aastore, wp_return, wp_ireturnI, wp_ireturnZ, wp_lreturn, wp_areturnO, wp_areturnA, wp_max, wp_min, wp_obj, wp_virt, wp_nil, ld_I0, ld_Is, ld_J0, ld_Js, ld_A0, ld_As, ha_0, ha_s, cx_put1, cx_put2, cx_dl, cx_tgt, true_and, and_true, Nat.reduceAdd, Nat.reduceSub, Int.reduceAdd, Int.reduceNeg, Int.reduceToNat, Int.reduceSub, Int.cast_ofNat_Int, List.take_succ_cons, List.take_zero, List.drop_succ_cons, List.drop_zero, List.take_nil, List.drop_nil, Option.toList_some, Option.toList_none, List.cons_append, List.nil_append, wp_spec, ne_eq, Nat.reduceEqDiff, not_false_eq_true, true_or, or_true, wf_X3_mix, wf_X3_key, wf_X3_times, wf_X3_timesModuloQ, wf_X3_power, wf_X3_rest, wf_X3_secretOf, wf_X3_sealSum, wf_X3_sum, wf_X3_letterKey, wf_X3_nextOf, wf_X3_isOpen, wf_X3_veil, wf_X3_sealIsRight, cx_sz, cx_c2, cond_true, cond_false, Nat.reduceLeDiff, hs]
  (repeat' (with_reducible (first | refine And.intro ?_ ?_ | intro _)))
  all_goals (try omega)
  · exact A2
  · exact B2
  · exact C2
  · exact D2
  · refine hK _ (D1.mk D2 (fun j q => ?_) (fun q => absurd q (by decide))) D5 (fun d q => A4 d (B4 d (C4 d (D4 d q))))
    have q' : j = 0 ∨ j = 1 ∨ j = 2 ∨ j = 3 := by unfold muA at q; omega
    rw [D5.A (show cq_s (cq_sA (cq_sA (cq_sA (cq_sA h a 0 (some h.1)) a 1 (some (h.1 + 1))) a 2 (some (h.1 + 2))) a 3 (some (h.1 + 3))) a = 1 from hs) rfl]
    rcases q' with rfl | rfl | rfl | rfl <;> simp only [mm_sI, mm_sJ, mm_sA, mm_IJ, mm_IA, mm_JI, mm_JA, mm_AI, mm_AJ, mm_ssI, mm_ssJ, mm_ssA, mm_zI, mm_zJ, mm_zA, mm_nI, mm_nJ, mm_nA, Nat.left_eq_add, Nat.add_eq_left, Nat.add_left_cancel_iff, Nat.reduceEqDiff, Int.reduceEq, false_and, and_false, if_false, if_true, and_self, true_and, true_or, or_true, false_or, or_false] <;> exact Option.some_ne_none _
/-- a SESSION that is made -/
def seW (m : cx_Q) (a k t r : Nat) (z : Int) (u v : Int64) : cx_Q := cq_sA (cq_sA (cq_sJ (cq_sJ (cq_sJ (cq_sI (cq_sI (cq_sA m a 19 (some k)) a 0 z) a 5 z) a 1 u) a 6 u) a 2 v) a 12 (some t)) a 7 (some r)
theorem e_X8_init (hY : cY Y) {a t r : Nat} {z : Int} {u v : Int64} (H : CI c n L Z E h0 (a :: X) h) (hs : cq_s h a = 7) (hE : cq_s h0 a = 7 → E a ≠ none) (hz : z = 0 ∨ z = 1) (ht : cq_s h t = 6) (hr : cq_s h r = 8) (hK : ∀ g, CI c n L Z E h0 X g → ev (seW h a h.1 t r z u v) g → cq_s g h.1 = 1 → cq_I g h.1 4 = 0 → cq_A g h.1 0 = some (h.1 + 1) → cq_A g h.1 1 = some (h.1 + 2) → cq_A g h.1 2 = some (h.1 + 3) → cq_A g h.1 3 = some (h.1 + 4) → (∀ d, cq_s g d = 8 → cq_s h d = 8) → K none g) : cw Y mi_X8_init K 0 [some (.inr (.inr (some a))), some (.inl z), some (.inr (.inl u)), none, some (.inr (.inl v)), none, some (.inr (.inr (some t))), some (.inr (.inr (some r)))] [] h 5 85 := by
  have hal := H.al h.1 (Nat.le_refl _)
  have H2 : CI c n L Z E h0 (h.1 :: a :: X) (cq_nw h 1 0) := H.nw (s := 1) True.intro (fun q => absurd q (by decide))
  have k2 : ev h (cq_nw h 1 0) := ev.refl.nw hal
  have s2 : cq_s (cq_nw h 1 0) h.1 = 1 := nw_n.1
  have i2 : cq_I (cq_nw h 1 0) h.1 4 = 0 := by rw [nw_n.2.2.1]
  have na : a ≠ h.1 := fun e => by have := H.lt hs (by decide); omega
  refine bx_X8_init_0 hY (pf2_ok hY) ?_
  simp only [wp_iconst, wp_bipush, wp_sipush, wp_ldc, wp_ldc2_w, wp_lconst0, wp_lconst1, wp_aconst_null, wp_iload_0, wp_istore_0, wp_iload_1, wp_istore_1, wp_iload_2, wp_istore_2, wp_iload_3, wp_istore_3, wp_iload, wp_istore, wp_lload_0, wp_lstore_0, wp_lload_1, wp_lstore_1, wp_lload_2, wp_lstore_2, wp_lload_3, wp_lstore_3, wp_lload, wp_lstore, wp_aload_0, wp_astore_0, wp_aload_1, wp_astore_1, wp_aload_2, wp_astore_2, wp_aload_3, wp_astore_3, wp_aload, wp_astore, wp_iinc, wp_iadd, wp_isub, wp_imul, wp_iand, wp_ior, wp_ixor, wp_ishl, wp_ishr, wp_iushr, wp_irem, wp_ladd, wp_lsub, wp_lmul, wp_land, wp_lor, wp_lxor, wp_lshl, wp_lshr, wp_lushr, wp_lrem, wp_lcmp, wp_i2l, wp_l2i, wp_dupI, wp_dupA, wp_dup2J, wp_dup2IA, wp_popI, wp_popA, wp_pop2, wp_goto, wp_if_eq, wp_icmp_eq, wp_if_ne, wp_icmp_ne, wp_if_lt, wp_icmp_lt, wp_if_ge, wp_icmp_ge, wp_if_gt, wp_icmp_gt, wp_if_le, wp_icmp_le, wp_ifnull, wp_ifnonnull, wp_acmp_eq, wp_acmp_ne, wp_tableswitch, wp_get0, wp_put0, wp_get1, wp_put1, wp_get2, wp_put2, wp_get3, wp_put3, wp_new, wp_newarray, wp_anewarray, wp_alen, wp_iaload, wp_laload, wp_baload, wp_aaload, wp_iastore, wp_lastore, wp_bastore, wp_aastore, wp_return, wp_ireturnI, wp_ireturnZ, wp_lreturn, wp_areturnO, wp_areturnA, wp_max, wp_min, wp_obj, wp_virt, wp_nil, ld_I0, ld_Is, ld_J0, ld_Js, ld_A0, ld_As, ha_0, ha_s, cx_put1, cx_put2, cx_dl, cx_tgt, true_and, and_true, Nat.reduceAdd, Nat.reduceSub, Int.reduceAdd, Int.reduceNeg, Int.reduceToNat, Int.reduceSub, Int.cast_ofNat_Int, List.take_succ_cons, List.take_zero, List.drop_succ_cons, List.drop_zero, List.take_nil, List.drop_nil, Option.toList_some, Option.toList_none, List.cons_append, List.nil_append, wp_spec, ne_eq, Nat.reduceEqDiff, not_false_eq_true, true_or, or_true, wf_X3_mix, wf_X3_key, wf_X3_times, wf_X3_timesModuloQ, wf_X3_power, wf_X3_rest, wf_X3_secretOf, wf_X3_sealSum, wf_X3_sum, wf_X3_letterKey, wf_X3_nextOf, wf_X3_isOpen, wf_X3_veil, wf_X3_sealIsRight, cx_sz, cx_c2, cond_true, cond_false, Nat.reduceLeDiff]
  (repeat' (with_reducible (first | refine And.intro ?_ ?_ | intro _)))
  all_goals (try omega)
  refine cl_X1_init (Nat.le_of_ble_eq_true rfl) (Nat.le_refl _) (Nat.le_refl _) (e_X1_init hY H2 s2 (by rw [H.ct.old hal]; decide) (fun g G kg n8 => ?_))
  have kgs : ∀ q, cq_s (cq_sA (cq_sA (cq_sA (cq_sA (cq_nw h 1 0) h.1 0 (some (cq_nw h 1 0).1)) h.1 1 (some ((cq_nw h 1 0).1 + 1))) h.1 2 (some ((cq_nw h 1 0).1 + 2))) h.1 3 (some ((cq_nw h 1 0).1 + 3))) q = cq_s (cq_nw h 1 0) q := fun _ => rfl
  have kk : ev h g := ((((k2.fA hal).fA hal).fA hal).fA hal).trans kg
  have sa : cq_s g a = 7 := kk.s hs (by decide)
  have st : cq_s g t = 6 := kk.s ht (by decide)
  have sr : cq_s g r = 8 := kk.s hr (by decide)
  have sk : cq_s g h.1 = 1 := kg.s ((kgs h.1).trans s2) (by decide)
  have gA : cq_A g h.1 = cq_A (cq_sA (cq_sA (cq_sA (cq_sA (cq_nw h 1 0) h.1 0 (some (cq_nw h 1 0).1)) h.1 1 (some ((cq_nw h 1 0).1 + 1))) h.1 2 (some ((cq_nw h 1 0).1 + 2))) h.1 3 (some ((cq_nw h 1 0).1 + 3))) h.1 := kg.A ((kgs h.1).trans s2) rfl
  have gI : cq_I g h.1 4 = 0 := by rw [kg.I ((kgs h.1).trans s2) rfl]; exact i2
  have nk : ¬ h.1 = a := fun e => na e.symm
  refine bx_X8_init_12 hY (pf2_ok hY) ?_
  simp only [wp_iconst, wp_bipush, wp_sipush, wp_ldc, wp_ldc2_w, wp_lconst0, wp_lconst1, wp_aconst_null, wp_iload_0, wp_istore_0, wp_iload_1, wp_istore_1, wp_iload_2, wp_istore_2, wp_iload_3, wp_istore_3, wp_iload, wp_istore, wp_lload_0, wp_lstore_0, wp_lload_1, wp_lstore_1, wp_lload_2, wp_lstore_2, wp_lload_3, wp_lstore_3, wp_lload, wp_lstore, wp_aload_0, wp_astore_0, wp_aload_1, wp_astore_1, wp_aload_2, wp_astore_2, wp_aload_3, wp_astore_3, wp_aload, wp_astore, wp_iinc, wp_iadd, wp_isub, wp_imul, wp_iand, wp_ior, wp_ixor, wp_ishl, wp_ishr, wp_iushr, wp_irem, wp_ladd, wp_lsub, wp_lmul, wp_land, wp_lor, wp_lxor, wp_lshl, wp_lshr, wp_lushr, wp_lrem, wp_lcmp, wp_i2l, wp_l2i, wp_dupI, wp_dupA, wp_dup2J, wp_dup2IA, wp_popI, wp_popA, wp_pop2, wp_goto, wp_if_eq, wp_icmp_eq, wp_if_ne, wp_icmp_ne, wp_if_lt, wp_icmp_lt, wp_if_ge, wp_icmp_ge, wp_if_gt, wp_icmp_gt, wp_if_le, wp_icmp_le, wp_ifnull, wp_ifnonnull, wp_acmp_eq, wp_acmp_ne, wp_tableswitch, wp_get0, wp_put0, wp_get1, wp_put1, wp_get2, wp_put2, wp_get3, wp_put3, wp_new, wp_newarray, wp_anewarray, wp_alen, wp_iaload, wp_laload, wp_baload, wp_aaload, wp_iastore, wp_lastore, wp_bastore, wp_aastore, wp_return, wp_ireturnI, wp_ireturnZ, wp_lreturn, wp_areturnO, wp_areturnA, wp_max, wp_min, wp_obj, wp_virt, wp_nil, ld_I0, ld_Is, ld_J0, ld_Js, ld_A0, ld_As, ha_0, ha_s, cx_put1, cx_put2, cx_dl, cx_tgt, true_and, and_true, Nat.reduceAdd, Nat.reduceSub, Int.reduceAdd, Int.reduceNeg, Int.reduceToNat, Int.reduceSub, Int.cast_ofNat_Int, List.take_succ_cons, List.take_zero, List.drop_succ_cons, List.drop_zero, List.take_nil, List.drop_nil, Option.toList_some, Option.toList_none, List.cons_append, List.nil_append, wp_spec, ne_eq, Nat.reduceEqDiff, not_false_eq_true, true_or, or_true, sa, mm_sI, mm_sJ, mm_sA, mm_IJ, mm_IA, mm_JI, mm_JA, mm_AI, mm_AJ, mm_ssI, mm_ssJ, mm_ssA, mm_zI, mm_zJ, mm_zA, mm_nI, mm_nJ, mm_nA]
  (repeat' (with_reducible (first | refine And.intro ?_ ?_ | intro _)))
  all_goals (try omega)
  have H3 := G.s7 (p := a) (j := 19) (v := some h.1) sa hE (fun b q => by cases q; exact sk) (fun q => (nomatch q)) rfl
  have H4 := H3.sI (a := a) (j := 0) (v := z) sa (own_9 (by decide)) True.intro rfl
  have H5 := H4.sI (a := a) (j := 5) (v := z) sa (own_9 (by decide)) True.intro rfl
  have H6 := ((H5.sJ (a := a) (j := 1) (v := u) sa (own_9 (by decide))).sJ (a := a) (j := 6) (v := u) sa (own_9 (by decide))).sJ (a := a) (j := 2) (v := v) sa (own_9 (by decide))
  have H7 := H6.s7 (p := a) (j := 12) (v := some t) sa hE (fun b q => by cases q; exact st) (fun q => (nomatch q)) rfl
  have H8 := H7.s7 (p := a) (j := 7) (v := some r) sa hE (fun b q => by cases q; exact sr) (fun q => (nomatch q)) rfl
  refine hK _ (H8.mk sa (fun j q => ?_) (fun q => absurd q (by decide))) ?_ sk ?_ ?_ ?_ ?_ ?_ (fun d q => ?_)
  · have q' : j = 7 ∨ j = 12 ∨ j = 19 := by unfold muA at q; omega
    rcases q' with rfl | rfl | rfl <;> simp only [mm_sI, mm_sJ, mm_sA, mm_IJ, mm_IA, mm_JI, mm_JA, mm_AI, mm_AJ, mm_ssI, mm_ssJ, mm_ssA, mm_zI, mm_zJ, mm_zA, mm_nI, mm_nJ, mm_nA, Nat.left_eq_add, Nat.add_eq_left, Nat.add_left_cancel_iff, Nat.reduceEqDiff, Int.reduceEq, false_and, and_false, if_false, if_true, and_self, true_and, true_or, or_true, false_or, or_false] <;> exact Option.some_ne_none _
  · unfold seW
    (repeat' (first | with_reducible assumption | with_reducible exact ev.refl | with_reducible refine ev.cI ?_ | with_reducible refine ev.cJ ?_ | with_reducible refine ev.cA ?_ | with_reducible refine ev.rI ?_ | with_reducible refine ev.rJ ?_ | with_reducible refine ev.rA ?_))
  · simp only [mm_sI, mm_sJ, mm_sA, mm_IJ, mm_IA, mm_JI, mm_JA, mm_AI, mm_AJ, mm_ssI, mm_ssJ, mm_ssA, mm_zI, mm_zJ, mm_zA, mm_nI, mm_nJ, mm_nA, nk, Nat.left_eq_add, Nat.add_eq_left, Nat.add_left_cancel_iff, Nat.reduceEqDiff, Int.reduceEq, false_and, and_false, if_false, if_true, and_self, true_and, true_or, or_true, false_or, or_false]
    exact gI
  · simp only [nk, mm_sI, mm_sJ, mm_sA, mm_IJ, mm_IA, mm_JI, mm_JA, mm_AI, mm_AJ, mm_ssI, mm_ssJ, mm_ssA, mm_zI, mm_zJ, mm_zA, mm_nI, mm_nJ, mm_nA, Nat.left_eq_add, Nat.add_eq_left, Nat.add_left_cancel_iff, Nat.reduceEqDiff, Int.reduceEq, false_and, and_false, if_false, if_true, and_self, true_and, true_or, or_true, false_or, or_false]
    rw [gA]
    simp only [mm_sI, mm_sJ, mm_sA, mm_IJ, mm_IA, mm_JI, mm_JA, mm_AI, mm_AJ, mm_ssI, mm_ssJ, mm_ssA, mm_zI, mm_zJ, mm_zA, mm_nI, mm_nJ, mm_nA, Nat.left_eq_add, Nat.add_eq_left, Nat.add_left_cancel_iff, Nat.reduceEqDiff, Int.reduceEq, false_and, and_false, if_false, if_true, and_self, true_and, true_or, or_true, false_or, or_false]
    rfl
  · simp only [nk, mm_sI, mm_sJ, mm_sA, mm_IJ, mm_IA, mm_JI, mm_JA, mm_AI, mm_AJ, mm_ssI, mm_ssJ, mm_ssA, mm_zI, mm_zJ, mm_zA, mm_nI, mm_nJ, mm_nA, Nat.left_eq_add, Nat.add_eq_left, Nat.add_left_cancel_iff, Nat.reduceEqDiff, Int.reduceEq, false_and, and_false, if_false, if_true, and_self, true_and, true_or, or_true, false_or, or_false]
    rw [gA]
    simp only [mm_sI, mm_sJ, mm_sA, mm_IJ, mm_IA, mm_JI, mm_JA, mm_AI, mm_AJ, mm_ssI, mm_ssJ, mm_ssA, mm_zI, mm_zJ, mm_zA, mm_nI, mm_nJ, mm_nA, Nat.left_eq_add, Nat.add_eq_left, Nat.add_left_cancel_iff, Nat.reduceEqDiff, Int.reduceEq, false_and, and_false, if_false, if_true, and_self, true_and, true_or, or_true, false_or, or_false]
    rfl
  · simp only [nk, mm_sI, mm_sJ, mm_sA, mm_IJ, mm_IA, mm_JI, mm_JA, mm_AI, mm_AJ, mm_ssI, mm_ssJ, mm_ssA, mm_zI, mm_zJ, mm_zA, mm_nI, mm_nJ, mm_nA, Nat.left_eq_add, Nat.add_eq_left, Nat.add_left_cancel_iff, Nat.reduceEqDiff, Int.reduceEq, false_and, and_false, if_false, if_true, and_self, true_and, true_or, or_true, false_or, or_false]
    rw [gA]
    simp only [mm_sI, mm_sJ, mm_sA, mm_IJ, mm_IA, mm_JI, mm_JA, mm_AI, mm_AJ, mm_ssI, mm_ssJ, mm_ssA, mm_zI, mm_zJ, mm_zA, mm_nI, mm_nJ, mm_nA, Nat.left_eq_add, Nat.add_eq_left, Nat.add_left_cancel_iff, Nat.reduceEqDiff, Int.reduceEq, false_and, and_false, if_false, if_true, and_self, true_and, true_or, or_true, false_or, or_false]
    rfl
  · simp only [nk, mm_sI, mm_sJ, mm_sA, mm_IJ, mm_IA, mm_JI, mm_JA, mm_AI, mm_AJ, mm_ssI, mm_ssJ, mm_ssA, mm_zI, mm_zJ, mm_zA, mm_nI, mm_nJ, mm_nA, Nat.left_eq_add, Nat.add_eq_left, Nat.add_left_cancel_iff, Nat.reduceEqDiff, Int.reduceEq, false_and, and_false, if_false, if_true, and_self, true_and, true_or, or_true, false_or, or_false]
    rw [gA]
    simp only [mm_sI, mm_sJ, mm_sA, mm_IJ, mm_IA, mm_JI, mm_JA, mm_AI, mm_AJ, mm_ssI, mm_ssJ, mm_ssA, mm_zI, mm_zJ, mm_zA, mm_nI, mm_nJ, mm_nA, Nat.left_eq_add, Nat.add_eq_left, Nat.add_left_cancel_iff, Nat.reduceEqDiff, Int.reduceEq, false_and, and_false, if_false, if_true, and_self, true_and, true_or, or_true, false_or, or_false]
    rfl
  · have q1 := n8 d q
    by_cases e : d = h.1
    · rw [e, s2] at q1
      exact absurd q1 (by decide)
    · rw [(nw_o e).1] at q1
      exact q1
theorem e_X8_meet (hY : cY Y) {a : Nat} {u : Int64} {o : Option Nat} (H : CI c n L Z E h0 X h) (hs : cq_s h a = 7) (hE : cq_s h0 a = 7 → E a ≠ none) (ho : ∀ b, o = some b → cq_s h b = 6) (hK : ∀ g, CI c n L Z E h0 X g → g = cq_sI (cq_sA (cq_sJ h a 13 u) a 14 o) a 15 1 → K none g) : cw Y mi_X8_meet K 0 [some (.inr (.inr (some a))), some (.inr (.inl u)), none, some (.inr (.inr o))] [] h 0 0 := by
  refine bx_X8_meet_0 hY (pf2_ok hY) ?_
  simp only [wp_iconst, wp_bipush, wp_sipush, wp_ldc, wp_ldc2_w, wp_lconst0, wp_lconst1, wp_aconst_null, wp_iload_0, wp_istore_0, wp_iload_1, wp_istore_1, wp_iload_2, wp_istore_2, wp_iload_3, wp_istore_3, wp_iload, wp_istore, wp_lload_0, wp_lstore_0, wp_lload_1, wp_lstore_1, wp_lload_2, wp_lstore_2, wp_lload_3, wp_lstore_3, wp_lload, wp_lstore, wp_aload_0, wp_astore_0, wp_aload_1, wp_astore_1, wp_aload_2, wp_astore_2, wp_aload_3, wp_astore_3, wp_aload, wp_astore, wp_iinc, wp_iadd, wp_isub, wp_imul, wp_iand, wp_ior, wp_ixor, wp_ishl, wp_ishr, wp_iushr, wp_irem, wp_ladd, wp_lsub, wp_lmul, wp_land, wp_lor, wp_lxor, wp_lshl, wp_lshr, wp_lushr, wp_lrem, wp_lcmp, wp_i2l, wp_l2i, wp_dupI, wp_dupA, wp_dup2J, wp_dup2IA, wp_popI, wp_popA, wp_pop2, wp_goto, wp_if_eq, wp_icmp_eq, wp_if_ne, wp_icmp_ne, wp_if_lt, wp_icmp_lt, wp_if_ge, wp_icmp_ge, wp_if_gt, wp_icmp_gt, wp_if_le, wp_icmp_le, wp_ifnull, wp_ifnonnull, wp_acmp_eq, wp_acmp_ne, wp_tableswitch, wp_get0, wp_put0, wp_get1, wp_put1, wp_get2, wp_put2, wp_get3, wp_put3, wp_new, wp_newarray, wp_anewarray, wp_alen, wp_iaload, wp_laload, wp_baload, wp_aaload, wp_iastore, wp_lastore, wp_bastore, wp_aastore, wp_return, wp_ireturnI, wp_ireturnZ, wp_lreturn, wp_areturnO, wp_areturnA, wp_max, wp_min, wp_obj, wp_virt, wp_nil, ld_I0, ld_Is, ld_J0, ld_Js, ld_A0, ld_As, ha_0, ha_s, cx_put1, cx_put2, cx_dl, cx_tgt, true_and, and_true, Nat.reduceAdd, Nat.reduceSub, Int.reduceAdd, Int.reduceNeg, Int.reduceToNat, Int.reduceSub, Int.cast_ofNat_Int, List.take_succ_cons, List.take_zero, List.drop_succ_cons, List.drop_zero, List.take_nil, List.drop_nil, Option.toList_some, Option.toList_none, List.cons_append, List.nil_append, wp_spec, ne_eq, Nat.reduceEqDiff, not_false_eq_true, true_or, or_true, hs, mm_sI, mm_sJ, mm_sA, mm_IJ, mm_IA, mm_JI, mm_JA, mm_AI, mm_AJ, mm_ssI, mm_ssJ, mm_ssA, mm_zI, mm_zJ, mm_zA, mm_nI, mm_nJ, mm_nA]
  (repeat' (with_reducible (first | refine And.intro ?_ ?_ | intro _)))
  all_goals (try omega)
  have H2 := (H.sJ (a := a) (j := 13) (v := u) hs (own_9 (by decide))).s7 (p := a) (j := 14) (v := o) hs hE ho (fun _ q => by unfold muA at q; omega) rfl
  have H3 := H2.sI (a := a) (j := 15) (v := 1) hs (own_9 (by decide)) True.intro rfl
  exact hK _ H3 rfl
theorem toT.q {h g : cx_Q} {a p t : Nat} {x1 x2 : Option Nat} (T : toT h a p t g) (al : cq_s h h.1 = 99) (e : ev h g) (sp : cq_s h p = 101) (zp : cq_z h p = 2) (p0 : cq_A h p 0 = x1) (p1 : cq_A h p 1 = x2) (sr : ∀ r, cq_A h t 1 = some r → cq_s h t = 8 → cq_s h r = 101) : tq h g a x1 x2 t := by
  obtain ⟨T1, T2, T3⟩ := T
  rcases T3 with ⟨eg, r, q1, m⟩ | ⟨et, q1, _⟩
  · rw [eg] at T1 T2 ⊢
    have zr : cq_z h r = 2 := by rw [← zp]; exact m.1.symm
    have m0 := m.2 0 (by omega) (by omega)
    simp only [Int.mul_zero, Int.zero_add] at m0
    rw [p0, p1] at m0
    obtain ⟨⟨n0, n1⟩, m0⟩ := m0
    refine ⟨T1, T2, r, q1, sr r q1 T1, zr, Or.inr ⟨T1, ?_, ?_, m0⟩⟩
    · rcases m0 with m0 | m0
      · rw [← m0.1]; exact n0
      · rw [← m0.2]; exact n1
    · rcases m0 with m0 | m0
      · rw [← m0.2]; exact n1
      · rw [← m0.1]; exact n0
  · refine ⟨T1, T2, p, q1, e.s sp (by decide), (e.z sp (by decide)).trans zp, Or.inl ⟨by rw [et]; exact al, ?_, ?_⟩⟩
    · rw [e.A sp rfl]; exact p0
    · rw [e.A sp rfl]; exact p1
theorem tq.h2 {h h' g : cx_Q} {b q : Nat} {x1 x2 : Option Nat} (w : ∀ d, cq_s h' d ≠ 101 → cq_s h' d = cq_s h d) (p : tq h' g b x1 x2 q) : tq h g b x1 x2 q := by
  refine p.h (w q ?_)
  obtain ⟨_, _, r, _, _, _, p6⟩ := p
  rcases p6 with p6 | p6
  · rw [p6.1]; decide
  · rw [p6.1]; decide
theorem tq.s7 {h g : cx_Q} {b q a : Nat} {x1 x2 v : Option Nat} {j : Int} (p : tq h g b x1 x2 q) (hs : cq_s g a = 7) : tq h (cq_sA g a j v) b x1 x2 q := by
  obtain ⟨p1, p2, r, p3, p4, p5, p6⟩ := p
  have nq : q ≠ a := fun e => by rw [e, hs] at p1; exact absurd p1 (by decide)
  have nr : r ≠ a := fun e => by rw [e, hs] at p4; exact absurd p4 (by decide)
  refine ⟨p1, ?_, r, ?_, p4, p5, ?_⟩
  · rw [mm_sA, if_neg (fun e => nq e.1)]; exact p2
  · rw [mm_sA, if_neg (fun e => nq e.1)]; exact p3
  · rw [mm_sA, if_neg (fun e => nr e.1), mm_sA, if_neg (fun e => nr e.1)]; exact p6
/-- a pair of SECRETS is made: nothing is other of what was there -/
theorem ev.pair {M : cx_Q} (al : cq_s M M.1 = 99) {o1 o2 : Option Nat} : ev M (cq_sA (cq_sA (cq_nw M 101 2) M.1 0 o1) M.1 1 o2) := ((ev.refl.nw al).fA al).fA al
/-- the sending chain is turned: r the ROOT before, x the COMMON -/
def tsW (m : cx_Q) (a t q : Nat) (r x : Int64) : cx_Q := cq_sA (cq_sA (cq_sJ (cq_sJ (cq_sA m a 12 (some t)) a 8 (f_key 2 r x)) a 6 (f_key 1 r x)) a 7 (some q)) a 9 (some q)
theorem ev.cts {m m' : cx_Q} (p : ev m m') {a t q : Nat} {r x : Int64} : ev (tsW m a t q r x) (tsW m' a t q r x) := by
  unfold tsW
  (repeat' (first | with_reducible assumption | with_reducible exact ev.refl | with_reducible refine ev.cI ?_ | with_reducible refine ev.cJ ?_ | with_reducible refine ev.cA ?_ | with_reducible refine ev.rI ?_ | with_reducible refine ev.rJ ?_ | with_reducible refine ev.rA ?_))
theorem e_X8_turnSending (hY : cY Y) {a t : Nat} (H : CI c n L Z E h0 [] h) (hs : cq_s h a = 7) (hE : cq_s h0 a = 7 → E a ≠ none) (ht : cq_s h t = 6) (hK : ∀ g q r, cq_A h a 7 = some r → CI c n L Z E h0 [] g → ev (tsW h a t q (cq_J h a 6) (f_common (cq_J h t 0) (cq_J h a 13))) g → tq h g r (some t) (cq_A h a 14) q → K none g) : cw Y mi_X8_turnSending K 0 [some (.inr (.inr (some a))), some (.inr (.inr (some t))), none, none] [] h 3 89 := by
  obtain ⟨r, er, sr⟩ := H.g7_7 hs List.not_mem_nil
  have na : a ≠ h.1 := fun e => by have := H.lt hs (by decide); omega
  have nt : t ≠ h.1 := fun e => by have := H.lt ht (by decide); omega
  have ty14 : ∀ b, cq_A h a 14 = some b → cq_s h b = 6 := fun b q => H.ta (j := 14) hs (own_9 (by decide)) q
  have fact : ∀ (x1 x2 : Int64), CI c n L Z E h0 [] (cq_sA (cq_sA (cq_nw (cq_sJ (cq_sJ (cq_sA h a 12 (some t)) a 8 x1) a 6 x2) 101 2) h.1 0 (some t)) h.1 1 (cq_A h a 14)) ∧ ev (cq_sJ (cq_sJ (cq_sA h a 12 (some t)) a 8 x1) a 6 x2) (cq_sA (cq_sA (cq_nw (cq_sJ (cq_sJ (cq_sA h a 12 (some t)) a 8 x1) a 6 x2) 101 2) h.1 0 (some t)) h.1 1 (cq_A h a 14)) := by
    intro x1 x2
    have H1 : CI c n L Z E h0 [] (cq_sJ (cq_sJ (cq_sA h a 12 (some t)) a 8 x1) a 6 x2) := ((H.s7 (j := 12) (v := some t) hs hE (fun b q => by cases q; exact ht) (fun q => (nomatch q)) rfl).sJ hs (own_9 (by decide))).sJ hs (own_9 (by decide))
    exact ⟨(H1.pair (o1 := some t) (o2 := cq_A h a 14) (fun b q => by cases q; exact ht) ty14).1, ev.pair (M := cq_sJ (cq_sJ (cq_sA h a 12 (some t)) a 8 x1) a 6 x2) (o1 := some t) (o2 := cq_A h a 14) (H1.al _ (Nat.le_refl _))⟩
  have sa : ∀ (x1 x2 : Int64), cq_s (cq_nw (cq_sJ (cq_sJ (cq_sA h a 12 (some t)) a 8 x1) a 6 x2) 101 2) a = 7 := fun x1 x2 => (nw_o (h := cq_sJ (cq_sJ (cq_sA h a 12 (some t)) a 8 x1) a 6 x2) na).1.trans hs
  have st : ∀ (x1 x2 : Int64), cq_s (cq_nw (cq_sJ (cq_sJ (cq_sA h a 12 (some t)) a 8 x1) a 6 x2) 101 2) t = 6 := fun x1 x2 => (nw_o (h := cq_sJ (cq_sJ (cq_sA h a 12 (some t)) a 8 x1) a 6 x2) nt).1.trans ht
  have sn : ∀ (x1 x2 : Int64), cq_s (cq_nw (cq_sJ (cq_sJ (cq_sA h a 12 (some t)) a 8 x1) a 6 x2) 101 2) h.1 = 101 := fun x1 x2 => nw_n.1
  have zn : ∀ (x1 x2 : Int64), cq_z (cq_nw (cq_sJ (cq_sJ (cq_sA h a 12 (some t)) a 8 x1) a 6 x2) 101 2) h.1 = 2 := fun x1 x2 => nw_n.2.1
  have gA : ∀ (x1 x2 : Int64), cq_A (cq_nw (cq_sJ (cq_sJ (cq_sA h a 12 (some t)) a 8 x1) a 6 x2) 101 2) a = cq_A (cq_sA h a 12 (some t)) a := fun x1 x2 => (nw_o (h := cq_sJ (cq_sJ (cq_sA h a 12 (some t)) a 8 x1) a 6 x2) na).2.2.2.2
  refine bx_X8_turnSending_0 hY (pf2_ok hY) ?_
  simp only [wp_iconst, wp_bipush, wp_sipush, wp_ldc, wp_ldc2_w, wp_lconst0, wp_lconst1, wp_aconst_null, wp_iload_0, wp_istore_0, wp_iload_1, wp_istore_1, wp_iload_2, wp_istore_2, wp_iload_3, wp_istore_3, wp_iload, wp_istore, wp_lload_0, wp_lstore_0, wp_lload_1, wp_lstore_1, wp_lload_2, wp_lstore_2, wp_lload_3, wp_lstore_3, wp_lload, wp_lstore, wp_aload_0, wp_astore_0, wp_aload_1, wp_astore_1, wp_aload_2, wp_astore_2, wp_aload_3, wp_astore_3, wp_aload, wp_astore, wp_iinc, wp_iadd, wp_isub, wp_imul, wp_iand, wp_ior, wp_ixor, wp_ishl, wp_ishr, wp_iushr, wp_irem, wp_ladd, wp_lsub, wp_lmul, wp_land, wp_lor, wp_lxor, wp_lshl, wp_lshr, wp_lushr, wp_lrem, wp_lcmp, wp_i2l, wp_l2i, wp_dupI, wp_dupA, wp_dup2J, wp_dup2IA, wp_popI, wp_popA, wp_pop2, wp_goto, wp_if_eq, wp_icmp_eq, wp_if_ne, wp_icmp_ne, wp_if_lt, wp_icmp_lt, wp_if_ge, wp_icmp_ge, wp_if_gt, wp_icmp_gt, wp_if_le, wp_icmp_le, wp_ifnull, wp_ifnonnull, wp_acmp_eq, wp_acmp_ne, wp_tableswitch, wp_get0, wp_put0, wp_get1, wp_put1, wp_get2, wp_put2, wp_get3, wp_put3, wp_new, wp_newarray, wp_anewarray, wp_alen, wp_iaload, wp_laload, wp_baload, wp_aaload, wp_iastore, wp_lastore, wp_bastore, wp_aastore, wp_return, wp_ireturnI, wp_ireturnZ, wp_lreturn, wp_areturnO, wp_areturnA, wp_max, wp_min, wp_obj, wp_virt, wp_nil, ld_I0, ld_Is, ld_J0, ld_Js, ld_A0, ld_As, ha_0, ha_s, cx_put1, cx_put2, cx_dl, cx_tgt, true_and, and_true, Nat.reduceAdd, Nat.reduceSub, Int.reduceAdd, Int.reduceNeg, Int.reduceToNat, Int.reduceSub, Int.cast_ofNat_Int, List.take_succ_cons, List.take_zero, List.drop_succ_cons, List.drop_zero, List.take_nil, List.drop_nil, Option.toList_some, Option.toList_none, List.cons_append, List.nil_append, wp_spec, ne_eq, Nat.reduceEqDiff, not_false_eq_true, true_or, or_true, wf_X3_mix, wf_X3_key, wf_X3_times, wf_X3_timesModuloQ, wf_X3_power, wf_X3_rest, wf_X3_secretOf, wf_X3_sealSum, wf_X3_sum, wf_X3_letterKey, wf_X3_nextOf, wf_X3_isOpen, wf_X3_veil, wf_X3_sealIsRight, cx_sz, cx_c2, cond_true, cond_false, Nat.reduceLeDiff, hs, ht, er, mm_sI, mm_sJ, mm_sA, mm_IJ, mm_IA, mm_JI, mm_JA, mm_AI, mm_AJ, mm_ssI, mm_ssJ, mm_ssA, mm_zI, mm_zJ, mm_zA, mm_nI, mm_nJ, mm_nA, Nat.left_eq_add, Nat.add_eq_left, Nat.add_left_cancel_iff, Nat.reduceEqDiff, Int.reduceEq, false_and, and_false, if_false, if_true, and_self, true_and, true_or, or_true, false_or, or_false, sa, sn, zn, gA, ra_101]
  rw [g_power_f]
  unfold tsW at hK
  generalize f_key 2 (cq_J h a 6) (f_common (cq_J h t 0) (cq_J h a 13)) = x1 at hK ⊢
  generalize f_key 1 (cq_J h a 6) (f_common (cq_J h t 0) (cq_J h a 13)) = x2 at hK ⊢
  obtain ⟨G, kG⟩ := fact x1 x2
  have ks : ∀ q, cq_s (cq_sJ (cq_sJ (cq_sA h a 12 (some t)) a 8 x1) a 6 x2) q = cq_s h q := fun _ => rfl
  refine ⟨by decide, ⟨by decide, by decide, st x1 x2⟩, ⟨by decide, by decide, ?_⟩, ?_⟩
  · cases q : cq_A h a 14 with
    | none => trivial
    | some b => exact kG.s ((ks b).trans (ty14 b q)) (by decide)
  · refine cl_X9_turnOf (Nat.le_of_ble_eq_true rfl) (kG.s ((ks r).trans sr) (by decide)) (Nat.le_refl _) (Nat.le_refl _) (e_X9_turnOf hY G (kG.s ((ks r).trans sr) (by decide)) (sn x1 x2) (fun t2 g2 G2 k2 TT => ?_))
    have s2 := TT.1
    have kk := kG.trans k2
    have sa2 : cq_s g2 a = 7 := kk.s ((ks a).trans hs) (by decide)
    refine bx_X8_turnSending_72 hY (pf2_ok hY) ?_
    simp only [wp_iconst, wp_bipush, wp_sipush, wp_ldc, wp_ldc2_w, wp_lconst0, wp_lconst1, wp_aconst_null, wp_iload_0, wp_istore_0, wp_iload_1, wp_istore_1, wp_iload_2, wp_istore_2, wp_iload_3, wp_istore_3, wp_iload, wp_istore, wp_lload_0, wp_lstore_0, wp_lload_1, wp_lstore_1, wp_lload_2, wp_lstore_2, wp_lload_3, wp_lstore_3, wp_lload, wp_lstore, wp_aload_0, wp_astore_0, wp_aload_1, wp_astore_1, wp_aload_2, wp_astore_2, wp_aload_3, wp_astore_3, wp_aload, wp_astore, wp_iinc, wp_iadd, wp_isub, wp_imul, wp_iand, wp_ior, wp_ixor, wp_ishl, wp_ishr, wp_iushr, wp_irem, wp_ladd, wp_lsub, wp_lmul, wp_land, wp_lor, wp_lxor, wp_lshl, wp_lshr, wp_lushr, wp_lrem, wp_lcmp, wp_i2l, wp_l2i, wp_dupI, wp_dupA, wp_dup2J, wp_dup2IA, wp_popI, wp_popA, wp_pop2, wp_goto, wp_if_eq, wp_icmp_eq, wp_if_ne, wp_icmp_ne, wp_if_lt, wp_icmp_lt, wp_if_ge, wp_icmp_ge, wp_if_gt, wp_icmp_gt, wp_if_le, wp_icmp_le, wp_ifnull, wp_ifnonnull, wp_acmp_eq, wp_acmp_ne, wp_tableswitch, wp_get0, wp_put0, wp_get1, wp_put1, wp_get2, wp_put2, wp_get3, wp_put3, wp_new, wp_newarray, wp_anewarray, wp_alen, wp_iaload, wp_laload, wp_baload, wp_aaload, wp_iastore, wp_lastore, wp_bastore, wp_aastore, wp_return, wp_ireturnI, wp_ireturnZ, wp_lreturn, wp_areturnO, wp_areturnA, wp_max, wp_min, wp_obj, wp_virt, wp_nil, ld_I0, ld_Is, ld_J0, ld_Js, ld_A0, ld_As, ha_0, ha_s, cx_put1, cx_put2, cx_dl, cx_tgt, true_and, and_true, Nat.reduceAdd, Nat.reduceSub, Int.reduceAdd, Int.reduceNeg, Int.reduceToNat, Int.reduceSub, Int.cast_ofNat_Int, List.take_succ_cons, List.take_zero, List.drop_succ_cons, List.drop_zero, List.take_nil, List.drop_nil, Option.toList_some, Option.toList_none, List.cons_append, List.nil_append, wp_spec, ne_eq, Nat.reduceEqDiff, not_false_eq_true, true_or, or_true, sa2, mm_sI, mm_sJ, mm_sA, mm_IJ, mm_IA, mm_JI, mm_JA, mm_AI, mm_AJ, mm_ssI, mm_ssJ, mm_ssA, mm_zI, mm_zJ, mm_zA, mm_nI, mm_nJ, mm_nA, Nat.left_eq_add, Nat.add_eq_left, Nat.add_left_cancel_iff, Nat.reduceEqDiff, Int.reduceEq, false_and, and_false, if_false, if_true, and_self, true_and, true_or, or_true, false_or, or_false]
    have q1 := TT.q (x1 := some t) (x2 := cq_A h a 14) (G.al _ (Nat.le_refl _)) k2 (sn x1 x2) (zn x1 x2) (by rw [mm_sA, if_neg (fun e => absurd e.2 (by decide)), mm_sA, if_pos ⟨rfl, rfl⟩]) (by rw [mm_sA, if_pos ⟨rfl, rfl⟩]) (fun r' y1 y2 => G.ta (j := 1) y2 (own_9 (by decide)) y1)
    have q2 : tq h g2 r (some t) (cq_A h a 14) t2 := q1.h2 (fun d w => by
      by_cases e : d = h.1
      · rw [e] at w; exact absurd (sn x1 x2) w
      · exact (nw_o (h := cq_sJ (cq_sJ (cq_sA h a 12 (some t)) a 8 x1) a 6 x2) (s := 101) (z := 2) e).1)
    exact hK _ t2 r er ((G2.s7 (j := 7) (v := some t2) sa2 hE (fun b q => by cases q; exact s2) (fun q => (nomatch q)) rfl).sA79 sa2 hE s2) (kk.cA.cA) ((q2.s7 sa2).s7 sa2)
/-- the receiving chain is turned: v the ROOT behind -/
def trW (m : cx_Q) (a q : Nat) (s : Int) (u v : Int64) (o : Option Nat) : cx_Q := cq_sA (cq_sA (cq_sJ (cq_sI (cq_sA (cq_sJ (cq_sI (cq_sI (cq_sI m a 18 s) a 16 0) a 17 0) a 13 u) a 14 o) a 15 1) a 6 v) a 7 (some q)) a 11 (some q)
theorem ev.ctr {m m' : cx_Q} (p : ev m m') {a q : Nat} {s : Int} {u v : Int64} {o : Option Nat} : ev (trW m a q s u v o) (trW m' a q s u v o) := by
  unfold trW
  (repeat' (first | with_reducible assumption | with_reducible exact ev.refl | with_reducible refine ev.cI ?_ | with_reducible refine ev.cJ ?_ | with_reducible refine ev.cA ?_ | with_reducible refine ev.rI ?_ | with_reducible refine ev.rJ ?_ | with_reducible refine ev.rA ?_))
theorem e_X8_turnReceiving (hY : cY Y) {a : Nat} {u v : Int64} {o : Option Nat} (H : CI c n L Z E h0 [] h) (hs : cq_s h a = 7) (hE : cq_s h0 a = 7 → E a ≠ none) (ho : ∀ b, o = some b → cq_s h b = 6) (hK : ∀ g q r t, cq_A h a 7 = some r → cq_A h a 12 = some t → CI c n L Z E h0 [] g → ev (trW h a q (cq_I h a 16) u v o) g → tq h g r (some t) o q → K none g) : cw Y mi_X8_turnReceiving K 0 [some (.inr (.inr (some a))), some (.inr (.inl u)), none, some (.inr (.inr o)), some (.inr (.inl v)), none] [] h 3 89 := by
  have i16 := H.i7_16 hs
  have z0 := H.z0
  have H1 := H.sI (a := a) (j := 18) (v := cq_I h a 16) hs (own_9 (by decide)) i16 rfl
  have H2 := H1.sI (a := a) (j := 16) (v := 0) hs (own_9 (by decide)) ⟨by omega, z0⟩ rfl
  have H3 := H2.sI (a := a) (j := 17) (v := 0) hs (own_9 (by decide)) ⟨by omega, by omega⟩ rfl
  refine bx_X8_turnReceiving_0 hY (pf2_ok hY) ?_
  simp only [wp_iconst, wp_bipush, wp_sipush, wp_ldc, wp_ldc2_w, wp_lconst0, wp_lconst1, wp_aconst_null, wp_iload_0, wp_istore_0, wp_iload_1, wp_istore_1, wp_iload_2, wp_istore_2, wp_iload_3, wp_istore_3, wp_iload, wp_istore, wp_lload_0, wp_lstore_0, wp_lload_1, wp_lstore_1, wp_lload_2, wp_lstore_2, wp_lload_3, wp_lstore_3, wp_lload, wp_lstore, wp_aload_0, wp_astore_0, wp_aload_1, wp_astore_1, wp_aload_2, wp_astore_2, wp_aload_3, wp_astore_3, wp_aload, wp_astore, wp_iinc, wp_iadd, wp_isub, wp_imul, wp_iand, wp_ior, wp_ixor, wp_ishl, wp_ishr, wp_iushr, wp_irem, wp_ladd, wp_lsub, wp_lmul, wp_land, wp_lor, wp_lxor, wp_lshl, wp_lshr, wp_lushr, wp_lrem, wp_lcmp, wp_i2l, wp_l2i, wp_dupI, wp_dupA, wp_dup2J, wp_dup2IA, wp_popI, wp_popA, wp_pop2, wp_goto, wp_if_eq, wp_icmp_eq, wp_if_ne, wp_icmp_ne, wp_if_lt, wp_icmp_lt, wp_if_ge, wp_icmp_ge, wp_if_gt, wp_icmp_gt, wp_if_le, wp_icmp_le, wp_ifnull, wp_ifnonnull, wp_acmp_eq, wp_acmp_ne, wp_tableswitch, wp_get0, wp_put0, wp_get1, wp_put1, wp_get2, wp_put2, wp_get3, wp_put3, wp_new, wp_newarray, wp_anewarray, wp_alen, wp_iaload, wp_laload, wp_baload, wp_aaload, wp_iastore, wp_lastore, wp_bastore, wp_aastore, wp_return, wp_ireturnI, wp_ireturnZ, wp_lreturn, wp_areturnO, wp_areturnA, wp_max, wp_min, wp_obj, wp_virt, wp_nil, ld_I0, ld_Is, ld_J0, ld_Js, ld_A0, ld_As, ha_0, ha_s, cx_put1, cx_put2, cx_dl, cx_tgt, true_and, and_true, Nat.reduceAdd, Nat.reduceSub, Int.reduceAdd, Int.reduceNeg, Int.reduceToNat, Int.reduceSub, Int.cast_ofNat_Int, List.take_succ_cons, List.take_zero, List.drop_succ_cons, List.drop_zero, List.take_nil, List.drop_nil, Option.toList_some, Option.toList_none, List.cons_append, List.nil_append, wp_spec, ne_eq, Nat.reduceEqDiff, not_false_eq_true, true_or, or_true, hs, mm_sI, mm_sJ, mm_sA, mm_IJ, mm_IA, mm_JI, mm_JA, mm_AI, mm_AJ, mm_ssI, mm_ssJ, mm_ssA, mm_zI, mm_zJ, mm_zA, mm_nI, mm_nJ, mm_nA, Nat.left_eq_add, Nat.add_eq_left, Nat.add_left_cancel_iff, Nat.reduceEqDiff, Int.reduceEq, false_and, and_false, if_false, if_true, and_self, true_and, true_or, or_true, false_or, or_false]
  refine cl_X8_meet (Nat.le_of_ble_eq_true rfl) hs (by omega) (by omega) (e_X8_meet hY H3 hs hE ho (fun g G kg => ?_))
  have sgs : ∀ q, cq_s g q = cq_s h q := fun q => by rw [kg]; rfl
  have sa : cq_s g a = 7 := (sgs a).trans hs
  obtain ⟨r, er, sr⟩ := G.g7_7 sa List.not_mem_nil
  obtain ⟨t, et, st⟩ := G.g7_12 sa List.not_mem_nil
  have ty14 : ∀ b, cq_A g a 14 = some b → cq_s g b = 6 := fun b q => G.ta (j := 14) sa (own_9 (by decide)) q
  have na : a ≠ g.1 := fun e => by have := G.lt sa (by decide); omega
  have nt : t ≠ g.1 := fun e => by have := G.lt st (by decide); omega
  have H4 : CI c n L Z E h0 [] (cq_sJ g a 6 v) := G.sJ sa (own_9 (by decide))
  have P := (H4.pair (o1 := some t) (o2 := cq_A g a 14) (fun b q => by cases q; exact st) ty14).1
  have kP : ev (cq_sJ g a 6 v) (cq_sA (cq_sA (cq_nw (cq_sJ g a 6 v) 101 2) g.1 0 (some t)) g.1 1 (cq_A g a 14)) := ev.pair (M := cq_sJ g a 6 v) (o1 := some t) (o2 := cq_A g a 14) (H4.al _ (Nat.le_refl _))
  have ks : ∀ q, cq_s (cq_sJ g a 6 v) q = cq_s g q := fun _ => rfl
  have sa' : cq_s (cq_nw (cq_sJ g a 6 v) 101 2) a = 7 := (nw_o (h := cq_sJ g a 6 v) na).1.trans sa
  have st' : cq_s (cq_nw (cq_sJ g a 6 v) 101 2) t = 6 := (nw_o (h := cq_sJ g a 6 v) nt).1.trans st
  have sn : cq_s (cq_nw (cq_sJ g a 6 v) 101 2) g.1 = 101 := nw_n.1
  have zn : cq_z (cq_nw (cq_sJ g a 6 v) 101 2) g.1 = 2 := nw_n.2.1
  have gA : cq_A (cq_nw (cq_sJ g a 6 v) 101 2) a = cq_A g a := (nw_o (h := cq_sJ g a 6 v) na).2.2.2.2
  refine bx_X8_turnReceiving_24 hY (pf2_ok hY) ?_
  simp only [wp_iconst, wp_bipush, wp_sipush, wp_ldc, wp_ldc2_w, wp_lconst0, wp_lconst1, wp_aconst_null, wp_iload_0, wp_istore_0, wp_iload_1, wp_istore_1, wp_iload_2, wp_istore_2, wp_iload_3, wp_istore_3, wp_iload, wp_istore, wp_lload_0, wp_lstore_0, wp_lload_1, wp_lstore_1, wp_lload_2, wp_lstore_2, wp_lload_3, wp_lstore_3, wp_lload, wp_lstore, wp_aload_0, wp_astore_0, wp_aload_1, wp_astore_1, wp_aload_2, wp_astore_2, wp_aload_3, wp_astore_3, wp_aload, wp_astore, wp_iinc, wp_iadd, wp_isub, wp_imul, wp_iand, wp_ior, wp_ixor, wp_ishl, wp_ishr, wp_iushr, wp_irem, wp_ladd, wp_lsub, wp_lmul, wp_land, wp_lor, wp_lxor, wp_lshl, wp_lshr, wp_lushr, wp_lrem, wp_lcmp, wp_i2l, wp_l2i, wp_dupI, wp_dupA, wp_dup2J, wp_dup2IA, wp_popI, wp_popA, wp_pop2, wp_goto, wp_if_eq, wp_icmp_eq, wp_if_ne, wp_icmp_ne, wp_if_lt, wp_icmp_lt, wp_if_ge, wp_icmp_ge, wp_if_gt, wp_icmp_gt, wp_if_le, wp_icmp_le, wp_ifnull, wp_ifnonnull, wp_acmp_eq, wp_acmp_ne, wp_tableswitch, wp_get0, wp_put0, wp_get1, wp_put1, wp_get2, wp_put2, wp_get3, wp_put3, wp_new, wp_newarray, wp_anewarray, wp_alen, wp_iaload, wp_laload, wp_baload, wp_aaload, wp_iastore, wp_lastore, wp_bastore, wp_aastore, wp_return, wp_ireturnI, wp_ireturnZ, wp_lreturn, wp_areturnO, wp_areturnA, wp_max, wp_min, wp_obj, wp_virt, wp_nil, ld_I0, ld_Is, ld_J0, ld_Js, ld_A0, ld_As, ha_0, ha_s, cx_put1, cx_put2, cx_dl, cx_tgt, true_and, and_true, Nat.reduceAdd, Nat.reduceSub, Int.reduceAdd, Int.reduceNeg, Int.reduceToNat, Int.reduceSub, Int.cast_ofNat_Int, List.take_succ_cons, List.take_zero, List.drop_succ_cons, List.drop_zero, List.take_nil, List.drop_nil, Option.toList_some, Option.toList_none, List.cons_append, List.nil_append, wp_spec, ne_eq, Nat.reduceEqDiff, not_false_eq_true, true_or, or_true, wf_X3_mix, wf_X3_key, wf_X3_times, wf_X3_timesModuloQ, wf_X3_power, wf_X3_rest, wf_X3_secretOf, wf_X3_sealSum, wf_X3_sum, wf_X3_letterKey, wf_X3_nextOf, wf_X3_isOpen, wf_X3_veil, wf_X3_sealIsRight, cx_sz, cx_c2, cond_true, cond_false, Nat.reduceLeDiff, sa, er, et, mm_sI, mm_sJ, mm_sA, mm_IJ, mm_IA, mm_JI, mm_JA, mm_AI, mm_AJ, mm_ssI, mm_ssJ, mm_ssA, mm_zI, mm_zJ, mm_zA, mm_nI, mm_nJ, mm_nA, Nat.left_eq_add, Nat.add_eq_left, Nat.add_left_cancel_iff, Nat.reduceEqDiff, Int.reduceEq, false_and, and_false, if_false, if_true, and_self, true_and, true_or, or_true, false_or, or_false, sa', sn, zn, gA, ra_101]
  refine ⟨by decide, ⟨by decide, by decide, st'⟩, ⟨by decide, by decide, ?_⟩, ?_⟩
  · cases q : cq_A g a 14 with
    | none => trivial
    | some b => exact kP.s ((ks b).trans (ty14 b q)) (by decide)
  · refine cl_X9_turnOf (Nat.le_of_ble_eq_true rfl) (kP.s ((ks r).trans sr) (by decide)) (Nat.le_refl _) (Nat.le_refl _) (e_X9_turnOf hY P (kP.s ((ks r).trans sr) (by decide)) sn (fun t2 g2 G2 k2 TT => ?_))
    have s2 := TT.1
    have kz := kP.trans k2
    have sa2 : cq_s g2 a = 7 := kz.s ((ks a).trans sa) (by decide)
    refine bx_X8_turnReceiving_56 hY (pf2_ok hY) ?_
    simp only [wp_iconst, wp_bipush, wp_sipush, wp_ldc, wp_ldc2_w, wp_lconst0, wp_lconst1, wp_aconst_null, wp_iload_0, wp_istore_0, wp_iload_1, wp_istore_1, wp_iload_2, wp_istore_2, wp_iload_3, wp_istore_3, wp_iload, wp_istore, wp_lload_0, wp_lstore_0, wp_lload_1, wp_lstore_1, wp_lload_2, wp_lstore_2, wp_lload_3, wp_lstore_3, wp_lload, wp_lstore, wp_aload_0, wp_astore_0, wp_aload_1, wp_astore_1, wp_aload_2, wp_astore_2, wp_aload_3, wp_astore_3, wp_aload, wp_astore, wp_iinc, wp_iadd, wp_isub, wp_imul, wp_iand, wp_ior, wp_ixor, wp_ishl, wp_ishr, wp_iushr, wp_irem, wp_ladd, wp_lsub, wp_lmul, wp_land, wp_lor, wp_lxor, wp_lshl, wp_lshr, wp_lushr, wp_lrem, wp_lcmp, wp_i2l, wp_l2i, wp_dupI, wp_dupA, wp_dup2J, wp_dup2IA, wp_popI, wp_popA, wp_pop2, wp_goto, wp_if_eq, wp_icmp_eq, wp_if_ne, wp_icmp_ne, wp_if_lt, wp_icmp_lt, wp_if_ge, wp_icmp_ge, wp_if_gt, wp_icmp_gt, wp_if_le, wp_icmp_le, wp_ifnull, wp_ifnonnull, wp_acmp_eq, wp_acmp_ne, wp_tableswitch, wp_get0, wp_put0, wp_get1, wp_put1, wp_get2, wp_put2, wp_get3, wp_put3, wp_new, wp_newarray, wp_anewarray, wp_alen, wp_iaload, wp_laload, wp_baload, wp_aaload, wp_iastore, wp_lastore, wp_bastore, wp_aastore, wp_return, wp_ireturnI, wp_ireturnZ, wp_lreturn, wp_areturnO, wp_areturnA, wp_max, wp_min, wp_obj, wp_virt, wp_nil, ld_I0, ld_Is, ld_J0, ld_Js, ld_A0, ld_As, ha_0, ha_s, cx_put1, cx_put2, cx_dl, cx_tgt, true_and, and_true, Nat.reduceAdd, Nat.reduceSub, Int.reduceAdd, Int.reduceNeg, Int.reduceToNat, Int.reduceSub, Int.cast_ofNat_Int, List.take_succ_cons, List.take_zero, List.drop_succ_cons, List.drop_zero, List.take_nil, List.drop_nil, Option.toList_some, Option.toList_none, List.cons_append, List.nil_append, wp_spec, ne_eq, Nat.reduceEqDiff, not_false_eq_true, true_or, or_true, sa2, mm_sI, mm_sJ, mm_sA, mm_IJ, mm_IA, mm_JI, mm_JA, mm_AI, mm_AJ, mm_ssI, mm_ssJ, mm_ssA, mm_zI, mm_zJ, mm_zA, mm_nI, mm_nJ, mm_nA, Nat.left_eq_add, Nat.add_eq_left, Nat.add_left_cancel_iff, Nat.reduceEqDiff, Int.reduceEq, false_and, and_false, if_false, if_true, and_self, true_and, true_or, or_true, false_or, or_false]
    have gA7 : cq_A g a 7 = cq_A h a 7 := by rw [kg, mm_AI, mm_sA, if_neg (fun e => absurd e.2 (by decide))]; rfl
    have gA12 : cq_A g a 12 = cq_A h a 12 := by rw [kg, mm_AI, mm_sA, if_neg (fun e => absurd e.2 (by decide))]; rfl
    have gA14 : cq_A g a 14 = o := by rw [kg, mm_AI, mm_sA, if_pos ⟨rfl, rfl⟩]
    have q1 := TT.q (x1 := some t) (x2 := cq_A g a 14) (P.al _ (Nat.le_refl _)) k2 sn zn (by rw [mm_sA, if_neg (fun e => absurd e.2 (by decide)), mm_sA, if_pos ⟨rfl, rfl⟩]) (by rw [mm_sA, if_pos ⟨rfl, rfl⟩]) (fun r' y1 y2 => P.ta (j := 1) y2 (own_9 (by decide)) y1)
    have q2 : tq h g2 r (some t) (cq_A g a 14) t2 := q1.h2 (fun d w => by
      by_cases e : d = g.1
      · rw [e] at w; exact absurd sn w
      · exact ((nw_o (h := cq_sJ g a 6 v) (s := 101) (z := 2) e).1).trans (sgs d))
    rw [gA14] at q2
    refine hK _ t2 r t (by rw [← gA7]; exact er) (by rw [← gA12]; exact et) ((G2.s7 (j := 7) (v := some t2) sa2 hE (fun b q => by cases q; exact s2) (fun q => (nomatch q)) rfl).s7 (j := 11) (v := some t2) sa2 hE (fun b q => by cases q; exact s2) (fun q => (nomatch q)) rfl) ?_ ((q2.s7 sa2).s7 sa2)
    unfold trW
    rw [← kg]
    exact kz.cA.cA
end
