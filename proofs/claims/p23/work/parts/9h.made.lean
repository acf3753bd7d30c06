/-! the class: its objects are made -/
section
variable {Y : cx_Y} {K : Option cx_V → cx_Q → Prop} {c : Nat} {n L Z : Int} {E : Nat → Option Int} {h0 : cx_Q} {X : List Nat} {h : cx_Q}
/-- sorts and ints of what is there are kept, and references but for those of a -/
def kA (c a : Nat) (h h' : cx_Q) : Prop := (∀ b, cq_s h b ≠ 99 → cq_s h' b = cq_s h b) ∧ (∀ b r, cq_s h b ≠ 99 → b ≠ a → cq_A h' b r = cq_A h b r) ∧ cq_I h' c = cq_I h c
theorem kA.refl {a : Nat} : kA c a h h := ⟨fun _ _ => rfl, fun _ _ _ _ => rfl, rfl⟩
theorem kA.trans {a : Nat} {h1 h2 : cx_Q} (p : kA c a h h1) (q : kA c a h1 h2) : kA c a h h2 := ⟨fun b w => (q.1 b (by rw [p.1 b w]; exact w)).trans (p.1 b w), fun b r w w2 => (q.2.1 b r (by rw [p.1 b w]; exact w) w2).trans (p.2.1 b r w w2), q.2.2.trans p.2.2⟩
theorem kA.s {a b s : Nat} {h' : cx_Q} (p : kA c a h h') (hs : cq_s h b = s) (hn : s ≠ 99) : cq_s h' b = s := (p.1 b (by rw [hs]; exact hn)).trans hs
theorem kA.nb {a b : Nat} {h' : cx_Q} (p : kA c a h h') (hal : cq_s h' h'.1 = 99) (w : cq_s h b ≠ 99) : b ≠ h'.1 := fun e => by
  have := p.1 b w
  rw [e, hal] at this
  rw [e] at w
  exact w this.symm
/-- an array is made and put into a field -/
theorem CI.stA {a s t : Nat} {j z : Int} (G : CI c n L Z E h0 (a :: X) h) (sa : cq_s h a = s) (ho : own s) (hz : zT n t z) (t4 : t ≠ 4) (t5 : t ≠ 5) (tm : ∀ j, ¬ muA t j z) (st : tyA s j = t) (sp : spA s j = false ∨ (s = 9 ∧ j = 1 ∧ cq_I h a 2 = 0) ∨ (s = 5 ∧ j = 0)) (s9 : s ≠ 99) :
    CI c n L Z E h0 (a :: X) (cq_sA (cq_nw h t z) a j (some h.1)) ∧ kA c a h (cq_sA (cq_nw h t z) a j (some h.1)) ∧ cq_A (cq_sA (cq_nw h t z) a j (some h.1)) a j = some h.1 ∧ (∀ r, r ≠ j → cq_A (cq_sA (cq_nw h t z) a j (some h.1)) a r = cq_A h a r) := by
  have hal := G.al h.1 (Nat.le_refl _)
  have na : a ≠ h.1 := fun e => by rw [← e, sa] at hal; exact s9 hal
  have nc : c ≠ h.1 := fun e => by rw [← e, G.cs] at hal; exact absurd hal (by decide)
  have G2 := G.new hz t4 t5 tm
  have sa2 : cq_s (cq_nw h t z) a = s := (nw_o na).1.trans sa
  have sn : cq_s (cq_nw h t z) h.1 = t := nw_n.1
  refine ⟨?_, ⟨fun b w => ?_, fun b r w w2 => ?_, ?_⟩, ?_, fun r w => ?_⟩
  · have hv : ∀ b, some h.1 = some b → cq_s (cq_nw h t z) b = tyA s j := fun b q => by cases q; rw [sn, st]
    rcases sp with sp | ⟨e1, e2, e3⟩ | ⟨e1, e2⟩
    · exact G2.sA sa2 ho hv (fun q => (nomatch q)) sp
    · subst e1 e2
      refine G2.sAx sa2 ho hv (fun q => (nomatch q)) (fun q => absurd q (by decide)) (fun q => absurd q (by decide)) (fun q => absurd q (by decide)) (fun q => absurd q (by decide)) (by decide) (fun _ _ => ?_) (fun q => absurd q (by decide))
      rw [(nw_o na).2.2.1]
      exact e3
    · subst e1 e2
      exact G2.sAx sa2 ho hv (fun q => (nomatch q)) (fun q => absurd q (by decide)) (fun q => absurd q (by decide)) (fun _ _ => List.mem_cons_self) (fun q => absurd q (by decide)) (by decide) (fun q => absurd q (by decide)) (fun q => absurd q (by decide))
  · have nb : b ≠ h.1 := fun e => by rw [e] at w; exact w hal
    exact (nw_o (s := t) (z := z) nb).1
  · have nb : b ≠ h.1 := fun e => by rw [e] at w; exact w hal
    rw [mm_sA, if_neg (fun e => w2 e.1), (nw_o nb).2.2.2.2]
  · exact (nw_o (s := t) (z := z) nc).2.2.1
  · rw [mm_sA, if_pos ⟨rfl, rfl⟩]
  · rw [mm_sA, if_neg (fun e => w e.2), (nw_o na).2.2.2.2]
theorem c_X0_init (hY : cY Y) {a : Nat} (H : CI c n L Z E h0 (a :: X) h) (hs : cq_s h a = 0) (hK : ∀ h', CI c n L Z E h0 X h' → kA c a h h' → K none h') : cw Y mi_X0_init K 0 [some (.inr (.inr (some a)))] [] h 1 0 := by
  obtain ⟨A1, A2, A3, A4⟩ := H.stA (t := 100) (j := 0) (z := 0) hs (own_9 (by decide)) ⟨by decide, by decide⟩ (by decide) (by decide) (fun j q => by unfold muA at q; omega) rfl (Or.inl rfl) (by decide)
  refine bx_X0_init_0 hY (pf2_ok hY) ?_
  simp only [wp_iconst, wp_bipush, wp_sipush, wp_ldc, wp_ldc2_w, wp_lconst0, wp_lconst1, wp_aconst_null, wp_iload_0, wp_istore_0, wp_iload_1, wp_istore_1, wp_iload_2, wp_istore_2, wp_iload_3, wp_istore_3, wp_iload, wp_istore, wp_lload_0, wp_lstore_0, wp_lload_1, wp_lstore_1, wp_lload_2, wp_lstore_2, wp_lload_3, wp_lstore_3, wp_lload, wp_lstore, wp_aload_0, wp_astore_0, wp_aload_1, wp_astore_1, wp_aload_2, wp_astore_2, wp_aload_3, wp_astore_3, wp_aload, wp_astore, wp_iinc, wp_iadd, wp_isub, wp_imul, wp_iand, wp_ior, wp_ixor, wp_ishl, wp_ishr, wp_iushr, wp_irem, wp_ladd, wp_lsub, wp_lmul, wp_land, wp_lor, wp_lxor, wp_lshl, wp_lshr, wp_lushr, wp_lrem, wp_lcmp, wp_i2l, wp_l2i, wp_dupI, wp_dupA, wp_dup2J, wp_dup2IA, wp_popI, wp_popA, wp_pop2, wp_goto, wp_if_eq, wp_icmp_eq, wp_if_ne, wp_icmp_ne, wp_if_lt, wp_icmp_lt, wp_if_ge, wp_icmp_ge, wp_if_gt, wp_icmp_gt, wp_if_le, wp_icmp_le, wp_ifnull, wp_ifnonnull, wp_acmp_eq, wp_acmp_ne, wp_tableswitch, wp_get0, wp_put0, wp_get1, wp_put1, wp_get2, wp_put2, wp_get3, wp_put3, wp_new, wp_newarray, wp_anewarray, wp_alen, wp_iaload, wp_laload, wp_baload, wp_aaload, wp_iastore, wp_lastore, wp_bastore, wp_aastore, wp_return, wp_ireturnI, wp_ireturnZ, wp_lreturn, wp_areturnO, wp_areturnA, wp_max, wp_min, wp_obj, wp_virt, wp_nil, ld_I0, ld_Is, ld_J0, ld_Js, ld_A0, ld_As, ha_0, ha_s, cx_put1, cx_put2, cx_dl, cx_tgt, true_and, and_true, Nat.reduceAdd, Nat.reduceSub, Int.reduceAdd, Int.reduceNeg, Int.reduceToNat, Int.reduceSub, Int.cast_ofNat_Int, List.take_succ_cons, List.take_zero, List.drop_succ_cons, List.drop_zero, List.take_nil, List.drop_nil, Option.toList_some, Option.toList_none, List.cons_append, List.nil_append, wp_spec, ne_eq, Nat.reduceEqDiff, not_false_eq_true, true_or, or_true, wf_X3_mix, wf_X3_key, wf_X3_times, wf_X3_timesModuloQ, wf_X3_power, wf_X3_rest, wf_X3_secretOf, wf_X3_sealSum, wf_X3_sum, wf_X3_letterKey, wf_X3_nextOf, wf_X3_isOpen, wf_X3_veil, wf_X3_sealIsRight, cx_sz, cx_c2, cond_true, cond_false, Nat.reduceLeDiff]
  (repeat' (with_reducible (first | refine And.intro ?_ ?_ | intro _)))
  all_goals (try omega)
  · exact A2.s hs (by decide)
  · refine hK _ (A1.mk (A2.s hs (by decide)) (fun j q => ?_) (fun q => absurd q (by decide))) A2
    have q' : j = 0 := by unfold muA at q; omega
    rw [q', A3]; exact Option.some_ne_none _
theorem c_X4_init (hY : cY Y) {a : Nat} (H : CI c n L Z E h0 (a :: X) h) (hs : cq_s h a = 3) (hK : ∀ h', CI c n L Z E h0 X h' → kA c a h h' → K none h') : cw Y mi_X4_init K 0 [some (.inr (.inr (some a)))] [] h 1 10 := by
  obtain ⟨A1, A2, A3, A4⟩ := H.stA (t := 175) (j := 0) (z := 10) hs (own_9 (by decide)) rfl (by decide) (by decide) (fun j q => by unfold muA at q; omega) rfl (Or.inl rfl) (by decide)
  refine bx_X4_init_0 hY (pf2_ok hY) ?_
  simp only [wp_iconst, wp_bipush, wp_sipush, wp_ldc, wp_ldc2_w, wp_lconst0, wp_lconst1, wp_aconst_null, wp_iload_0, wp_istore_0, wp_iload_1, wp_istore_1, wp_iload_2, wp_istore_2, wp_iload_3, wp_istore_3, wp_iload, wp_istore, wp_lload_0, wp_lstore_0, wp_lload_1, wp_lstore_1, wp_lload_2, wp_lstore_2, wp_lload_3, wp_lstore_3, wp_lload, wp_lstore, wp_aload_0, wp_astore_0, wp_aload_1, wp_astore_1, wp_aload_2, wp_astore_2, wp_aload_3, wp_astore_3, wp_aload, wp_astore, wp_iinc, wp_iadd, wp_isub, wp_imul, wp_iand, wp_ior, wp_ixor, wp_ishl, wp_ishr, wp_iushr, wp_irem, wp_ladd, wp_lsub, wp_lmul, wp_land, wp_lor, wp_lxor, wp_lshl, wp_lshr, wp_lushr, wp_lrem, wp_lcmp, wp_i2l, wp_l2i, wp_dupI, wp_dupA, wp_dup2J, wp_dup2IA, wp_popI, wp_popA, wp_pop2, wp_goto, wp_if_eq, wp_icmp_eq, wp_if_ne, wp_icmp_ne, wp_if_lt, wp_icmp_lt, wp_if_ge, wp_icmp_ge, wp_if_gt, wp_icmp_gt, wp_if_le, wp_icmp_le, wp_ifnull, wp_ifnonnull, wp_acmp_eq, wp_acmp_ne, wp_tableswitch, wp_get0, wp_put0, wp_get1, wp_put1, wp_get2, wp_put2, wp_get3, wp_put3, wp_new, wp_newarray, wp_anewarray, wp_alen, wp_iaload, wp_laload, wp_baload, wp_aaload, wp_iastore, wp_lastore, wp_bastore, wp_aastore, wp_return, wp_ireturnI, wp_ireturnZ, wp_lreturn, wp_areturnO, wp_areturnA, wp_max, wp_min, wp_obj, wp_virt, wp_nil, ld_I0, ld_Is, ld_J0, ld_Js, ld_A0, ld_As, ha_0, ha_s, cx_put1, cx_put2, cx_dl, cx_tgt, true_and, and_true, Nat.reduceAdd, Nat.reduceSub, Int.reduceAdd, Int.reduceNeg, Int.reduceToNat, Int.reduceSub, Int.cast_ofNat_Int, List.take_succ_cons, List.take_zero, List.drop_succ_cons, List.drop_zero, List.take_nil, List.drop_nil, Option.toList_some, Option.toList_none, List.cons_append, List.nil_append, wp_spec, ne_eq, Nat.reduceEqDiff, not_false_eq_true, true_or, or_true, wf_X3_mix, wf_X3_key, wf_X3_times, wf_X3_timesModuloQ, wf_X3_power, wf_X3_rest, wf_X3_secretOf, wf_X3_sealSum, wf_X3_sum, wf_X3_letterKey, wf_X3_nextOf, wf_X3_isOpen, wf_X3_veil, wf_X3_sealIsRight, cx_sz, cx_c2, cond_true, cond_false, Nat.reduceLeDiff]
  (repeat' (with_reducible (first | refine And.intro ?_ ?_ | intro _)))
  all_goals (try omega)
  · exact A2.s hs (by decide)
  · refine hK _ (A1.mk (A2.s hs (by decide)) (fun j q => ?_) (fun q => absurd q (by decide))) A2
    have q' : j = 0 := by unfold muA at q; omega
    rw [q', A3]; exact Option.some_ne_none _
theorem c_X6_init (hY : cY Y) {a : Nat} (H : CI c n L Z E h0 (a :: X) h) (hs : cq_s h a = 5) (h1 : h.1 = a + 1) (hi : cq_I h a 1 = 0) (hK : ∀ h', CI c n L Z E h0 X h' → kA c a h h' → K none h') : cw Y mi_X6_init K 0 [some (.inr (.inr (some a)))] [] h 1 4 := by
  have hal := H.al h.1 (Nat.le_refl _)
  have na : a ≠ h.1 := by omega
  obtain ⟨A1, A2, A3, A4⟩ := H.stA (t := 182) (j := 0) (z := 4) hs (own_9 (by decide)) rfl (by decide) (by decide) (fun j q => by unfold muA at q; omega) rfl (Or.inr (Or.inr ⟨rfl, rfl⟩)) (by decide)
  have i1 : cq_I (cq_sA (cq_nw h 182 4) a 0 (some h.1)) a 1 = 0 := by
    show cq_I (cq_nw h 182 4) a 1 = 0
    rw [(nw_o na).2.2.1]
    exact hi
  refine bx_X6_init_0 hY (pf2_ok hY) ?_
  simp only [wp_iconst, wp_bipush, wp_sipush, wp_ldc, wp_ldc2_w, wp_lconst0, wp_lconst1, wp_aconst_null, wp_iload_0, wp_istore_0, wp_iload_1, wp_istore_1, wp_iload_2, wp_istore_2, wp_iload_3, wp_istore_3, wp_iload, wp_istore, wp_lload_0, wp_lstore_0, wp_lload_1, wp_lstore_1, wp_lload_2, wp_lstore_2, wp_lload_3, wp_lstore_3, wp_lload, wp_lstore, wp_aload_0, wp_astore_0, wp_aload_1, wp_astore_1, wp_aload_2, wp_astore_2, wp_aload_3, wp_astore_3, wp_aload, wp_astore, wp_iinc, wp_iadd, wp_isub, wp_imul, wp_iand, wp_ior, wp_ixor, wp_ishl, wp_ishr, wp_iushr, wp_irem, wp_ladd, wp_lsub, wp_lmul, wp_land, wp_lor, wp_lxor, wp_lshl, wp_lshr, wp_lushr, wp_lrem, wp_lcmp, wp_i2l, wp_l2i, wp_dupI, wp_dupA, wp_dup2J, wp_dup2IA, wp_popI, wp_popA, wp_pop2, wp_goto, wp_if_eq, wp_icmp_eq, wp_if_ne, wp_icmp_ne, wp_if_lt, wp_icmp_lt, wp_if_ge, wp_icmp_ge, wp_if_gt, wp_icmp_gt, wp_if_le, wp_icmp_le, wp_ifnull, wp_ifnonnull, wp_acmp_eq, wp_acmp_ne, wp_tableswitch, wp_get0, wp_put0, wp_get1, wp_put1, wp_get2, wp_put2, wp_get3, wp_put3, wp_new, wp_newarray, wp_anewarray, wp_alen, wp_iaload, wp_laload, wp_baload, wp_aaload, wp_iastore, wp_lastore, wp_bastore, wp_aastore, wp_return, wp_ireturnI, wp_ireturnZ, wp_lreturn, wp_areturnO, wp_areturnA, wp_max, wp_min, wp_obj, wp_virt, wp_nil, ld_I0, ld_Is, ld_J0, ld_Js, ld_A0, ld_As, ha_0, ha_s, cx_put1, cx_put2, cx_dl, cx_tgt, true_and, and_true, Nat.reduceAdd, Nat.reduceSub, Int.reduceAdd, Int.reduceNeg, Int.reduceToNat, Int.reduceSub, Int.cast_ofNat_Int, List.take_succ_cons, List.take_zero, List.drop_succ_cons, List.drop_zero, List.take_nil, List.drop_nil, Option.toList_some, Option.toList_none, List.cons_append, List.nil_append, wp_spec, ne_eq, Nat.reduceEqDiff, not_false_eq_true, true_or, or_true, wf_X3_mix, wf_X3_key, wf_X3_times, wf_X3_timesModuloQ, wf_X3_power, wf_X3_rest, wf_X3_secretOf, wf_X3_sealSum, wf_X3_sum, wf_X3_letterKey, wf_X3_nextOf, wf_X3_isOpen, wf_X3_veil, wf_X3_sealIsRight, cx_sz, cx_c2, cond_true, cond_false, Nat.reduceLeDiff]
  (repeat' (with_reducible (first | refine And.intro ?_ ?_ | intro _)))
  all_goals (try omega)
  · exact A2.s hs (by decide)
  · refine hK _ (A1.mk (A2.s hs (by decide)) (fun j q => ?_) (fun _ => ⟨?_, fun i w1 w2 => ?_⟩)) A2
    · exfalso; unfold muA at q; omega
    · rw [A3, h1]
    · rw [i1] at w2
      omega
end
