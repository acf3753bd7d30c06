/-! class and reference side by side: a SESSION is BEGUN, the class's side -/
section
variable {Y : cx_Y} {K : Option cx_V → cx_Q → Prop} {c : Nat} {n L Z : Int} {E : Nat → Option Int} {h0 : cx_Q} {X : List Nat} {h : cx_Q}
/-- the pairs of a first ROOT, as they stand in a row -/
def FPr (g : cx_Q) (p : Nat) (o0 o1 o2 o3 o4 : Option Nat) : Prop := cq_s g p = 101 ∧ (cq_A g p 0 = o0 ∧ cq_A g p 1 = o3) ∧ (cq_A g p 2 = o2 ∧ cq_A g p 3 = o1) ∧ (cq_A g p 4 = o2 ∧ cq_A g p 5 = o3) ∧ ((o4 = none ∧ cq_z g p = 6) ∨ (o4 ≠ none ∧ cq_z g p = 8 ∧ cq_A g p 6 = o2 ∧ cq_A g p 7 = o4))
theorem FPr.w {g g' : cx_Q} {p : Nat} {o0 o1 o2 o3 o4 : Option Nat} (F : FPr g p o0 o1 o2 o3 o4) (w : et g g') : FPr g' p o0 o1 o2 o3 o4 := by
  have e := w.2.2 p F.1
  have s := w.1 p (by rw [F.1]; decide)
  unfold FPr
  rw [e, s.1, s.2]
  exact F
/-- a first turn: made, or found -/
def fpT (h g : cx_Q) (b f : Nat) (o0 o1 o2 o3 o4 : Option Nat) : Prop := cq_s g f = 8 ∧ cq_A g f 0 = some b ∧ ∃ r, cq_A g f 1 = some r ∧ cq_s g r = 101 ∧ ((cq_s h f = 99 ∧ FPr g r o0 o1 o2 o3 o4) ∨ (cq_s h f = 8 ∧ ∃ p, FPr g p o0 o1 o2 o3 o4 ∧ mtR g r p))
theorem fpT.w {h g g' : cx_Q} {b f : Nat} {o0 o1 o2 o3 o4 : Option Nat} (F : fpT h g b f o0 o1 o2 o3 o4) (w : et g g') : fpT h g' b f o0 o1 o2 o3 o4 := by
  obtain ⟨f1, f2, r, f3, f4, f5⟩ := F
  have w1 := w.1 f (by rw [f1]; decide)
  have w4 := w.1 r (by rw [f4]; decide)
  refine ⟨w1.1.trans f1, by rw [w.2.1 f 0 f1 (by decide)]; exact f2, r, by rw [w.2.1 f 1 f1 (by decide)]; exact f3, w4.1.trans f4, ?_⟩
  rcases f5 with f5 | ⟨f5, p, f6, f7⟩
  · exact Or.inl ⟨f5.1, f5.2.w w⟩
  · refine Or.inr ⟨f5, p, f6.w w, ?_⟩
    have sp := w.1 p (by rw [f6.1]; decide)
    exact mtR_c (h := g') (h' := g) w4.2.symm sp.2.symm (fun j => by rw [w.2.2 r f4]) (fun j => by rw [w.2.2 p f6.1]) f7
theorem fpT.hh {h h' g : cx_Q} {b f : Nat} {o0 o1 o2 o3 o4 : Option Nat} (w : cq_s h' f = cq_s h f) (F : fpT h' g b f o0 o1 o2 o3 o4) : fpT h g b f o0 o1 o2 o3 o4 := by
  unfold fpT at F ⊢
  rw [w] at F
  exact F
theorem toT.f {h g : cx_Q} {a p t : Nat} {o0 o1 o2 o3 o4 : Option Nat} (T : toT h a p t g) (al : cq_s h h.1 = 99) (e : ev h g) (F : FPr h p o0 o1 o2 o3 o4) (sr : ∀ r, cq_A h t 1 = some r → cq_s h t = 8 → cq_s h r = 101) : fpT h g a t o0 o1 o2 o3 o4 := by
  obtain ⟨T1, T2, T3⟩ := T
  rcases T3 with ⟨eg, r, q1, m⟩ | ⟨et_, q1, _⟩
  · rw [eg] at T1 T2 ⊢
    exact ⟨T1, T2, r, q1, sr r q1 T1, Or.inr ⟨T1, p, F, m⟩⟩
  · exact ⟨T1, T2, p, q1, (F.w e.et).1, Or.inl ⟨by rw [et_]; exact al, F.w e.et⟩⟩
/-- a first turn of a SECRET that no turn was of is a new one -/
theorem fpT.new {h g : cx_Q} {b f t : Nat} {o0 o1 o3 o4 : Option Nat} (F : fpT h g b f o0 o1 (some t) o3 o4) (w : et h g) (ty : ∀ r, cq_s h f = 8 → cq_A h f 1 = some r → cq_s h r = 101) (no : noP (fun z => z ≠ 2) h t) : cq_s h f = 99 := by
  obtain ⟨_, _, r, f3, _, f5⟩ := F
  rcases f5 with f5 | ⟨f5, p, f6, f7⟩
  · exact f5.1
  · exfalso
    have e1 : cq_A h f 1 = some r := by rw [← w.2.1 f 1 f5 (by decide)]; exact f3
    have sr := ty r f5 e1
    obtain ⟨_, _, p2, _, p4⟩ := f6
    have z : 4 < cq_z g r := by
      rw [← f7.1]
      rcases p4 with p4 | p4
      · rw [p4.2]; decide
      · rw [p4.2.1]; decide
    have m1 := f7.2 1 (by decide) (by omega)
    simp only [Int.mul_one, Int.reduceAdd] at m1
    rw [w.2.2 r sr, p2.1] at m1
    have z2 : cq_z h r ≠ 2 := by rw [← (w.1 r (by rw [sr]; decide)).2]; omega
    rcases m1.2 with m2 | m2
    · exact no f r 2 f5 e1 z2 m2.1
    · exact no f r 3 f5 e1 z2 m2.2
theorem e_X10_firstPairs (hY : cY Y) {o0 o1 o2 o3 o4 : Option Nat} (H : CI c n L Z E h0 [] h) (q0 : ∀ b, o0 = some b → cq_s h b = 6) (q1 : ∀ b, o1 = some b → cq_s h b = 6) (q2 : ∀ b, o2 = some b → cq_s h b = 6) (q3 : ∀ b, o3 = some b → cq_s h b = 6) (q4 : ∀ b, o4 = some b → cq_s h b = 6) (hK : ∀ h', CI c n L Z E h0 [] h' → ev h h' → FPr h' h.1 o0 o1 o2 o3 o4 → (∀ d, d ≠ h.1 → cq_s h' d = cq_s h d) → (∀ d, cq_s h' d = 8 → cq_A h' d 1 ≠ some h.1) → K (some (.inr (.inr (some h.1)))) h') : cw Y mi_X10_firstPairs K 0 [some (.inr (.inr o0)), some (.inr (.inr o1)), some (.inr (.inr o2)), some (.inr (.inr o3)), some (.inr (.inr o4))] [] h 2 14 := by
  have hal := H.al h.1 (Nat.le_refl _)
  have hn : cq_s h0 h.1 = 99 := H.ct.old hal
  have j77 : ∀ g bc bs, CI c n L Z E h0 [] g → ev h g → FPr g h.1 o0 o1 o2 o3 o4 → (∀ d, d ≠ h.1 → cq_s g d = cq_s h d) → frP g h.1 → cw Y mi_X10_firstPairs K 77 [some (.inr (.inr o0)), some (.inr (.inr o1)), some (.inr (.inr o2)), some (.inr (.inr o3)), some (.inr (.inr o4))] [.inr (.inr (some h.1))] g bc bs := by
    intro g bc bs G kg sp ns fp
    refine bx_X10_firstPairs_77 hY (pf2_ok hY) ?_
    simp only [wp_iconst, wp_bipush, wp_sipush, wp_ldc, wp_ldc2_w, wp_lconst0, wp_lconst1, wp_aconst_null, wp_iload_0, wp_istore_0, wp_iload_1, wp_istore_1, wp_iload_2, wp_istore_2, wp_iload_3, wp_istore_3, wp_iload, wp_istore, wp_lload_0, wp_lstore_0, wp_lload_1, wp_lstore_1, wp_lload_2, wp_lstore_2, wp_lload_3, wp_lstore_3, wp_lload, wp_lstore, wp_aload_0, wp_astore_0, wp_aload_1, wp_astore_1, wp_aload_2, wp_astore_2, wp_aload_3, wp_astore_3, wp_aload, wp_astore, wp_iinc, wp_iadd, wp_isub, wp_imul, wp_iand, wp_ior, wp_ixor, wp_ishl, wp_ishr, wp_iushr, wp_irem, wp_ladd, wp_lsub, wp_lmul, wp_land, wp_lor, wp_lxor, wp_lshl, wp_lshr, wp_lushr, wp_lrem, wp_lcmp, wp_i2l, wp_l2i, wp_dupI, wp_dupA, wp_dup2J, wp_dup2IA, wp_popI, wp_popA, wp_pop2, wp_goto, wp_if_eq, wp_icmp_eq, wp_if_ne, wp_icmp_ne, wp_if_lt, wp_icmp_lt, wp_if_ge, wp_icmp_ge, wp_if_gt, wp_icmp_gt, wp_if_le, wp_icmp_le, wp_ifnull, wp_ifnonnull, wp_acmp_eq, wp_acmp_ne, wp_tableswitch, wp_get0, wp_put0, wp_get1, wp_put1, wp_get2, wp_put2, wp_get3, wp_put3, wp_new, wp_newarray, wp_anewarray, wp_alen, wp_iaload, wp_laload, wp_baload, wp_aaload, wp_iastore, wp_lastore, wp_bastore, wp_aastore, wp_return, wp_ireturnI, wp_ireturnZ, wp_lreturn, wp_areturnO, wp_areturnA, wp_max, wp_min, wp_obj, wp_virt, wp_nil, ld_I0, ld_Is, ld_J0, ld_Js, ld_A0, ld_As, ha_0, ha_s, cx_put1, cx_put2, cx_dl, cx_tgt, true_and, and_true, Nat.reduceAdd, Nat.reduceSub, Int.reduceAdd, Int.reduceNeg, Int.reduceToNat, Int.reduceSub, Int.cast_ofNat_Int, List.take_succ_cons, List.take_zero, List.drop_succ_cons, List.drop_zero, List.take_nil, List.drop_nil, Option.toList_some, Option.toList_none, List.cons_append, List.nil_append, wp_spec, ne_eq, Nat.reduceEqDiff, not_false_eq_true, true_or, or_true]
    exact hK g G kg sp ns (fun d q => fp d q)
  have st : ∀ (g : cx_Q) (j : Int) (o : Option Nat), CI c n L Z E h0 [] g → ev h g → cq_s g h.1 = 101 → frP g h.1 → (∀ b, o = some b → cq_s h b = 6) → CI c n L Z E h0 [] (cq_sA g h.1 j o) ∧ ev h (cq_sA g h.1 j o) ∧ frP (cq_sA g h.1 j o) h.1 := fun g j o G kg sg fp ho => ⟨(G.s101 sg hn fp (fun b q => (kg.s (ho b q) (by decide) : cq_s g b = 6))).1, kg.fA hal, (G.s101 (j := j) (v := o) sg hn fp (fun b q => (kg.s (ho b q) (by decide) : cq_s g b = 6))).2⟩
  have mk : ∀ z : Int, 0 ≤ z ∧ z ≤ 8 → CI c n L Z E h0 [] (cq_nw h 101 z) ∧ ev h (cq_nw h 101 z) ∧ cq_s (cq_nw h 101 z) h.1 = 101 ∧ cq_z (cq_nw h 101 z) h.1 = z ∧ frP (cq_nw h 101 z) h.1 := fun z hz => ⟨H.new (s := 101) hz (by decide) (by decide) (fun j q => by unfold muA at q; omega), ev.refl.nw hal, nw_n.1, nw_n.2.1, H.nwP⟩
  obtain ⟨M6, k6, s6, z6, f6⟩ := mk 6 (by omega)
  obtain ⟨M8, k8, s8, z8, f8⟩ := mk 8 (by omega)
  refine bx_X10_firstPairs_0 hY (pf2_ok hY) ?_
  simp only [wp_iconst, wp_bipush, wp_sipush, wp_ldc, wp_ldc2_w, wp_lconst0, wp_lconst1, wp_aconst_null, wp_iload_0, wp_istore_0, wp_iload_1, wp_istore_1, wp_iload_2, wp_istore_2, wp_iload_3, wp_istore_3, wp_iload, wp_istore, wp_lload_0, wp_lstore_0, wp_lload_1, wp_lstore_1, wp_lload_2, wp_lstore_2, wp_lload_3, wp_lstore_3, wp_lload, wp_lstore, wp_aload_0, wp_astore_0, wp_aload_1, wp_astore_1, wp_aload_2, wp_astore_2, wp_aload_3, wp_astore_3, wp_aload, wp_astore, wp_iinc, wp_iadd, wp_isub, wp_imul, wp_iand, wp_ior, wp_ixor, wp_ishl, wp_ishr, wp_iushr, wp_irem, wp_ladd, wp_lsub, wp_lmul, wp_land, wp_lor, wp_lxor, wp_lshl, wp_lshr, wp_lushr, wp_lrem, wp_lcmp, wp_i2l, wp_l2i, wp_dupI, wp_dupA, wp_dup2J, wp_dup2IA, wp_popI, wp_popA, wp_pop2, wp_goto, wp_if_eq, wp_icmp_eq, wp_if_ne, wp_icmp_ne, wp_if_lt, wp_icmp_lt, wp_if_ge, wp_icmp_ge, wp_if_gt, wp_icmp_gt, wp_if_le, wp_icmp_le, wp_ifnull, wp_ifnonnull, wp_acmp_eq, wp_acmp_ne, wp_tableswitch, wp_get0, wp_put0, wp_get1, wp_put1, wp_get2, wp_put2, wp_get3, wp_put3, wp_new, wp_newarray, wp_anewarray, wp_alen, wp_iaload, wp_laload, wp_baload, wp_aaload, wp_iastore, wp_lastore, wp_bastore, wp_aastore, wp_return, wp_ireturnI, wp_ireturnZ, wp_lreturn, wp_areturnO, wp_areturnA, wp_max, wp_min, wp_obj, wp_virt, wp_nil, ld_I0, ld_Is, ld_J0, ld_Js, ld_A0, ld_As, ha_0, ha_s, cx_put1, cx_put2, cx_dl, cx_tgt, true_and, and_true, Nat.reduceAdd, Nat.reduceSub, Int.reduceAdd, Int.reduceNeg, Int.reduceToNat, Int.reduceSub, Int.cast_ofNat_Int, List.take_succ_cons, List.take_zero, List.drop_succ_cons, List.drop_zero, List.take_nil, List.drop_nil, Option.toList_some, Option.toList_none, List.cons_append, List.nil_append, wp_spec, ne_eq, Nat.reduceEqDiff, not_false_eq_true, true_or, or_true, s6, z6, ra_101, mm_sI, mm_sJ, mm_sA, mm_IJ, mm_IA, mm_JI, mm_JA, mm_AI, mm_AJ, mm_ssI, mm_ssJ, mm_ssA, mm_zI, mm_zJ, mm_zA, mm_nI, mm_nJ, mm_nA]
  refine ⟨fun i ei => ?_, fun ei => ?_⟩
  · refine bx_X10_firstPairs_37 hY (pf2_ok hY) ?_
    simp only [wp_iconst, wp_bipush, wp_sipush, wp_ldc, wp_ldc2_w, wp_lconst0, wp_lconst1, wp_aconst_null, wp_iload_0, wp_istore_0, wp_iload_1, wp_istore_1, wp_iload_2, wp_istore_2, wp_iload_3, wp_istore_3, wp_iload, wp_istore, wp_lload_0, wp_lstore_0, wp_lload_1, wp_lstore_1, wp_lload_2, wp_lstore_2, wp_lload_3, wp_lstore_3, wp_lload, wp_lstore, wp_aload_0, wp_astore_0, wp_aload_1, wp_astore_1, wp_aload_2, wp_astore_2, wp_aload_3, wp_astore_3, wp_aload, wp_astore, wp_iinc, wp_iadd, wp_isub, wp_imul, wp_iand, wp_ior, wp_ixor, wp_ishl, wp_ishr, wp_iushr, wp_irem, wp_ladd, wp_lsub, wp_lmul, wp_land, wp_lor, wp_lxor, wp_lshl, wp_lshr, wp_lushr, wp_lrem, wp_lcmp, wp_i2l, wp_l2i, wp_dupI, wp_dupA, wp_dup2J, wp_dup2IA, wp_popI, wp_popA, wp_pop2, wp_goto, wp_if_eq, wp_icmp_eq, wp_if_ne, wp_icmp_ne, wp_if_lt, wp_icmp_lt, wp_if_ge, wp_icmp_ge, wp_if_gt, wp_icmp_gt, wp_if_le, wp_icmp_le, wp_ifnull, wp_ifnonnull, wp_acmp_eq, wp_acmp_ne, wp_tableswitch, wp_get0, wp_put0, wp_get1, wp_put1, wp_get2, wp_put2, wp_get3, wp_put3, wp_new, wp_newarray, wp_anewarray, wp_alen, wp_iaload, wp_laload, wp_baload, wp_aaload, wp_iastore, wp_lastore, wp_bastore, wp_aastore, wp_return, wp_ireturnI, wp_ireturnZ, wp_lreturn, wp_areturnO, wp_areturnA, wp_max, wp_min, wp_obj, wp_virt, wp_nil, ld_I0, ld_Is, ld_J0, ld_Js, ld_A0, ld_As, ha_0, ha_s, cx_put1, cx_put2, cx_dl, cx_tgt, true_and, and_true, Nat.reduceAdd, Nat.reduceSub, Int.reduceAdd, Int.reduceNeg, Int.reduceToNat, Int.reduceSub, Int.cast_ofNat_Int, List.take_succ_cons, List.take_zero, List.drop_succ_cons, List.drop_zero, List.take_nil, List.drop_nil, Option.toList_some, Option.toList_none, List.cons_append, List.nil_append, wp_spec, ne_eq, Nat.reduceEqDiff, not_false_eq_true, true_or, or_true, s8, z8, ra_101, mm_sI, mm_sJ, mm_sA, mm_IJ, mm_IA, mm_JI, mm_JA, mm_AI, mm_AJ, mm_ssI, mm_ssJ, mm_ssA, mm_zI, mm_zJ, mm_zA, mm_nI, mm_nJ, mm_nA]
    (repeat' (with_reducible (first | refine And.intro ?_ ?_ | intro _)))
    all_goals (try omega)
    · exact isC_i (fun b q => k8.s (q0 b q) (by decide))
    · exact isC_i (fun b q => k8.s (q3 b q) (by decide))
    · exact isC_i (fun b q => k8.s (q2 b q) (by decide))
    · exact isC_i (fun b q => k8.s (q1 b q) (by decide))
    · exact isC_i (fun b q => k8.s (q2 b q) (by decide))
    · exact isC_i (fun b q => k8.s (q3 b q) (by decide))
    · exact isC_i (fun b q => k8.s (q2 b q) (by decide))
    · exact isC_i (fun b q => k8.s (q4 b q) (by decide))
    · obtain ⟨a1, b1, c1⟩ := st _ 0 o0 M8 k8 s8 f8 q0
      obtain ⟨a2, b2, c2⟩ := st _ 1 o3 a1 b1 s8 c1 q3
      obtain ⟨a3, b3, c3⟩ := st _ 2 o2 a2 b2 s8 c2 q2
      obtain ⟨a4, b4, c4⟩ := st _ 3 o1 a3 b3 s8 c3 q1
      obtain ⟨a5, b5, c5⟩ := st _ 4 o2 a4 b4 s8 c4 q2
      obtain ⟨a6, b6, c6⟩ := st _ 5 o3 a5 b5 s8 c5 q3
      obtain ⟨a7, b7, c7⟩ := st _ 6 o2 a6 b6 s8 c6 q2
      obtain ⟨a8, b8, c8⟩ := st _ 7 o4 a7 b7 s8 c7 q4
      refine j77 _ _ _ a8 b8 ⟨s8, ⟨?_, ?_⟩, ⟨?_, ?_⟩, ⟨?_, ?_⟩, Or.inr ⟨by rw [ei]; exact Option.some_ne_none _, z8, ?_, ?_⟩⟩ (fun d w => (nw_o (h := h) (s := 101) (z := 8) w).1) c8
      all_goals (simp only [mm_sI, mm_sJ, mm_sA, mm_IJ, mm_IA, mm_JI, mm_JA, mm_AI, mm_AJ, mm_ssI, mm_ssJ, mm_ssA, mm_zI, mm_zJ, mm_zA, mm_nI, mm_nJ, mm_nA, Nat.left_eq_add, Nat.add_eq_left, Nat.add_left_cancel_iff, Nat.reduceEqDiff, Int.reduceEq, false_and, and_false, if_false, if_true, and_self, true_and, true_or, or_true, false_or, or_false])
  · (repeat' (with_reducible (first | refine And.intro ?_ ?_ | intro _)))
    all_goals (try omega)
    · exact isC_i (fun b q => k6.s (q0 b q) (by decide))
    · exact isC_i (fun b q => k6.s (q3 b q) (by decide))
    · exact isC_i (fun b q => k6.s (q2 b q) (by decide))
    · exact isC_i (fun b q => k6.s (q1 b q) (by decide))
    · exact isC_i (fun b q => k6.s (q2 b q) (by decide))
    · exact isC_i (fun b q => k6.s (q3 b q) (by decide))
    · obtain ⟨a1, b1, c1⟩ := st _ 0 o0 M6 k6 s6 f6 q0
      obtain ⟨a2, b2, c2⟩ := st _ 1 o3 a1 b1 s6 c1 q3
      obtain ⟨a3, b3, c3⟩ := st _ 2 o2 a2 b2 s6 c2 q2
      obtain ⟨a4, b4, c4⟩ := st _ 3 o1 a3 b3 s6 c3 q1
      obtain ⟨a5, b5, c5⟩ := st _ 4 o2 a4 b4 s6 c4 q2
      obtain ⟨a6, b6, c6⟩ := st _ 5 o3 a5 b5 s6 c5 q3
      refine j77 _ _ _ a6 b6 ⟨s6, ⟨?_, ?_⟩, ⟨?_, ?_⟩, ⟨?_, ?_⟩, Or.inl ⟨ei, z6⟩⟩ (fun d w => (nw_o (h := h) (s := 101) (z := 6) w).1) c6
      all_goals (simp only [mm_sI, mm_sJ, mm_sA, mm_IJ, mm_IA, mm_JI, mm_JA, mm_AI, mm_AJ, mm_ssI, mm_ssJ, mm_ssA, mm_zI, mm_zJ, mm_zA, mm_nI, mm_nJ, mm_nA, Nat.left_eq_add, Nat.add_eq_left, Nat.add_left_cancel_iff, Nat.reduceEqDiff, Int.reduceEq, false_and, and_false, if_false, if_true, and_self, true_and, true_or, or_true, false_or, or_false])
theorem e_X10_openOf (hY : cY Y) {o : Option Nat} (ho : ∀ b, o = some b → cq_s h b = 6) {w : Int64} (hw : ∀ b, o = some b → cq_J h b 1 = w) (h0' : o = none → w = Int64.ofInt 0) (hK : K (some (.inr (.inl w))) h) : cw Y mi_X10_openOf K 0 [some (.inr (.inr o))] [] h 0 0 := by
  have j12 : ∀ u, u = w → cw Y mi_X10_openOf K 12 [some (.inr (.inr o))] [.inr (.inl u)] h 0 0 := by
    intro u q
    refine bx_X10_openOf_12 hY (pf2_ok hY) ?_
    simp only [wp_iconst, wp_bipush, wp_sipush, wp_ldc, wp_ldc2_w, wp_lconst0, wp_lconst1, wp_aconst_null, wp_iload_0, wp_istore_0, wp_iload_1, wp_istore_1, wp_iload_2, wp_istore_2, wp_iload_3, wp_istore_3, wp_iload, wp_istore, wp_lload_0, wp_lstore_0, wp_lload_1, wp_lstore_1, wp_lload_2, wp_lstore_2, wp_lload_3, wp_lstore_3, wp_lload, wp_lstore, wp_aload_0, wp_astore_0, wp_aload_1, wp_astore_1, wp_aload_2, wp_astore_2, wp_aload_3, wp_astore_3, wp_aload, wp_astore, wp_iinc, wp_iadd, wp_isub, wp_imul, wp_iand, wp_ior, wp_ixor, wp_ishl, wp_ishr, wp_iushr, wp_irem, wp_ladd, wp_lsub, wp_lmul, wp_land, wp_lor, wp_lxor, wp_lshl, wp_lshr, wp_lushr, wp_lrem, wp_lcmp, wp_i2l, wp_l2i, wp_dupI, wp_dupA, wp_dup2J, wp_dup2IA, wp_popI, wp_popA, wp_pop2, wp_goto, wp_if_eq, wp_icmp_eq, wp_if_ne, wp_icmp_ne, wp_if_lt, wp_icmp_lt, wp_if_ge, wp_icmp_ge, wp_if_gt, wp_icmp_gt, wp_if_le, wp_icmp_le, wp_ifnull, wp_ifnonnull, wp_acmp_eq, wp_acmp_ne, wp_tableswitch, wp_get0, wp_put0, wp_get1, wp_put1, wp_get2, wp_put2, wp_get3, wp_put3, wp_new, wp_newarray, wp_anewarray, wp_alen, wp_iaload, wp_laload, wp_baload, wp_aaload, wp_iastore, wp_lastore, wp_bastore, wp_aastore, wp_return, wp_ireturnI, wp_ireturnZ, wp_lreturn, wp_areturnO, wp_areturnA, wp_max, wp_min, wp_obj, wp_virt, wp_nil, ld_I0, ld_Is, ld_J0, ld_Js, ld_A0, ld_As, ha_0, ha_s, cx_put1, cx_put2, cx_dl, cx_tgt, true_and, and_true, Nat.reduceAdd, Nat.reduceSub, Int.reduceAdd, Int.reduceNeg, Int.reduceToNat, Int.reduceSub, Int.cast_ofNat_Int, List.take_succ_cons, List.take_zero, List.drop_succ_cons, List.drop_zero, List.take_nil, List.drop_nil, Option.toList_some, Option.toList_none, List.cons_append, List.nil_append, wp_spec, ne_eq, Nat.reduceEqDiff, not_false_eq_true, true_or, or_true]
    rw [q]
    exact hK
  cases o with
  | none =>
    refine bx_X10_openOf_0 hY (pf2_ok hY) ?_
    simp only [wp_iconst, wp_bipush, wp_sipush, wp_ldc, wp_ldc2_w, wp_lconst0, wp_lconst1, wp_aconst_null, wp_iload_0, wp_istore_0, wp_iload_1, wp_istore_1, wp_iload_2, wp_istore_2, wp_iload_3, wp_istore_3, wp_iload, wp_istore, wp_lload_0, wp_lstore_0, wp_lload_1, wp_lstore_1, wp_lload_2, wp_lstore_2, wp_lload_3, wp_lstore_3, wp_lload, wp_lstore, wp_aload_0, wp_astore_0, wp_aload_1, wp_astore_1, wp_aload_2, wp_astore_2, wp_aload_3, wp_astore_3, wp_aload, wp_astore, wp_iinc, wp_iadd, wp_isub, wp_imul, wp_iand, wp_ior, wp_ixor, wp_ishl, wp_ishr, wp_iushr, wp_irem, wp_ladd, wp_lsub, wp_lmul, wp_land, wp_lor, wp_lxor, wp_lshl, wp_lshr, wp_lushr, wp_lrem, wp_lcmp, wp_i2l, wp_l2i, wp_dupI, wp_dupA, wp_dup2J, wp_dup2IA, wp_popI, wp_popA, wp_pop2, wp_goto, wp_if_eq, wp_icmp_eq, wp_if_ne, wp_icmp_ne, wp_if_lt, wp_icmp_lt, wp_if_ge, wp_icmp_ge, wp_if_gt, wp_icmp_gt, wp_if_le, wp_icmp_le, wp_ifnull, wp_ifnonnull, wp_acmp_eq, wp_acmp_ne, wp_tableswitch, wp_get0, wp_put0, wp_get1, wp_put1, wp_get2, wp_put2, wp_get3, wp_put3, wp_new, wp_newarray, wp_anewarray, wp_alen, wp_iaload, wp_laload, wp_baload, wp_aaload, wp_iastore, wp_lastore, wp_bastore, wp_aastore, wp_return, wp_ireturnI, wp_ireturnZ, wp_lreturn, wp_areturnO, wp_areturnA, wp_max, wp_min, wp_obj, wp_virt, wp_nil, ld_I0, ld_Is, ld_J0, ld_Js, ld_A0, ld_As, ha_0, ha_s, cx_put1, cx_put2, cx_dl, cx_tgt, true_and, and_true, Nat.reduceAdd, Nat.reduceSub, Int.reduceAdd, Int.reduceNeg, Int.reduceToNat, Int.reduceSub, Int.cast_ofNat_Int, List.take_succ_cons, List.take_zero, List.drop_succ_cons, List.drop_zero, List.take_nil, List.drop_nil, Option.toList_some, Option.toList_none, List.cons_append, List.nil_append, wp_spec, ne_eq, Nat.reduceEqDiff, not_false_eq_true, true_or, or_true]
    exact ⟨fun i q => (nomatch q), fun _ => j12 _ (h0' rfl).symm⟩
  | some b =>
    have sb := ho b rfl
    refine bx_X10_openOf_0 hY (pf2_ok hY) ?_
    simp only [wp_iconst, wp_bipush, wp_sipush, wp_ldc, wp_ldc2_w, wp_lconst0, wp_lconst1, wp_aconst_null, wp_iload_0, wp_istore_0, wp_iload_1, wp_istore_1, wp_iload_2, wp_istore_2, wp_iload_3, wp_istore_3, wp_iload, wp_istore, wp_lload_0, wp_lstore_0, wp_lload_1, wp_lstore_1, wp_lload_2, wp_lstore_2, wp_lload_3, wp_lstore_3, wp_lload, wp_lstore, wp_aload_0, wp_astore_0, wp_aload_1, wp_astore_1, wp_aload_2, wp_astore_2, wp_aload_3, wp_astore_3, wp_aload, wp_astore, wp_iinc, wp_iadd, wp_isub, wp_imul, wp_iand, wp_ior, wp_ixor, wp_ishl, wp_ishr, wp_iushr, wp_irem, wp_ladd, wp_lsub, wp_lmul, wp_land, wp_lor, wp_lxor, wp_lshl, wp_lshr, wp_lushr, wp_lrem, wp_lcmp, wp_i2l, wp_l2i, wp_dupI, wp_dupA, wp_dup2J, wp_dup2IA, wp_popI, wp_popA, wp_pop2, wp_goto, wp_if_eq, wp_icmp_eq, wp_if_ne, wp_icmp_ne, wp_if_lt, wp_icmp_lt, wp_if_ge, wp_icmp_ge, wp_if_gt, wp_icmp_gt, wp_if_le, wp_icmp_le, wp_ifnull, wp_ifnonnull, wp_acmp_eq, wp_acmp_ne, wp_tableswitch, wp_get0, wp_put0, wp_get1, wp_put1, wp_get2, wp_put2, wp_get3, wp_put3, wp_new, wp_newarray, wp_anewarray, wp_alen, wp_iaload, wp_laload, wp_baload, wp_aaload, wp_iastore, wp_lastore, wp_bastore, wp_aastore, wp_return, wp_ireturnI, wp_ireturnZ, wp_lreturn, wp_areturnO, wp_areturnA, wp_max, wp_min, wp_obj, wp_virt, wp_nil, ld_I0, ld_Is, ld_J0, ld_Js, ld_A0, ld_As, ha_0, ha_s, cx_put1, cx_put2, cx_dl, cx_tgt, true_and, and_true, Nat.reduceAdd, Nat.reduceSub, Int.reduceAdd, Int.reduceNeg, Int.reduceToNat, Int.reduceSub, Int.cast_ofNat_Int, List.take_succ_cons, List.take_zero, List.drop_succ_cons, List.drop_zero, List.take_nil, List.drop_nil, Option.toList_some, Option.toList_none, List.cons_append, List.nil_append, wp_spec, ne_eq, Nat.reduceEqDiff, not_false_eq_true, true_or, or_true]
    refine ⟨fun i q => ?_, fun q => (nomatch q)⟩
    refine bx_X10_openOf_8 hY (pf2_ok hY) ?_
    simp only [wp_iconst, wp_bipush, wp_sipush, wp_ldc, wp_ldc2_w, wp_lconst0, wp_lconst1, wp_aconst_null, wp_iload_0, wp_istore_0, wp_iload_1, wp_istore_1, wp_iload_2, wp_istore_2, wp_iload_3, wp_istore_3, wp_iload, wp_istore, wp_lload_0, wp_lstore_0, wp_lload_1, wp_lstore_1, wp_lload_2, wp_lstore_2, wp_lload_3, wp_lstore_3, wp_lload, wp_lstore, wp_aload_0, wp_astore_0, wp_aload_1, wp_astore_1, wp_aload_2, wp_astore_2, wp_aload_3, wp_astore_3, wp_aload, wp_astore, wp_iinc, wp_iadd, wp_isub, wp_imul, wp_iand, wp_ior, wp_ixor, wp_ishl, wp_ishr, wp_iushr, wp_irem, wp_ladd, wp_lsub, wp_lmul, wp_land, wp_lor, wp_lxor, wp_lshl, wp_lshr, wp_lushr, wp_lrem, wp_lcmp, wp_i2l, wp_l2i, wp_dupI, wp_dupA, wp_dup2J, wp_dup2IA, wp_popI, wp_popA, wp_pop2, wp_goto, wp_if_eq, wp_icmp_eq, wp_if_ne, wp_icmp_ne, wp_if_lt, wp_icmp_lt, wp_if_ge, wp_icmp_ge, wp_if_gt, wp_icmp_gt, wp_if_le, wp_icmp_le, wp_ifnull, wp_ifnonnull, wp_acmp_eq, wp_acmp_ne, wp_tableswitch, wp_get0, wp_put0, wp_get1, wp_put1, wp_get2, wp_put2, wp_get3, wp_put3, wp_new, wp_newarray, wp_anewarray, wp_alen, wp_iaload, wp_laload, wp_baload, wp_aaload, wp_iastore, wp_lastore, wp_bastore, wp_aastore, wp_return, wp_ireturnI, wp_ireturnZ, wp_lreturn, wp_areturnO, wp_areturnA, wp_max, wp_min, wp_obj, wp_virt, wp_nil, ld_I0, ld_Is, ld_J0, ld_Js, ld_A0, ld_As, ha_0, ha_s, cx_put1, cx_put2, cx_dl, cx_tgt, true_and, and_true, Nat.reduceAdd, Nat.reduceSub, Int.reduceAdd, Int.reduceNeg, Int.reduceToNat, Int.reduceSub, Int.cast_ofNat_Int, List.take_succ_cons, List.take_zero, List.drop_succ_cons, List.drop_zero, List.take_nil, List.drop_nil, Option.toList_some, Option.toList_none, List.cons_append, List.nil_append, wp_spec, ne_eq, Nat.reduceEqDiff, not_false_eq_true, true_or, or_true, sb]
    exact j12 _ (hw b rfl)
/-- a SESSION that is just BEGUN: a its cell, r the pair's SECRET -/
def NS (a r : Nat) (ln z5 : Int) (R X ot eO : Int64) (m : cx_Q) : Prop := (cq_s m a = 7) ∧ (cq_s m (a + 1) = 1) ∧ (cq_A m a 19 = some (a + 1)) ∧ (cq_A m (a + 1) 0 = some (a + 2)) ∧ (cq_A m (a + 1) 1 = some (a + 3)) ∧ (cq_A m (a + 1) 2 = some (a + 4)) ∧ (cq_I m a 0 = 1) ∧ (cq_J m a 2 = eO) ∧ (cq_I m a 3 = ln) ∧ (cq_I m a 4 = z5) ∧ (cq_I m a 5 = 1) ∧ (cq_J m a 6 = f_key 1 R X) ∧ (cq_J m a 8 = f_key 2 R X) ∧ (cq_A m a 9 ≠ none) ∧ (cq_A m a 11 = none) ∧ (cq_J m a 10 = Int64.ofInt 0) ∧ (cq_A m a 12 = some r) ∧ (cq_J m a 13 = ot) ∧ (cq_I m a 15 = 1) ∧ (cq_I m a 16 = 0) ∧ (cq_I m a 17 = 0) ∧ (cq_I m a 18 = 0) ∧ (cq_I m (a + 1) 4 = 0) ∧ (cq_A m (a + 1) 3 = some (a + 5))
theorem NS.s0 {a r : Nat} {ln z5 : Int} {R X ot eO : Int64} {m : cx_Q} (F_ : NS a r ln z5 R X ot eO m) : cq_s m a = 7 := F_.1
theorem NS.s1 {a r : Nat} {ln z5 : Int} {R X ot eO : Int64} {m : cx_Q} (F_ : NS a r ln z5 R X ot eO m) : cq_s m (a + 1) = 1 := F_.2.1
theorem NS.a19 {a r : Nat} {ln z5 : Int} {R X ot eO : Int64} {m : cx_Q} (F_ : NS a r ln z5 R X ot eO m) : cq_A m a 19 = some (a + 1) := F_.2.2.1
theorem NS.k0 {a r : Nat} {ln z5 : Int} {R X ot eO : Int64} {m : cx_Q} (F_ : NS a r ln z5 R X ot eO m) : cq_A m (a + 1) 0 = some (a + 2) := F_.2.2.2.1
theorem NS.k1 {a r : Nat} {ln z5 : Int} {R X ot eO : Int64} {m : cx_Q} (F_ : NS a r ln z5 R X ot eO m) : cq_A m (a + 1) 1 = some (a + 3) := F_.2.2.2.2.1
theorem NS.k2 {a r : Nat} {ln z5 : Int} {R X ot eO : Int64} {m : cx_Q} (F_ : NS a r ln z5 R X ot eO m) : cq_A m (a + 1) 2 = some (a + 4) := F_.2.2.2.2.2.1
theorem NS.i0 {a r : Nat} {ln z5 : Int} {R X ot eO : Int64} {m : cx_Q} (F_ : NS a r ln z5 R X ot eO m) : cq_I m a 0 = 1 := F_.2.2.2.2.2.2.1
theorem NS.j2 {a r : Nat} {ln z5 : Int} {R X ot eO : Int64} {m : cx_Q} (F_ : NS a r ln z5 R X ot eO m) : cq_J m a 2 = eO := F_.2.2.2.2.2.2.2.1
theorem NS.i3 {a r : Nat} {ln z5 : Int} {R X ot eO : Int64} {m : cx_Q} (F_ : NS a r ln z5 R X ot eO m) : cq_I m a 3 = ln := F_.2.2.2.2.2.2.2.2.1
theorem NS.i4 {a r : Nat} {ln z5 : Int} {R X ot eO : Int64} {m : cx_Q} (F_ : NS a r ln z5 R X ot eO m) : cq_I m a 4 = z5 := F_.2.2.2.2.2.2.2.2.2.1
theorem NS.i5 {a r : Nat} {ln z5 : Int} {R X ot eO : Int64} {m : cx_Q} (F_ : NS a r ln z5 R X ot eO m) : cq_I m a 5 = 1 := F_.2.2.2.2.2.2.2.2.2.2.1
theorem NS.j6 {a r : Nat} {ln z5 : Int} {R X ot eO : Int64} {m : cx_Q} (F_ : NS a r ln z5 R X ot eO m) : cq_J m a 6 = f_key 1 R X := F_.2.2.2.2.2.2.2.2.2.2.2.1
theorem NS.j8 {a r : Nat} {ln z5 : Int} {R X ot eO : Int64} {m : cx_Q} (F_ : NS a r ln z5 R X ot eO m) : cq_J m a 8 = f_key 2 R X := F_.2.2.2.2.2.2.2.2.2.2.2.2.1
theorem NS.a9 {a r : Nat} {ln z5 : Int} {R X ot eO : Int64} {m : cx_Q} (F_ : NS a r ln z5 R X ot eO m) : cq_A m a 9 ≠ none := F_.2.2.2.2.2.2.2.2.2.2.2.2.2.1
theorem NS.a11 {a r : Nat} {ln z5 : Int} {R X ot eO : Int64} {m : cx_Q} (F_ : NS a r ln z5 R X ot eO m) : cq_A m a 11 = none := F_.2.2.2.2.2.2.2.2.2.2.2.2.2.2.1
theorem NS.j10 {a r : Nat} {ln z5 : Int} {R X ot eO : Int64} {m : cx_Q} (F_ : NS a r ln z5 R X ot eO m) : cq_J m a 10 = Int64.ofInt 0 := F_.2.2.2.2.2.2.2.2.2.2.2.2.2.2.2.1
theorem NS.a12 {a r : Nat} {ln z5 : Int} {R X ot eO : Int64} {m : cx_Q} (F_ : NS a r ln z5 R X ot eO m) : cq_A m a 12 = some r := F_.2.2.2.2.2.2.2.2.2.2.2.2.2.2.2.2.1
theorem NS.j13 {a r : Nat} {ln z5 : Int} {R X ot eO : Int64} {m : cx_Q} (F_ : NS a r ln z5 R X ot eO m) : cq_J m a 13 = ot := F_.2.2.2.2.2.2.2.2.2.2.2.2.2.2.2.2.2.1
theorem NS.i15 {a r : Nat} {ln z5 : Int} {R X ot eO : Int64} {m : cx_Q} (F_ : NS a r ln z5 R X ot eO m) : cq_I m a 15 = 1 := F_.2.2.2.2.2.2.2.2.2.2.2.2.2.2.2.2.2.2.1
theorem NS.i16 {a r : Nat} {ln z5 : Int} {R X ot eO : Int64} {m : cx_Q} (F_ : NS a r ln z5 R X ot eO m) : cq_I m a 16 = 0 := F_.2.2.2.2.2.2.2.2.2.2.2.2.2.2.2.2.2.2.2.1
theorem NS.i17 {a r : Nat} {ln z5 : Int} {R X ot eO : Int64} {m : cx_Q} (F_ : NS a r ln z5 R X ot eO m) : cq_I m a 17 = 0 := F_.2.2.2.2.2.2.2.2.2.2.2.2.2.2.2.2.2.2.2.2.1
theorem NS.i18 {a r : Nat} {ln z5 : Int} {R X ot eO : Int64} {m : cx_Q} (F_ : NS a r ln z5 R X ot eO m) : cq_I m a 18 = 0 := F_.2.2.2.2.2.2.2.2.2.2.2.2.2.2.2.2.2.2.2.2.2.1
theorem NS.i4' {a r : Nat} {ln z5 : Int} {R X ot eO : Int64} {m : cx_Q} (F_ : NS a r ln z5 R X ot eO m) : cq_I m (a + 1) 4 = 0 := F_.2.2.2.2.2.2.2.2.2.2.2.2.2.2.2.2.2.2.2.2.2.2.1
theorem NS.k3 {a r : Nat} {ln z5 : Int} {R X ot eO : Int64} {m : cx_Q} (F_ : NS a r ln z5 R X ot eO m) : cq_A m (a + 1) 3 = some (a + 5) := F_.2.2.2.2.2.2.2.2.2.2.2.2.2.2.2.2.2.2.2.2.2.2.2
theorem bs_x (hY : cY Y) {u v z5 : Int} {p q t r f ra rr : Nat} {x9 : Int64} {o6 o7 : Option Nat} (H : CI c n L Z E h0 [] h) (hv : 0 ≤ v ∧ v < n) (sp : cq_s h p = 4) (sq : cq_s h q = 4) (st : cq_s h t = 6) (sr : cq_s h r = 6) (sf : cq_s h f = 8) (ho7 : ∀ b, o7 = some b → cq_s h b = 6) (no : noP (fun z => z = 2) h r) (hb : cq_I h c 4 < 100) (er : cq_A h p 13 = some ra) (e2 : cq_A h ra v = some rr) (hK : ∀ m, CI c n L Z E h0 [] m → ev h m → NS h.1 r (cq_I h q 4) z5 x9 (f_common (cq_J h r 0) (cq_J h q 5)) (cq_J h q 5) (cq_J h t 1) m → (∃ qq, cq_A m h.1 7 = some qq ∧ cq_A m h.1 9 = some qq ∧ cq_A m h.1 14 = o7 ∧ tq h m f (some r) o7 qq ∧ cq_s h qq = 99) → ∀ h', CI c n L Z E h0 [] h' → h' = cq_sI (rwF m rr h.1) c 4 (cq_I h c 4 + 1) → K (some (.inl 1)) h') : cw Y mi_X10_beginSession K 164 [some (.inr (.inr (some c))), some (.inl u), some (.inl v), some (.inr (.inr (some p))), some (.inr (.inr (some q))), some (.inl z5), some (.inr (.inr o6)), some (.inr (.inr o7)), some (.inr (.inr (some t))), some (.inr (.inl x9)), none, some (.inr (.inr (some r))), none, none] [.inr (.inr (some f))] h 9 194 := by
  have hal := H.al h.1 (Nat.le_refl _)
  have hal1 := H.al (h.1 + 1) (by omega)
  have H2 : CI c n L Z E h0 (h.1 :: []) (cq_nw h 7 0) := H.nw (s := 7) True.intro (fun q => absurd q (by decide))
  have k2 : ev h (cq_nw h 7 0) := ev.refl.nw hal
  have s2 : cq_s (cq_nw h 7 0) h.1 = 7 := nw_n.1
  have hE7 : cq_s h0 h.1 = 7 → E h.1 ≠ none := fun q => by rw [H.ct.old hal] at q; exact absurd q (by decide)
  obtain ⟨_, _, nI, nJ, nA⟩ := nw_n (h := h) (s := 7) (z := 0)
  have nt : t ≠ h.1 := fun e => by have := H.lt st (by decide); omega
  have ot := nw_o (h := h) (s := 7) (z := 0) nt
  refine bx_X10_beginSession_164 hY (pf2_ok hY) ?_
  simp only [wp_iconst, wp_bipush, wp_sipush, wp_ldc, wp_ldc2_w, wp_lconst0, wp_lconst1, wp_aconst_null, wp_iload_0, wp_istore_0, wp_iload_1, wp_istore_1, wp_iload_2, wp_istore_2, wp_iload_3, wp_istore_3, wp_iload, wp_istore, wp_lload_0, wp_lstore_0, wp_lload_1, wp_lstore_1, wp_lload_2, wp_lstore_2, wp_lload_3, wp_lstore_3, wp_lload, wp_lstore, wp_aload_0, wp_astore_0, wp_aload_1, wp_astore_1, wp_aload_2, wp_astore_2, wp_aload_3, wp_astore_3, wp_aload, wp_astore, wp_iinc, wp_iadd, wp_isub, wp_imul, wp_iand, wp_ior, wp_ixor, wp_ishl, wp_ishr, wp_iushr, wp_irem, wp_ladd, wp_lsub, wp_lmul, wp_land, wp_lor, wp_lxor, wp_lshl, wp_lshr, wp_lushr, wp_lrem, wp_lcmp, wp_i2l, wp_l2i, wp_dupI, wp_dupA, wp_dup2J, wp_dup2IA, wp_popI, wp_popA, wp_pop2, wp_goto, wp_if_eq, wp_icmp_eq, wp_if_ne, wp_icmp_ne, wp_if_lt, wp_icmp_lt, wp_if_ge, wp_icmp_ge, wp_if_gt, wp_icmp_gt, wp_if_le, wp_icmp_le, wp_ifnull, wp_ifnonnull, wp_acmp_eq, wp_acmp_ne, wp_tableswitch, wp_get0, wp_put0, wp_get1, wp_put1, wp_get2, wp_put2, wp_get3, wp_put3, wp_new, wp_newarray, wp_anewarray, wp_alen, wp_iaload, wp_laload, wp_baload, wp_aaload, wp_iastore, wp_lastore, wp_bastore, wp_aastore, wp_return, wp_ireturnI, wp_ireturnZ, wp_lreturn, wp_areturnO, wp_areturnA, wp_max, wp_min, wp_obj, wp_virt, wp_nil, ld_I0, ld_Is, ld_J0, ld_Js, ld_A0, ld_As, ha_0, ha_s, cx_put1, cx_put2, cx_dl, cx_tgt, true_and, and_true, Nat.reduceAdd, Nat.reduceSub, Int.reduceAdd, Int.reduceNeg, Int.reduceToNat, Int.reduceSub, Int.cast_ofNat_Int, List.take_succ_cons, List.take_zero, List.drop_succ_cons, List.drop_zero, List.take_nil, List.drop_nil, Option.toList_some, Option.toList_none, List.cons_append, List.nil_append, wp_spec, ne_eq, Nat.reduceEqDiff, not_false_eq_true, true_or, or_true, wf_X3_mix, wf_X3_key, wf_X3_times, wf_X3_timesModuloQ, wf_X3_power, wf_X3_rest, wf_X3_secretOf, wf_X3_sealSum, wf_X3_sum, wf_X3_letterKey, wf_X3_nextOf, wf_X3_isOpen, wf_X3_veil, wf_X3_sealIsRight, cx_sz, cx_c2, cond_true, cond_false, Nat.reduceLeDiff, ot.1, ot.2.2.2.1, st]
  (repeat' (with_reducible (first | refine And.intro ?_ ?_ | intro _)))
  all_goals (try omega)
  refine cl_X8_init (Nat.le_of_ble_eq_true rfl) (by omega) (by omega) (e_X8_init hY H2 s2 hE7 (Or.inr rfl) (k2.s sr (by decide)) (k2.s sf (by decide)) (fun g1 G1 k1 w1 w2 w3 w4 w5 w6 n8 => ?_))
  have kn : (cq_nw h 7 0).1 = h.1 + 1 := rfl
  rw [kn] at k1 w1 w2 w3 w4 w5 w6
  have es : cq_s (seW (cq_nw h 7 0) h.1 (h.1 + 1) r f 1 x9 (cq_J h t 1)) = cq_s (cq_nw h 7 0) := Eq.trans rfl rfl
  have k21 : ev h g1 := by
    refine ev.trans ?_ k1
    unfold seW
    exact (((((((k2.fA hal).fI hal).fI hal).fJ hal).fJ hal).fJ hal).fA hal).fA hal
  have ss1 : cq_s g1 h.1 = 7 := k1.s (by rw [es]; exact s2) (by decide)
  have a1 : ∀ j, cq_I g1 h.1 j = if j = 5 then 1 else if j = 0 then 1 else 0 := fun j => by
    rw [k1.I (k0 := 7) (by rw [es]; exact s2) rfl]
    unfold seW
    simp only [mm_sI, mm_sJ, mm_sA, mm_IJ, mm_IA, mm_JI, mm_JA, mm_AI, mm_AJ, mm_ssI, mm_ssJ, mm_ssA, mm_zI, mm_zJ, mm_zA, mm_nI, mm_nJ, mm_nA, Nat.left_eq_add, Nat.add_eq_left, Nat.add_left_cancel_iff, Nat.reduceEqDiff, Int.reduceEq, false_and, and_false, if_false, if_true, and_self, true_and, true_or, or_true, false_or, or_false]
    rw [nI]
  have a2 : ∀ j, cq_J g1 h.1 j = if j = 2 then cq_J h t 1 else if j = 6 then x9 else if j = 1 then x9 else 0 := fun j => by
    rw [k1.J (k0 := 7) (by rw [es]; exact s2) (by decide)]
    unfold seW
    simp only [mm_sI, mm_sJ, mm_sA, mm_IJ, mm_IA, mm_JI, mm_JA, mm_AI, mm_AJ, mm_ssI, mm_ssJ, mm_ssA, mm_zI, mm_zJ, mm_zA, mm_nI, mm_nJ, mm_nA, Nat.left_eq_add, Nat.add_eq_left, Nat.add_left_cancel_iff, Nat.reduceEqDiff, Int.reduceEq, false_and, and_false, if_false, if_true, and_self, true_and, true_or, or_true, false_or, or_false]
    rw [nJ]
  have a3 : ∀ j, cq_A g1 h.1 j = if j = 7 then some f else if j = 12 then some r else if j = 19 then some (h.1 + 1) else none := fun j => by
    rw [k1.A (k0 := 7) (by rw [es]; exact s2) rfl]
    unfold seW
    simp only [mm_sI, mm_sJ, mm_sA, mm_IJ, mm_IA, mm_JI, mm_JA, mm_AI, mm_AJ, mm_ssI, mm_ssJ, mm_ssA, mm_zI, mm_zJ, mm_zA, mm_nI, mm_nJ, mm_nA, Nat.left_eq_add, Nat.add_eq_left, Nat.add_left_cancel_iff, Nat.reduceEqDiff, Int.reduceEq, false_and, and_false, if_false, if_true, and_self, true_and, true_or, or_true, false_or, or_false]
    rw [nA]
  have q1 : cq_s g1 q = 4 := k21.s sq (by decide)
  have iq : cq_I g1 q = cq_I h q := k21.I sq rfl
  have jq : cq_J g1 q = cq_J h q := k21.J sq (by decide)
  have jr : cq_J g1 r = cq_J h r := k21.J sr (by decide)
  have nq : ¬ q = h.1 := fun e => by have := H.lt sq (by decide); omega
  have nr : ¬ r = h.1 := fun e => by have := H.lt sr (by decide); omega
  have G2 := (G1.sI (a := h.1) (j := 3) (v := cq_I h q 4) ss1 (own_9 (by decide)) True.intro rfl).sI (a := h.1) (j := 4) (v := z5) ss1 (own_9 (by decide)) True.intro rfl
  refine bx_X10_beginSession_185 hY (pf2_ok hY) ?_
  simp only [wp_iconst, wp_bipush, wp_sipush, wp_ldc, wp_ldc2_w, wp_lconst0, wp_lconst1, wp_aconst_null, wp_iload_0, wp_istore_0, wp_iload_1, wp_istore_1, wp_iload_2, wp_istore_2, wp_iload_3, wp_istore_3, wp_iload, wp_istore, wp_lload_0, wp_lstore_0, wp_lload_1, wp_lstore_1, wp_lload_2, wp_lstore_2, wp_lload_3, wp_lstore_3, wp_lload, wp_lstore, wp_aload_0, wp_astore_0, wp_aload_1, wp_astore_1, wp_aload_2, wp_astore_2, wp_aload_3, wp_astore_3, wp_aload, wp_astore, wp_iinc, wp_iadd, wp_isub, wp_imul, wp_iand, wp_ior, wp_ixor, wp_ishl, wp_ishr, wp_iushr, wp_irem, wp_ladd, wp_lsub, wp_lmul, wp_land, wp_lor, wp_lxor, wp_lshl, wp_lshr, wp_lushr, wp_lrem, wp_lcmp, wp_i2l, wp_l2i, wp_dupI, wp_dupA, wp_dup2J, wp_dup2IA, wp_popI, wp_popA, wp_pop2, wp_goto, wp_if_eq, wp_icmp_eq, wp_if_ne, wp_icmp_ne, wp_if_lt, wp_icmp_lt, wp_if_ge, wp_icmp_ge, wp_if_gt, wp_icmp_gt, wp_if_le, wp_icmp_le, wp_ifnull, wp_ifnonnull, wp_acmp_eq, wp_acmp_ne, wp_tableswitch, wp_get0, wp_put0, wp_get1, wp_put1, wp_get2, wp_put2, wp_get3, wp_put3, wp_new, wp_newarray, wp_anewarray, wp_alen, wp_iaload, wp_laload, wp_baload, wp_aaload, wp_iastore, wp_lastore, wp_bastore, wp_aastore, wp_return, wp_ireturnI, wp_ireturnZ, wp_lreturn, wp_areturnO, wp_areturnA, wp_max, wp_min, wp_obj, wp_virt, wp_nil, ld_I0, ld_Is, ld_J0, ld_Js, ld_A0, ld_As, ha_0, ha_s, cx_put1, cx_put2, cx_dl, cx_tgt, true_and, and_true, Nat.reduceAdd, Nat.reduceSub, Int.reduceAdd, Int.reduceNeg, Int.reduceToNat, Int.reduceSub, Int.cast_ofNat_Int, List.take_succ_cons, List.take_zero, List.drop_succ_cons, List.drop_zero, List.take_nil, List.drop_nil, Option.toList_some, Option.toList_none, List.cons_append, List.nil_append, wp_spec, ne_eq, Nat.reduceEqDiff, not_false_eq_true, true_or, or_true, ss1, q1, nq, iq, jq, mm_sI, mm_sJ, mm_sA, mm_IJ, mm_IA, mm_JI, mm_JA, mm_AI, mm_AJ, mm_ssI, mm_ssJ, mm_ssA, mm_zI, mm_zJ, mm_zA, mm_nI, mm_nJ, mm_nA, Nat.left_eq_add, Nat.add_eq_left, Nat.add_left_cancel_iff, Nat.reduceEqDiff, Int.reduceEq, false_and, and_false, if_false, if_true, and_self, true_and, true_or, or_true, false_or, or_false]
  have k3 : ev h (cq_sI (cq_sI g1 h.1 3 (cq_I h q 4)) h.1 4 z5) := (k21.fI hal).fI hal
  refine cl_X8_meet (Nat.le_of_ble_eq_true rfl) ss1 (by omega) (by omega) (e_X8_meet hY G2 ss1 hE7 (fun b w => k3.s (ho7 b w) (by decide)) (fun g3 G3 e3 => ?_))
  have k4 : ev h g3 := by rw [e3]; exact ((k3.fJ hal).fA hal).fI hal
  have ss3 : cq_s g3 h.1 = 7 := by rw [e3]; exact ss1
  have sr3 : cq_s g3 r = 6 := k4.s sr (by decide)
  have b1 : ∀ j, cq_I g3 h.1 j = if j = 15 then 1 else if j = 4 then z5 else if j = 3 then cq_I h q 4 else cq_I g1 h.1 j := fun j => by
    rw [e3]
    simp only [mm_sI, mm_sJ, mm_sA, mm_IJ, mm_IA, mm_JI, mm_JA, mm_AI, mm_AJ, mm_ssI, mm_ssJ, mm_ssA, mm_zI, mm_zJ, mm_zA, mm_nI, mm_nJ, mm_nA, Nat.left_eq_add, Nat.add_eq_left, Nat.add_left_cancel_iff, Nat.reduceEqDiff, Int.reduceEq, false_and, and_false, if_false, if_true, and_self, true_and, true_or, or_true, false_or, or_false]
  have b2 : ∀ j, cq_J g3 h.1 j = if j = 13 then cq_J h q 5 else cq_J g1 h.1 j := fun j => by
    rw [e3]
    simp only [mm_sI, mm_sJ, mm_sA, mm_IJ, mm_IA, mm_JI, mm_JA, mm_AI, mm_AJ, mm_ssI, mm_ssJ, mm_ssA, mm_zI, mm_zJ, mm_zA, mm_nI, mm_nJ, mm_nA, Nat.left_eq_add, Nat.add_eq_left, Nat.add_left_cancel_iff, Nat.reduceEqDiff, Int.reduceEq, false_and, and_false, if_false, if_true, and_self, true_and, true_or, or_true, false_or, or_false]
  have b3 : ∀ j, cq_A g3 h.1 j = if j = 14 then o7 else cq_A g1 h.1 j := fun j => by
    rw [e3]
    simp only [mm_sI, mm_sJ, mm_sA, mm_IJ, mm_IA, mm_JI, mm_JA, mm_AI, mm_AJ, mm_ssI, mm_ssJ, mm_ssA, mm_zI, mm_zJ, mm_zA, mm_nI, mm_nJ, mm_nA, Nat.left_eq_add, Nat.add_eq_left, Nat.add_left_cancel_iff, Nat.reduceEqDiff, Int.reduceEq, false_and, and_false, if_false, if_true, and_self, true_and, true_or, or_true, false_or, or_false]
  have jr3 : cq_J g3 r = cq_J h r := k4.J sr (by decide)
  have c1 : cq_s g3 (h.1 + 1) = 1 := by rw [e3]; exact w1
  have n1 : ¬ h.1 + 1 = h.1 := by omega
  have c2 : cq_I g3 (h.1 + 1) 4 = 0 := by
    rw [e3]
    simp only [mm_sI, mm_sJ, mm_sA, mm_IJ, mm_IA, mm_JI, mm_JA, mm_AI, mm_AJ, mm_ssI, mm_ssJ, mm_ssA, mm_zI, mm_zJ, mm_zA, mm_nI, mm_nJ, mm_nA, n1, Nat.left_eq_add, Nat.add_eq_left, Nat.add_left_cancel_iff, Nat.reduceEqDiff, Int.reduceEq, false_and, and_false, if_false, if_true, and_self, true_and, true_or, or_true, false_or, or_false]
    exact w2
  have c3 : ∀ j, cq_A g3 (h.1 + 1) j = cq_A g1 (h.1 + 1) j := fun j => by
    rw [e3]
    simp only [mm_sI, mm_sJ, mm_sA, mm_IJ, mm_IA, mm_JI, mm_JA, mm_AI, mm_AJ, mm_ssI, mm_ssJ, mm_ssA, mm_zI, mm_zJ, mm_zA, mm_nI, mm_nJ, mm_nA, n1, Nat.left_eq_add, Nat.add_eq_left, Nat.add_left_cancel_iff, Nat.reduceEqDiff, Int.reduceEq, false_and, and_false, if_false, if_true, and_self, true_and, true_or, or_true, false_or, or_false]
  have gs13 : cq_s g3 = cq_s g1 := by rw [e3]; rfl
  clear e3 G2 k3
  have j63 : cq_J g3 h.1 6 = x9 := by rw [b2, if_neg (by decide), a2, if_neg (by decide), if_pos rfl]
  have j133 : cq_J g3 h.1 13 = cq_J h q 5 := by rw [b2, if_pos rfl]
  refine bx_X10_beginSession_216 hY (pf2_ok hY) ?_
  simp only [wp_iconst, wp_bipush, wp_sipush, wp_ldc, wp_ldc2_w, wp_lconst0, wp_lconst1, wp_aconst_null, wp_iload_0, wp_istore_0, wp_iload_1, wp_istore_1, wp_iload_2, wp_istore_2, wp_iload_3, wp_istore_3, wp_iload, wp_istore, wp_lload_0, wp_lstore_0, wp_lload_1, wp_lstore_1, wp_lload_2, wp_lstore_2, wp_lload_3, wp_lstore_3, wp_lload, wp_lstore, wp_aload_0, wp_astore_0, wp_aload_1, wp_astore_1, wp_aload_2, wp_astore_2, wp_aload_3, wp_astore_3, wp_aload, wp_astore, wp_iinc, wp_iadd, wp_isub, wp_imul, wp_iand, wp_ior, wp_ixor, wp_ishl, wp_ishr, wp_iushr, wp_irem, wp_ladd, wp_lsub, wp_lmul, wp_land, wp_lor, wp_lxor, wp_lshl, wp_lshr, wp_lushr, wp_lrem, wp_lcmp, wp_i2l, wp_l2i, wp_dupI, wp_dupA, wp_dup2J, wp_dup2IA, wp_popI, wp_popA, wp_pop2, wp_goto, wp_if_eq, wp_icmp_eq, wp_if_ne, wp_icmp_ne, wp_if_lt, wp_icmp_lt, wp_if_ge, wp_icmp_ge, wp_if_gt, wp_icmp_gt, wp_if_le, wp_icmp_le, wp_ifnull, wp_ifnonnull, wp_acmp_eq, wp_acmp_ne, wp_tableswitch, wp_get0, wp_put0, wp_get1, wp_put1, wp_get2, wp_put2, wp_get3, wp_put3, wp_new, wp_newarray, wp_anewarray, wp_alen, wp_iaload, wp_laload, wp_baload, wp_aaload, wp_iastore, wp_lastore, wp_bastore, wp_aastore, wp_return, wp_ireturnI, wp_ireturnZ, wp_lreturn, wp_areturnO, wp_areturnA, wp_max, wp_min, wp_obj, wp_virt, wp_nil, ld_I0, ld_Is, ld_J0, ld_Js, ld_A0, ld_As, ha_0, ha_s, cx_put1, cx_put2, cx_dl, cx_tgt, true_and, and_true, Nat.reduceAdd, Nat.reduceSub, Int.reduceAdd, Int.reduceNeg, Int.reduceToNat, Int.reduceSub, Int.cast_ofNat_Int, List.take_succ_cons, List.take_zero, List.drop_succ_cons, List.drop_zero, List.take_nil, List.drop_nil, Option.toList_some, Option.toList_none, List.cons_append, List.nil_append, wp_spec, ne_eq, Nat.reduceEqDiff, not_false_eq_true, true_or, or_true]
  refine cl_X8_turnSending (Nat.le_of_ble_eq_true rfl) ss3 (by omega) (by omega) (e_X8_turnSending hY G3 ss3 hE7 sr3 (fun g4 qq r4 er4_ G4 k5 t4 => ?_))
  have a14 : cq_A g3 h.1 14 = o7 := by rw [b3, if_pos rfl]
  have a7 : cq_A g3 h.1 7 = some f := by rw [b3, if_neg (by decide), a3, if_pos rfl]
  rw [a7] at er4_
  cases er4_
  rw [a14] at t4
  have no3 : noP (fun z => z = 2) g3 r := no.n8 H k4.et (fun d q => by
    have q1 : cq_s g1 d = 8 := by rw [← gs13]; exact q
    have q2 := n8 d q1
    by_cases e : d = h.1
    · rw [e, s2] at q2
      exact absurd q2 (by decide)
    · rw [(nw_o e).1] at q2
      exact q2)
  have w34 : et g3 g4 := (et.cts ss3).trans k5.et
  have qn3 : cq_s g3 qq = 99 := t4.new w34 (fun ro u1 u2 => G3.ta (j := 1) u1 (own_9 (by decide)) u2) no3
  have qn : cq_s h qq = 99 := by
    by_cases z : cq_s h qq = 99
    · exact z
    · have := (k4.et.1 qq z).1
      rw [qn3] at this
      exact this.symm
  have t4' : tq h g4 f (some r) o7 qq := t4.h (by rw [qn, qn3])
  rw [jr3, j63, j133] at k5
  have k6 : ev h g4 := by
    refine ev.trans ?_ k5
    unfold tsW
    exact ((((k4.fA hal).fJ hal).fJ hal).fA hal).fA hal
  have ss4 : cq_s g4 h.1 = 7 := k5.s (by rw [tsW_s]; exact ss3) (by decide)
  have p4 : cq_s g4 p = 4 := k6.s sp (by decide)
  have d1 : ∀ j, cq_I g4 h.1 j = cq_I g3 h.1 j := fun j => by
    rw [k5.I (k0 := 7) (by rw [tsW_s]; exact ss3) rfl]
    unfold tsW
    simp only [mm_sI, mm_sJ, mm_sA, mm_IJ, mm_IA, mm_JI, mm_JA, mm_AI, mm_AJ, mm_ssI, mm_ssJ, mm_ssA, mm_zI, mm_zJ, mm_zA, mm_nI, mm_nJ, mm_nA]
  have d2 : ∀ j, cq_J g4 h.1 j = if j = 6 then f_key 1 x9 (f_common (cq_J h r 0) (cq_J h q 5)) else if j = 8 then f_key 2 x9 (f_common (cq_J h r 0) (cq_J h q 5)) else cq_J g3 h.1 j := fun j => by
    rw [k5.J (k0 := 7) (by rw [tsW_s]; exact ss3) (by decide)]
    unfold tsW
    simp only [mm_sI, mm_sJ, mm_sA, mm_IJ, mm_IA, mm_JI, mm_JA, mm_AI, mm_AJ, mm_ssI, mm_ssJ, mm_ssA, mm_zI, mm_zJ, mm_zA, mm_nI, mm_nJ, mm_nA, Nat.left_eq_add, Nat.add_eq_left, Nat.add_left_cancel_iff, Nat.reduceEqDiff, Int.reduceEq, false_and, and_false, if_false, if_true, and_self, true_and, true_or, or_true, false_or, or_false]
  have d3 : ∀ j, cq_A g4 h.1 j = if j = 9 then some qq else if j = 7 then some qq else if j = 12 then some r else cq_A g3 h.1 j := fun j => by
    rw [k5.A (k0 := 7) (by rw [tsW_s]; exact ss3) rfl]
    unfold tsW
    simp only [mm_sI, mm_sJ, mm_sA, mm_IJ, mm_IA, mm_JI, mm_JA, mm_AI, mm_AJ, mm_ssI, mm_ssJ, mm_ssA, mm_zI, mm_zJ, mm_zA, mm_nI, mm_nJ, mm_nA, Nat.left_eq_add, Nat.add_eq_left, Nat.add_left_cancel_iff, Nat.reduceEqDiff, Int.reduceEq, false_and, and_false, if_false, if_true, and_self, true_and, true_or, or_true, false_or, or_false]
  have d4 : cq_s g4 (h.1 + 1) = 1 := k5.s (by rw [tsW_s]; exact c1) (by decide)
  have d5 : cq_I g4 (h.1 + 1) = cq_I g3 (h.1 + 1) := by
    rw [k5.I (k0 := 1) (by rw [tsW_s]; exact c1) rfl]
    rfl
  have d6 : ∀ j, cq_A g4 (h.1 + 1) j = cq_A g1 (h.1 + 1) j := fun j => by
    rw [k5.A (k0 := 1) (by rw [tsW_s]; exact c1) rfl]
    unfold tsW
    simp only [mm_sI, mm_sJ, mm_sA, mm_IJ, mm_IA, mm_JI, mm_JA, mm_AI, mm_AJ, mm_ssI, mm_ssJ, mm_ssA, mm_zI, mm_zJ, mm_zA, mm_nI, mm_nJ, mm_nA, n1, Nat.left_eq_add, Nat.add_eq_left, Nat.add_left_cancel_iff, Nat.reduceEqDiff, Int.reduceEq, false_and, and_false, if_false, if_true, and_self, true_and, true_or, or_true, false_or, or_false]
    exact c3 j
  have ns' : NS h.1 r (cq_I h q 4) z5 x9 (f_common (cq_J h r 0) (cq_J h q 5)) (cq_J h q 5) (cq_J h t 1) g4 := by
    refine ⟨ss4, d4, ?_, ?_, ?_, ?_, ?_, ?_, ?_, ?_, ?_, ?_, ?_, ?_, ?_, ?_, ?_, ?_, ?_, ?_, ?_, ?_, ?_, ?_⟩
    · rw [d3, if_neg (by decide), if_neg (by decide), if_neg (by decide), b3, if_neg (by decide), a3, if_neg (by decide), if_neg (by decide), if_pos rfl]
    · rw [d6]; exact w3
    · rw [d6]; exact w4
    · rw [d6]; exact w5
    · rw [d1, b1, if_neg (by decide), if_neg (by decide), if_neg (by decide), a1, if_neg (by decide), if_pos rfl]
    · rw [d2, if_neg (by decide), if_neg (by decide), b2, if_neg (by decide), a2, if_pos rfl]
    · rw [d1, b1, if_neg (by decide), if_neg (by decide), if_pos rfl]
    · rw [d1, b1, if_neg (by decide), if_pos rfl]
    · rw [d1, b1, if_neg (by decide), if_neg (by decide), if_neg (by decide), a1, if_pos rfl]
    · rw [d2, if_pos rfl]
    · rw [d2, if_neg (by decide), if_pos rfl]
    · rw [d3, if_pos rfl]; exact Option.some_ne_none _
    · rw [d3, if_neg (by decide), if_neg (by decide), if_neg (by decide), b3, if_neg (by decide), a3, if_neg (by decide), if_neg (by decide), if_neg (by decide)]
    · rw [d2, if_neg (by decide), if_neg (by decide), b2, if_neg (by decide), a2, if_neg (by decide), if_neg (by decide), if_neg (by decide)]; rfl
    · rw [d3, if_neg (by decide), if_neg (by decide), if_pos rfl]
    · rw [d2, if_neg (by decide), if_neg (by decide), b2, if_pos rfl]
    · rw [d1, b1, if_pos rfl]
    · rw [d1, b1, if_neg (by decide), if_neg (by decide), if_neg (by decide), a1, if_neg (by decide), if_neg (by decide)]
    · rw [d1, b1, if_neg (by decide), if_neg (by decide), if_neg (by decide), a1, if_neg (by decide), if_neg (by decide)]
    · rw [d1, b1, if_neg (by decide), if_neg (by decide), if_neg (by decide), a1, if_neg (by decide), if_neg (by decide)]
    · rw [d5]; exact c2
    · rw [d6]; exact w6
  have sra : cq_s h ra = 181 := H.ta sp (own_9 (by decide)) er
  have s5 : cq_s h rr = 5 := H.ta sra (own_h (by decide)) e2
  have er4 : cq_A g4 p 13 = some ra := by rw [k6.A sp rfl]; exact er
  have sra4 : cq_s g4 ra = 181 := k6.s sra (by decide)
  have zra4 : cq_z g4 ra = n := G4.tz sra4
  have e24 : cq_A g4 ra v = some rr := by rw [k6.A sra rfl]; exact e2
  have s54 : cq_s g4 rr = 5 := k6.s s5 (by decide)
  refine bx_X10_beginSession_223 hY (pf2_ok hY) ?_
  simp only [wp_iconst, wp_bipush, wp_sipush, wp_ldc, wp_ldc2_w, wp_lconst0, wp_lconst1, wp_aconst_null, wp_iload_0, wp_istore_0, wp_iload_1, wp_istore_1, wp_iload_2, wp_istore_2, wp_iload_3, wp_istore_3, wp_iload, wp_istore, wp_lload_0, wp_lstore_0, wp_lload_1, wp_lstore_1, wp_lload_2, wp_lstore_2, wp_lload_3, wp_lstore_3, wp_lload, wp_lstore, wp_aload_0, wp_astore_0, wp_aload_1, wp_astore_1, wp_aload_2, wp_astore_2, wp_aload_3, wp_astore_3, wp_aload, wp_astore, wp_iinc, wp_iadd, wp_isub, wp_imul, wp_iand, wp_ior, wp_ixor, wp_ishl, wp_ishr, wp_iushr, wp_irem, wp_ladd, wp_lsub, wp_lmul, wp_land, wp_lor, wp_lxor, wp_lshl, wp_lshr, wp_lushr, wp_lrem, wp_lcmp, wp_i2l, wp_l2i, wp_dupI, wp_dupA, wp_dup2J, wp_dup2IA, wp_popI, wp_popA, wp_pop2, wp_goto, wp_if_eq, wp_icmp_eq, wp_if_ne, wp_icmp_ne, wp_if_lt, wp_icmp_lt, wp_if_ge, wp_icmp_ge, wp_if_gt, wp_icmp_gt, wp_if_le, wp_icmp_le, wp_ifnull, wp_ifnonnull, wp_acmp_eq, wp_acmp_ne, wp_tableswitch, wp_get0, wp_put0, wp_get1, wp_put1, wp_get2, wp_put2, wp_get3, wp_put3, wp_new, wp_newarray, wp_anewarray, wp_alen, wp_iaload, wp_laload, wp_baload, wp_aaload, wp_iastore, wp_lastore, wp_bastore, wp_aastore, wp_return, wp_ireturnI, wp_ireturnZ, wp_lreturn, wp_areturnO, wp_areturnA, wp_max, wp_min, wp_obj, wp_virt, wp_nil, ld_I0, ld_Is, ld_J0, ld_Js, ld_A0, ld_As, ha_0, ha_s, cx_put1, cx_put2, cx_dl, cx_tgt, true_and, and_true, Nat.reduceAdd, Nat.reduceSub, Int.reduceAdd, Int.reduceNeg, Int.reduceToNat, Int.reduceSub, Int.cast_ofNat_Int, List.take_succ_cons, List.take_zero, List.drop_succ_cons, List.drop_zero, List.take_nil, List.drop_nil, Option.toList_some, Option.toList_none, List.cons_append, List.nil_append, wp_spec, ne_eq, Nat.reduceEqDiff, not_false_eq_true, true_or, or_true, p4, er4, sra4, zra4, e24, ra_181]
  refine ⟨by omega, ?_⟩
  refine cl_X6_putFirst (Nat.le_of_ble_eq_true rfl) s54 (by omega) (by omega) (e_X6_putFirst hY G4 List.not_mem_nil s54 ss4 ns'.a9 (fun g5 G5 e5 => ?_))
  have gc := G5.cs
  have hc := H.cs
  have ncr : ¬ c = rr := ns hc s5 (by decide)
  have i4 : cq_I g5 c 4 = cq_I h c 4 := by
    rw [e5]
    unfold rwF
    simp only [rr_IA, mm_sI, mm_sJ, mm_sA, mm_IJ, mm_IA, mm_JI, mm_JA, mm_AI, mm_AJ, mm_ssI, mm_ssJ, mm_ssA, mm_zI, mm_zJ, mm_zA, mm_nI, mm_nJ, mm_nA, ncr, Nat.left_eq_add, Nat.add_eq_left, Nat.add_left_cancel_iff, Nat.reduceEqDiff, Int.reduceEq, false_and, and_false, if_false, if_true, and_self, true_and, true_or, or_true, false_or, or_false]
    rw [k6.I hc rfl]
  have i4b := G5.i9_4 gc
  refine bx_X10_beginSession_234 hY (pf2_ok hY) ?_
  simp only [wp_iconst, wp_bipush, wp_sipush, wp_ldc, wp_ldc2_w, wp_lconst0, wp_lconst1, wp_aconst_null, wp_iload_0, wp_istore_0, wp_iload_1, wp_istore_1, wp_iload_2, wp_istore_2, wp_iload_3, wp_istore_3, wp_iload, wp_istore, wp_lload_0, wp_lstore_0, wp_lload_1, wp_lstore_1, wp_lload_2, wp_lstore_2, wp_lload_3, wp_lstore_3, wp_lload, wp_lstore, wp_aload_0, wp_astore_0, wp_aload_1, wp_astore_1, wp_aload_2, wp_astore_2, wp_aload_3, wp_astore_3, wp_aload, wp_astore, wp_iinc, wp_iadd, wp_isub, wp_imul, wp_iand, wp_ior, wp_ixor, wp_ishl, wp_ishr, wp_iushr, wp_irem, wp_ladd, wp_lsub, wp_lmul, wp_land, wp_lor, wp_lxor, wp_lshl, wp_lshr, wp_lushr, wp_lrem, wp_lcmp, wp_i2l, wp_l2i, wp_dupI, wp_dupA, wp_dup2J, wp_dup2IA, wp_popI, wp_popA, wp_pop2, wp_goto, wp_if_eq, wp_icmp_eq, wp_if_ne, wp_icmp_ne, wp_if_lt, wp_icmp_lt, wp_if_ge, wp_icmp_ge, wp_if_gt, wp_icmp_gt, wp_if_le, wp_icmp_le, wp_ifnull, wp_ifnonnull, wp_acmp_eq, wp_acmp_ne, wp_tableswitch, wp_get0, wp_put0, wp_get1, wp_put1, wp_get2, wp_put2, wp_get3, wp_put3, wp_new, wp_newarray, wp_anewarray, wp_alen, wp_iaload, wp_laload, wp_baload, wp_aaload, wp_iastore, wp_lastore, wp_bastore, wp_aastore, wp_return, wp_ireturnI, wp_ireturnZ, wp_lreturn, wp_areturnO, wp_areturnA, wp_max, wp_min, wp_obj, wp_virt, wp_nil, ld_I0, ld_Is, ld_J0, ld_Js, ld_A0, ld_As, ha_0, ha_s, cx_put1, cx_put2, cx_dl, cx_tgt, true_and, and_true, Nat.reduceAdd, Nat.reduceSub, Int.reduceAdd, Int.reduceNeg, Int.reduceToNat, Int.reduceSub, Int.cast_ofNat_Int, List.take_succ_cons, List.take_zero, List.drop_succ_cons, List.drop_zero, List.take_nil, List.drop_nil, Option.toList_some, Option.toList_none, List.cons_append, List.nil_append, wp_spec, ne_eq, Nat.reduceEqDiff, not_false_eq_true, true_or, or_true, gc, cx_rg, i4]
  refine ⟨by omega, ?_⟩
  exact hK g4 G4 k6 ns' ⟨qq, by rw [d3, if_neg (by decide), if_pos rfl], by rw [d3, if_pos rfl], by rw [d3, if_neg (by decide), if_neg (by decide), if_neg (by decide)]; exact a14, t4', qn⟩ _ (G5.sI gc (own_9 (by decide)) ⟨by omega, by omega⟩ rfl) (by rw [e5])
end
