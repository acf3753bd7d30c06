/-! the class, exactly: a letter is taken apart, from its first byte on -/
def hdF (f : Int → Int) : Int := if f 0 = 1 then 23 else 3
def apK (f : Int → Int) (z : Int) : Prop := (f 0 = 1 ∨ f 0 = 2) ∧ apR f (hdF f) z
def apW (a b : Nat) (h g' : cx_Q) (f : Int → Int) : Prop := cq_A g' a 0 = some b ∧ cq_I g' a 2 = (if f 0 = 1 then 1 else 0) ∧ cq_I g' a 3 = f 1 ∧ cq_I g' a 4 = f 2 ∧ (f 0 = 1 → cq_J g' a 5 = bF f 3 8 ∧ cq_J g' a 6 = bF f 11 8 ∧ cq_I g' a 7 = 256 * f 19 + f 20 ∧ cq_I g' a 8 = 256 * f 21 + f 22) ∧ apV9 a b h g' f (hdF f)
section
variable {Y : cx_Y} {K : Option cx_V → cx_Q → Prop} {c : Nat} {n L Z : Int} {E : Nat → Option Int} {h0 : cx_Q} {X : List Nat} {h : cx_Q}
theorem e_X0_takeApart (hY : cY Y) {a b : Nat} {f : Int → Int} (H : CI c n L Z E h0 [] h) (hs : cq_s h a = 0) (hb : cq_s h b = 100) (hf : bfP h b f) (h0' : ∀ g', CI c n L Z E h0 [] g' → apX a h g' → ¬ apK f (cq_z h b) → K (some (.inl 0)) g') (h1 : ∀ g', CI c n L Z E h0 [] g' → apX a h g' → apK f (cq_z h b) → apW a b h g' f → K (some (.inl 1)) g') : cw Y mi_X0_takeApart K 0 [some (.inr (.inr (some a))), some (.inr (.inr (some b))), none] [] h 0 0 := by
  have nba : ¬ b = a := ns hb hs (by decide)
  have bfr : ∀ k, 0 ≤ k → 0 ≤ f k ∧ f k ≤ 255 := by
    intro k hk
    rw [hf k hk]
    split
    · exact H.i100 hb
    · omega
  have bI : ∀ {g' : cx_Q}, apX a h g' → bfP g' b f := by
    intro g' p k hk
    rw [hf k hk, p.2.2.1, (p.2.2.2 b nba).1]
  have G0 := (H.sA (a := a) (j := 0) (v := some b) hs (own_9 (by decide)) (fun d q => by cases q; exact hb) (fun q => (nomatch q)) rfl).sI (a := a) (j := 1) (v := 0) hs (own_9 (by decide)) ⟨by omega, by omega⟩ rfl
  have x0 : apX a h (cq_sI (cq_sA h a 0 (some b)) a 1 0) := apX.refl.sA.sI
  have i0 : cq_I (cq_sI (cq_sA h a 0 (some b)) a 1 0) a 1 = 0 := by simp only [mm_sI, mm_sJ, mm_sA, mm_IJ, mm_IA, mm_JI, mm_JA, mm_AI, mm_AJ, mm_ssI, mm_ssJ, mm_ssA, mm_zI, mm_zJ, mm_zA, mm_nI, mm_nJ, mm_nA, Nat.left_eq_add, Nat.add_eq_left, Nat.add_left_cancel_iff, Nat.reduceEqDiff, Int.reduceEq, false_and, and_false, if_false, if_true, and_self, true_and, true_or, or_true, false_or, or_false]
  have A0 : cq_A (cq_sI (cq_sA h a 0 (some b)) a 1 0) a 0 = some b := by simp only [mm_sI, mm_sJ, mm_sA, mm_IJ, mm_IA, mm_JI, mm_JA, mm_AI, mm_AJ, mm_ssI, mm_ssJ, mm_ssA, mm_zI, mm_zJ, mm_zA, mm_nI, mm_nJ, mm_nA, Nat.left_eq_add, Nat.add_eq_left, Nat.add_left_cancel_iff, Nat.reduceEqDiff, Int.reduceEq, false_and, and_false, if_false, if_true, and_self, true_and, true_or, or_true, false_or, or_false]
  refine bx_X0_takeApart_0 hY (pf2_ok hY) ?_
  simp only [wp_iconst, wp_bipush, wp_sipush, wp_ldc, wp_ldc2_w, wp_lconst0, wp_lconst1, wp_aconst_null, wp_iload_0, wp_istore_0, wp_iload_1, wp_istore_1, wp_iload_2, wp_istore_2, wp_iload_3, wp_istore_3, wp_iload, wp_istore, wp_lload_0, wp_lstore_0, wp_lload_1, wp_lstore_1, wp_lload_2, wp_lstore_2, wp_lload_3, wp_lstore_3, wp_lload, wp_lstore, wp_aload_0, wp_astore_0, wp_aload_1, wp_astore_1, wp_aload_2, wp_astore_2, wp_aload_3, wp_astore_3, wp_aload, wp_astore, wp_iinc, wp_iadd, wp_isub, wp_imul, wp_iand, wp_ior, wp_ixor, wp_ishl, wp_ishr, wp_iushr, wp_irem, wp_ladd, wp_lsub, wp_lmul, wp_land, wp_lor, wp_lxor, wp_lshl, wp_lshr, wp_lushr, wp_lrem, wp_lcmp, wp_i2l, wp_l2i, wp_dupI, wp_dupA, wp_dup2J, wp_dup2IA, wp_popI, wp_popA, wp_pop2, wp_goto, wp_if_eq, wp_icmp_eq, wp_if_ne, wp_icmp_ne, wp_if_lt, wp_icmp_lt, wp_if_ge, wp_icmp_ge, wp_if_gt, wp_icmp_gt, wp_if_le, wp_icmp_le, wp_ifnull, wp_ifnonnull, wp_acmp_eq, wp_acmp_ne, wp_tableswitch, wp_get0, wp_put0, wp_get1, wp_put1, wp_get2, wp_put2, wp_get3, wp_put3, wp_new, wp_newarray, wp_anewarray, wp_alen, wp_iaload, wp_laload, wp_baload, wp_aaload, wp_iastore, wp_lastore, wp_bastore, wp_aastore, wp_return, wp_ireturnI, wp_ireturnZ, wp_lreturn, wp_areturnO, wp_areturnA, wp_max, wp_min, wp_obj, wp_virt, wp_nil, ld_I0, ld_Is, ld_J0, ld_Js, ld_A0, ld_As, ha_0, ha_s, cx_put1, cx_put2, cx_dl, cx_tgt, true_and, and_true, Nat.reduceAdd, Nat.reduceSub, Int.reduceAdd, Int.reduceNeg, Int.reduceToNat, Int.reduceSub, Int.cast_ofNat_Int, List.take_succ_cons, List.take_zero, List.drop_succ_cons, List.drop_zero, List.take_nil, List.drop_nil, Option.toList_some, Option.toList_none, List.cons_append, List.nil_append, wp_spec, ne_eq, Nat.reduceEqDiff, not_false_eq_true, true_or, or_true, hs, mm_sI, mm_sJ, mm_sA, mm_IJ, mm_IA, mm_JI, mm_JA, mm_AI, mm_AJ, mm_ssI, mm_ssJ, mm_ssA, mm_zI, mm_zJ, mm_zA, mm_nI, mm_nJ, mm_nA]
  generalize cq_sI (cq_sA h a 0 (some b)) a 1 0 = g0 at G0 x0 i0 A0
  have s0 : cq_s g0 a = 0 := by rw [x0.2.1]; exact hs
  have S0 : apS a g0 g0 0 (cq_I g0 a) (cq_J g0 a) := ⟨s0, rfl, apX.refl, i0, fun _ _ => rfl, fun _ => rfl⟩
  refine cl_X0_take (Nat.le_of_ble_eq_true rfl) s0 (Nat.le_refl _) (Nat.le_refl _) (e_X0_take hY G0 s0 A0 (bI x0) i0 (by omega) (by omega) (fun g1 G1 e1 => ?_))
  have e1 : g1 = cq_sI g0 a 1 1 := e1
  have v1 := bF_1 (bfr 0 (by omega))
  have s1 : cq_s g1 a = 0 := by rw [e1]; exact s0
  -- what stays of it behind the whole
  have out0 : ∀ {M g' : cx_Q} {p : Int} {FI : Int → Int} {FJ : Int → Int64}, apS a g0 M p FI FJ → apX a M g' → apX a h g' := fun S p => (x0.trans S.2.2.1).trans p
  have outW : ∀ {M g' : cx_Q} {p hd : Int} {FI : Int → Int} {FJ : Int → Int64}, apS a g0 M p FI FJ → hd = hdF f → apX a M g' → apO a M g' → apV9 a b M g' f hd → FI 2 = (if f 0 = 1 then 1 else 0) → FI 3 = f 1 → FI 4 = f 2 → (f 0 = 1 → FJ 5 = bF f 3 8 ∧ FJ 6 = bF f 11 8 ∧ FI 7 = 256 * f 19 + f 20 ∧ FI 8 = 256 * f 21 + f 22) → apW a b h g' f := by
    intro M g' p hd FI FJ S eh X1 O V w2 w3 w4 w5
    have eI : cq_I M b = cq_I h b := (((x0.trans S.2.2.1)).2.2.2 b nba).1
    refine ⟨by rw [O.1, S.2.1]; exact A0, ?_, ?_, ?_, fun q => ⟨?_, ?_, ?_, ?_⟩, ?_⟩
    · rw [O.2.1 2 (by decide) (by decide), S.2.2.2.2.1 2 (by decide), w2]
    · rw [O.2.1 3 (by decide) (by decide), S.2.2.2.2.1 3 (by decide), w3]
    · rw [O.2.1 4 (by decide) (by decide), S.2.2.2.2.1 4 (by decide), w4]
    · rw [O.2.2 5 (by decide), S.2.2.2.2.2 5, (w5 q).1]
    · rw [O.2.2 6 (by decide), S.2.2.2.2.2 6, (w5 q).2.1]
    · rw [O.2.1 7 (by decide) (by decide), S.2.2.2.2.1 7 (by decide), (w5 q).2.2.1]
    · rw [O.2.1 8 (by decide) (by decide), S.2.2.2.2.1 8 (by decide), (w5 q).2.2.2]
    · unfold apV9 at V ⊢
      rw [eI] at V
      rw [← eh]
      exact V
  have j45 : ∀ (w v : Int), (v = if f 0 = 1 then 1 else 0) → (f 0 = 1 ∨ f 0 = 2) → cw Y mi_X0_takeApart K 45 [some (.inr (.inr (some a))), some (.inr (.inr (some b))), some (.inl w)] [] (cq_sI g1 a 2 v) 0 0 := by
    intro w v hv ok
    have S1 := S0.tI (q := 1) (j := 2) (v := v) (by decide)
    have G1' := G1.sI (a := a) (j := 2) (v := v) s1 (own_9 (by decide)) True.intro rfl
    rw [← e1] at S1
    generalize cq_sI g1 a 2 v = M1 at S1 G1' ⊢
    have q1 := S1.1
    refine bx_X0_takeApart_45 hY (pf2_ok hY) ?_
    simp only [wp_iconst, wp_bipush, wp_sipush, wp_ldc, wp_ldc2_w, wp_lconst0, wp_lconst1, wp_aconst_null, wp_iload_0, wp_istore_0, wp_iload_1, wp_istore_1, wp_iload_2, wp_istore_2, wp_iload_3, wp_istore_3, wp_iload, wp_istore, wp_lload_0, wp_lstore_0, wp_lload_1, wp_lstore_1, wp_lload_2, wp_lstore_2, wp_lload_3, wp_lstore_3, wp_lload, wp_lstore, wp_aload_0, wp_astore_0, wp_aload_1, wp_astore_1, wp_aload_2, wp_astore_2, wp_aload_3, wp_astore_3, wp_aload, wp_astore, wp_iinc, wp_iadd, wp_isub, wp_imul, wp_iand, wp_ior, wp_ixor, wp_ishl, wp_ishr, wp_iushr, wp_irem, wp_ladd, wp_lsub, wp_lmul, wp_land, wp_lor, wp_lxor, wp_lshl, wp_lshr, wp_lushr, wp_lrem, wp_lcmp, wp_i2l, wp_l2i, wp_dupI, wp_dupA, wp_dup2J, wp_dup2IA, wp_popI, wp_popA, wp_pop2, wp_goto, wp_if_eq, wp_icmp_eq, wp_if_ne, wp_icmp_ne, wp_if_lt, wp_icmp_lt, wp_if_ge, wp_icmp_ge, wp_if_gt, wp_icmp_gt, wp_if_le, wp_icmp_le, wp_ifnull, wp_ifnonnull, wp_acmp_eq, wp_acmp_ne, wp_tableswitch, wp_get0, wp_put0, wp_get1, wp_put1, wp_get2, wp_put2, wp_get3, wp_put3, wp_new, wp_newarray, wp_anewarray, wp_alen, wp_iaload, wp_laload, wp_baload, wp_aaload, wp_iastore, wp_lastore, wp_bastore, wp_aastore, wp_return, wp_ireturnI, wp_ireturnZ, wp_lreturn, wp_areturnO, wp_areturnA, wp_max, wp_min, wp_obj, wp_virt, wp_nil, ld_I0, ld_Is, ld_J0, ld_Js, ld_A0, ld_As, ha_0, ha_s, cx_put1, cx_put2, cx_dl, cx_tgt, true_and, and_true, Nat.reduceAdd, Nat.reduceSub, Int.reduceAdd, Int.reduceNeg, Int.reduceToNat, Int.reduceSub, Int.cast_ofNat_Int, List.take_succ_cons, List.take_zero, List.drop_succ_cons, List.drop_zero, List.take_nil, List.drop_nil, Option.toList_some, Option.toList_none, List.cons_append, List.nil_append, wp_spec, ne_eq, Nat.reduceEqDiff, not_false_eq_true, true_or, or_true]
    refine cl_X0_take (Nat.le_of_ble_eq_true rfl) q1 (Nat.le_refl _) (Nat.le_refl _) (e_X0_take hY G1' q1 (by rw [S1.2.1]; exact A0) (bI (x0.trans S1.2.2.1)) S1.2.2.2.1 (by omega) (by omega) (fun g2 G2 e2 => ?_))
    have e2 : g2 = cq_sI M1 a 1 2 := e2
    have v2 := bF_1 (bfr (1) (by omega))
    have s2 : cq_s g2 a = 0 := by rw [e2]; exact q1
    refine bx_X0_takeApart_51 hY (pf2_ok hY) ?_
    simp only [wp_iconst, wp_bipush, wp_sipush, wp_ldc, wp_ldc2_w, wp_lconst0, wp_lconst1, wp_aconst_null, wp_iload_0, wp_istore_0, wp_iload_1, wp_istore_1, wp_iload_2, wp_istore_2, wp_iload_3, wp_istore_3, wp_iload, wp_istore, wp_lload_0, wp_lstore_0, wp_lload_1, wp_lstore_1, wp_lload_2, wp_lstore_2, wp_lload_3, wp_lstore_3, wp_lload, wp_lstore, wp_aload_0, wp_astore_0, wp_aload_1, wp_astore_1, wp_aload_2, wp_astore_2, wp_aload_3, wp_astore_3, wp_aload, wp_astore, wp_iinc, wp_iadd, wp_isub, wp_imul, wp_iand, wp_ior, wp_ixor, wp_ishl, wp_ishr, wp_iushr, wp_irem, wp_ladd, wp_lsub, wp_lmul, wp_land, wp_lor, wp_lxor, wp_lshl, wp_lshr, wp_lushr, wp_lrem, wp_lcmp, wp_i2l, wp_l2i, wp_dupI, wp_dupA, wp_dup2J, wp_dup2IA, wp_popI, wp_popA, wp_pop2, wp_goto, wp_if_eq, wp_icmp_eq, wp_if_ne, wp_icmp_ne, wp_if_lt, wp_icmp_lt, wp_if_ge, wp_icmp_ge, wp_if_gt, wp_icmp_gt, wp_if_le, wp_icmp_le, wp_ifnull, wp_ifnonnull, wp_acmp_eq, wp_acmp_ne, wp_tableswitch, wp_get0, wp_put0, wp_get1, wp_put1, wp_get2, wp_put2, wp_get3, wp_put3, wp_new, wp_newarray, wp_anewarray, wp_alen, wp_iaload, wp_laload, wp_baload, wp_aaload, wp_iastore, wp_lastore, wp_bastore, wp_aastore, wp_return, wp_ireturnI, wp_ireturnZ, wp_lreturn, wp_areturnO, wp_areturnA, wp_max, wp_min, wp_obj, wp_virt, wp_nil, ld_I0, ld_Is, ld_J0, ld_Js, ld_A0, ld_As, ha_0, ha_s, cx_put1, cx_put2, cx_dl, cx_tgt, true_and, and_true, Nat.reduceAdd, Nat.reduceSub, Int.reduceAdd, Int.reduceNeg, Int.reduceToNat, Int.reduceSub, Int.cast_ofNat_Int, List.take_succ_cons, List.take_zero, List.drop_succ_cons, List.drop_zero, List.take_nil, List.drop_nil, Option.toList_some, Option.toList_none, List.cons_append, List.nil_append, wp_spec, ne_eq, Nat.reduceEqDiff, not_false_eq_true, true_or, or_true, s2]
    rw [v2]
    have S2 := S1.tI (q := 2) (j := 3) (v := f (1)) (by decide)
    have G2' := G2.sI (a := a) (j := 3) (v := f (1)) s2 (own_9 (by decide)) True.intro rfl
    rw [← e2] at S2
    clear e2 S1
    generalize cq_sI g2 a 3 (f (1)) = M2 at S2 G2' ⊢
    have q2 := S2.1
    refine cl_X0_take (Nat.le_of_ble_eq_true rfl) q2 (Nat.le_refl _) (Nat.le_refl _) (e_X0_take hY G2' q2 (by rw [S2.2.1]; exact A0) (bI (x0.trans S2.2.2.1)) S2.2.2.2.1 (by omega) (by omega) (fun g3 G3 e3 => ?_))
    have e3 : g3 = cq_sI M2 a 1 3 := e3
    have v3 := bF_1 (bfr (2) (by omega))
    have s3 : cq_s g3 a = 0 := by rw [e3]; exact q2
    have S3 := S2.tI (q := 3) (j := 4) (v := f (2)) (by decide)
    have G3' := G3.sI (a := a) (j := 4) (v := f (2)) s3 (own_9 (by decide)) True.intro rfl
    rw [← e3] at S3
    have b3 : cq_I g3 a 2 = v := by
      have := S3.2.2.2.2.1 2 (by decide)
      rw [mm_sI, if_neg (fun e => absurd e.2 (by decide))] at this
      exact this
    refine bx_X0_takeApart_61 hY (pf2_ok hY) ?_
    simp only [wp_iconst, wp_bipush, wp_sipush, wp_ldc, wp_ldc2_w, wp_lconst0, wp_lconst1, wp_aconst_null, wp_iload_0, wp_istore_0, wp_iload_1, wp_istore_1, wp_iload_2, wp_istore_2, wp_iload_3, wp_istore_3, wp_iload, wp_istore, wp_lload_0, wp_lstore_0, wp_lload_1, wp_lstore_1, wp_lload_2, wp_lstore_2, wp_lload_3, wp_lstore_3, wp_lload, wp_lstore, wp_aload_0, wp_astore_0, wp_aload_1, wp_astore_1, wp_aload_2, wp_astore_2, wp_aload_3, wp_astore_3, wp_aload, wp_astore, wp_iinc, wp_iadd, wp_isub, wp_imul, wp_iand, wp_ior, wp_ixor, wp_ishl, wp_ishr, wp_iushr, wp_irem, wp_ladd, wp_lsub, wp_lmul, wp_land, wp_lor, wp_lxor, wp_lshl, wp_lshr, wp_lushr, wp_lrem, wp_lcmp, wp_i2l, wp_l2i, wp_dupI, wp_dupA, wp_dup2J, wp_dup2IA, wp_popI, wp_popA, wp_pop2, wp_goto, wp_if_eq, wp_icmp_eq, wp_if_ne, wp_icmp_ne, wp_if_lt, wp_icmp_lt, wp_if_ge, wp_icmp_ge, wp_if_gt, wp_icmp_gt, wp_if_le, wp_icmp_le, wp_ifnull, wp_ifnonnull, wp_acmp_eq, wp_acmp_ne, wp_tableswitch, wp_get0, wp_put0, wp_get1, wp_put1, wp_get2, wp_put2, wp_get3, wp_put3, wp_new, wp_newarray, wp_anewarray, wp_alen, wp_iaload, wp_laload, wp_baload, wp_aaload, wp_iastore, wp_lastore, wp_bastore, wp_aastore, wp_return, wp_ireturnI, wp_ireturnZ, wp_lreturn, wp_areturnO, wp_areturnA, wp_max, wp_min, wp_obj, wp_virt, wp_nil, ld_I0, ld_Is, ld_J0, ld_Js, ld_A0, ld_As, ha_0, ha_s, cx_put1, cx_put2, cx_dl, cx_tgt, true_and, and_true, Nat.reduceAdd, Nat.reduceSub, Int.reduceAdd, Int.reduceNeg, Int.reduceToNat, Int.reduceSub, Int.cast_ofNat_Int, List.take_succ_cons, List.take_zero, List.drop_succ_cons, List.drop_zero, List.take_nil, List.drop_nil, Option.toList_some, Option.toList_none, List.cons_append, List.nil_append, wp_spec, ne_eq, Nat.reduceEqDiff, not_false_eq_true, true_or, or_true, s3, b3, mm_sI, mm_sJ, mm_sA, mm_IJ, mm_IA, mm_JI, mm_JA, mm_AI, mm_AJ, mm_ssI, mm_ssJ, mm_ssA, mm_zI, mm_zJ, mm_zA, mm_nI, mm_nJ, mm_nA, Nat.left_eq_add, Nat.add_eq_left, Nat.add_left_cancel_iff, Nat.reduceEqDiff, Int.reduceEq, false_and, and_false, if_false, if_true, and_self, true_and, true_or, or_true, false_or, or_false]
    rw [v3]
    clear e3 S2
    generalize cq_sI g3 a 4 (f (2)) = M3 at S3 G3' ⊢
    clear b3
    have q3 := S3.1
    have A3 : cq_A M3 a 0 = some b := by rw [S3.2.1]; exact A0
    have z3 : cq_z M3 b = cq_z h b := by rw [(x0.trans S3.2.2.1).2.2.1]
    refine ⟨fun w0 => ?_, fun w0 => ?_⟩
    · have f0 : ¬ f 0 = 1 := fun e => by rw [e, if_pos rfl] at hv; omega
      have hh : (3 : Int) = hdF f := by unfold hdF; rw [if_neg f0]
      refine e_ap (hd := 3) hY G3' q3 A3 S3.2.2.2.1 (Or.inl rfl) (bI (x0.trans S3.2.2.1)) (fun g' G' X1 nr => h0' g' G' (out0 S3 X1) (fun k => nr (by rw [hh, z3]; exact k.2))) (fun g' G' X1 r O V => h1 g' G' (out0 S3 X1) ⟨ok, by rw [← hh, ← z3]; exact r⟩ (outW S3 hh X1 O V hv rfl rfl (fun q => absurd q f0)))
    · have f0 : f 0 = 1 := by
        by_cases e : f 0 = 1
        · exact e
        · rw [if_neg e] at hv; exact absurd hv w0
      have hh : (23 : Int) = hdF f := by unfold hdF; rw [if_pos f0]
      refine cl_X0_take (Nat.le_of_ble_eq_true rfl) q3 (Nat.le_refl _) (Nat.le_refl _) (e_X0_take hY G3' q3 A3 (bI (x0.trans S3.2.2.1)) S3.2.2.2.1 (by omega) (by omega) (fun g4 G4 e4 => ?_))
      have e4 : g4 = cq_sI M3 a 1 11 := e4
      have s4 : cq_s g4 a = 0 := by rw [e4]; exact q3
      refine bx_X0_takeApart_79 hY (pf2_ok hY) ?_
      simp only [wp_iconst, wp_bipush, wp_sipush, wp_ldc, wp_ldc2_w, wp_lconst0, wp_lconst1, wp_aconst_null, wp_iload_0, wp_istore_0, wp_iload_1, wp_istore_1, wp_iload_2, wp_istore_2, wp_iload_3, wp_istore_3, wp_iload, wp_istore, wp_lload_0, wp_lstore_0, wp_lload_1, wp_lstore_1, wp_lload_2, wp_lstore_2, wp_lload_3, wp_lstore_3, wp_lload, wp_lstore, wp_aload_0, wp_astore_0, wp_aload_1, wp_astore_1, wp_aload_2, wp_astore_2, wp_aload_3, wp_astore_3, wp_aload, wp_astore, wp_iinc, wp_iadd, wp_isub, wp_imul, wp_iand, wp_ior, wp_ixor, wp_ishl, wp_ishr, wp_iushr, wp_irem, wp_ladd, wp_lsub, wp_lmul, wp_land, wp_lor, wp_lxor, wp_lshl, wp_lshr, wp_lushr, wp_lrem, wp_lcmp, wp_i2l, wp_l2i, wp_dupI, wp_dupA, wp_dup2J, wp_dup2IA, wp_popI, wp_popA, wp_pop2, wp_goto, wp_if_eq, wp_icmp_eq, wp_if_ne, wp_icmp_ne, wp_if_lt, wp_icmp_lt, wp_if_ge, wp_icmp_ge, wp_if_gt, wp_icmp_gt, wp_if_le, wp_icmp_le, wp_ifnull, wp_ifnonnull, wp_acmp_eq, wp_acmp_ne, wp_tableswitch, wp_get0, wp_put0, wp_get1, wp_put1, wp_get2, wp_put2, wp_get3, wp_put3, wp_new, wp_newarray, wp_anewarray, wp_alen, wp_iaload, wp_laload, wp_baload, wp_aaload, wp_iastore, wp_lastore, wp_bastore, wp_aastore, wp_return, wp_ireturnI, wp_ireturnZ, wp_lreturn, wp_areturnO, wp_areturnA, wp_max, wp_min, wp_obj, wp_virt, wp_nil, ld_I0, ld_Is, ld_J0, ld_Js, ld_A0, ld_As, ha_0, ha_s, cx_put1, cx_put2, cx_dl, cx_tgt, true_and, and_true, Nat.reduceAdd, Nat.reduceSub, Int.reduceAdd, Int.reduceNeg, Int.reduceToNat, Int.reduceSub, Int.cast_ofNat_Int, List.take_succ_cons, List.take_zero, List.drop_succ_cons, List.drop_zero, List.take_nil, List.drop_nil, Option.toList_some, Option.toList_none, List.cons_append, List.nil_append, wp_spec, ne_eq, Nat.reduceEqDiff, not_false_eq_true, true_or, or_true, s4]
      have S4 := S3.tJ (q := 11) (j := 5) (v := bF f (3) 8)
      have G4' := G4.sJ (a := a) (j := 5) (v := bF f (3) 8) s4 (own_9 (by decide))
      rw [← e4] at S4
      clear e4
      generalize cq_sJ g4 a 5 (bF f (3) 8) = M4 at S4 G4' ⊢
      have q4 := S4.1
      refine cl_X0_take (Nat.le_of_ble_eq_true rfl) q4 (Nat.le_refl _) (Nat.le_refl _) (e_X0_take hY G4' q4 (by rw [S4.2.1]; exact A0) (bI (x0.trans S4.2.2.1)) S4.2.2.2.1 (by omega) (by omega) (fun g5 G5 e5 => ?_))
      have e5 : g5 = cq_sI M4 a 1 19 := e5
      have s5 : cq_s g5 a = 0 := by rw [e5]; exact q4
      refine bx_X0_takeApart_89 hY (pf2_ok hY) ?_
      simp only [wp_iconst, wp_bipush, wp_sipush, wp_ldc, wp_ldc2_w, wp_lconst0, wp_lconst1, wp_aconst_null, wp_iload_0, wp_istore_0, wp_iload_1, wp_istore_1, wp_iload_2, wp_istore_2, wp_iload_3, wp_istore_3, wp_iload, wp_istore, wp_lload_0, wp_lstore_0, wp_lload_1, wp_lstore_1, wp_lload_2, wp_lstore_2, wp_lload_3, wp_lstore_3, wp_lload, wp_lstore, wp_aload_0, wp_astore_0, wp_aload_1, wp_astore_1, wp_aload_2, wp_astore_2, wp_aload_3, wp_astore_3, wp_aload, wp_astore, wp_iinc, wp_iadd, wp_isub, wp_imul, wp_iand, wp_ior, wp_ixor, wp_ishl, wp_ishr, wp_iushr, wp_irem, wp_ladd, wp_lsub, wp_lmul, wp_land, wp_lor, wp_lxor, wp_lshl, wp_lshr, wp_lushr, wp_lrem, wp_lcmp, wp_i2l, wp_l2i, wp_dupI, wp_dupA, wp_dup2J, wp_dup2IA, wp_popI, wp_popA, wp_pop2, wp_goto, wp_if_eq, wp_icmp_eq, wp_if_ne, wp_icmp_ne, wp_if_lt, wp_icmp_lt, wp_if_ge, wp_icmp_ge, wp_if_gt, wp_icmp_gt, wp_if_le, wp_icmp_le, wp_ifnull, wp_ifnonnull, wp_acmp_eq, wp_acmp_ne, wp_tableswitch, wp_get0, wp_put0, wp_get1, wp_put1, wp_get2, wp_put2, wp_get3, wp_put3, wp_new, wp_newarray, wp_anewarray, wp_alen, wp_iaload, wp_laload, wp_baload, wp_aaload, wp_iastore, wp_lastore, wp_bastore, wp_aastore, wp_return, wp_ireturnI, wp_ireturnZ, wp_lreturn, wp_areturnO, wp_areturnA, wp_max, wp_min, wp_obj, wp_virt, wp_nil, ld_I0, ld_Is, ld_J0, ld_Js, ld_A0, ld_As, ha_0, ha_s, cx_put1, cx_put2, cx_dl, cx_tgt, true_and, and_true, Nat.reduceAdd, Nat.reduceSub, Int.reduceAdd, Int.reduceNeg, Int.reduceToNat, Int.reduceSub, Int.cast_ofNat_Int, List.take_succ_cons, List.take_zero, List.drop_succ_cons, List.drop_zero, List.take_nil, List.drop_nil, Option.toList_some, Option.toList_none, List.cons_append, List.nil_append, wp_spec, ne_eq, Nat.reduceEqDiff, not_false_eq_true, true_or, or_true, s5]
      have S5 := S4.tJ (q := 19) (j := 6) (v := bF f (11) 8)
      have G5' := G5.sJ (a := a) (j := 6) (v := bF f (11) 8) s5 (own_9 (by decide))
      rw [← e5] at S5
      clear e5
      generalize cq_sJ g5 a 6 (bF f (11) 8) = M5 at S5 G5' ⊢
      have q5 := S5.1
      refine cl_X0_take (Nat.le_of_ble_eq_true rfl) q5 (Nat.le_refl _) (Nat.le_refl _) (e_X0_take hY G5' q5 (by rw [S5.2.1]; exact A0) (bI (x0.trans S5.2.2.1)) S5.2.2.2.1 (by omega) (by omega) (fun g6 G6 e6 => ?_))
      have e6 : g6 = cq_sI M5 a 1 21 := e6
      have s6 : cq_s g6 a = 0 := by rw [e6]; exact q5
      have v6 : (bF f 19 2).toInt32.toInt = 256 * f 19 + f 20 := bF_2 (bfr (19) (by omega)) (bfr (20) (by omega))
      have r1 := bfr (19) (by omega)
      have r2 := bfr (20) (by omega)
      refine bx_X0_takeApart_98 hY (pf2_ok hY) ?_
      simp only [wp_iconst, wp_bipush, wp_sipush, wp_ldc, wp_ldc2_w, wp_lconst0, wp_lconst1, wp_aconst_null, wp_iload_0, wp_istore_0, wp_iload_1, wp_istore_1, wp_iload_2, wp_istore_2, wp_iload_3, wp_istore_3, wp_iload, wp_istore, wp_lload_0, wp_lstore_0, wp_lload_1, wp_lstore_1, wp_lload_2, wp_lstore_2, wp_lload_3, wp_lstore_3, wp_lload, wp_lstore, wp_aload_0, wp_astore_0, wp_aload_1, wp_astore_1, wp_aload_2, wp_astore_2, wp_aload_3, wp_astore_3, wp_aload, wp_astore, wp_iinc, wp_iadd, wp_isub, wp_imul, wp_iand, wp_ior, wp_ixor, wp_ishl, wp_ishr, wp_iushr, wp_irem, wp_ladd, wp_lsub, wp_lmul, wp_land, wp_lor, wp_lxor, wp_lshl, wp_lshr, wp_lushr, wp_lrem, wp_lcmp, wp_i2l, wp_l2i, wp_dupI, wp_dupA, wp_dup2J, wp_dup2IA, wp_popI, wp_popA, wp_pop2, wp_goto, wp_if_eq, wp_icmp_eq, wp_if_ne, wp_icmp_ne, wp_if_lt, wp_icmp_lt, wp_if_ge, wp_icmp_ge, wp_if_gt, wp_icmp_gt, wp_if_le, wp_icmp_le, wp_ifnull, wp_ifnonnull, wp_acmp_eq, wp_acmp_ne, wp_tableswitch, wp_get0, wp_put0, wp_get1, wp_put1, wp_get2, wp_put2, wp_get3, wp_put3, wp_new, wp_newarray, wp_anewarray, wp_alen, wp_iaload, wp_laload, wp_baload, wp_aaload, wp_iastore, wp_lastore, wp_bastore, wp_aastore, wp_return, wp_ireturnI, wp_ireturnZ, wp_lreturn, wp_areturnO, wp_areturnA, wp_max, wp_min, wp_obj, wp_virt, wp_nil, ld_I0, ld_Is, ld_J0, ld_Js, ld_A0, ld_As, ha_0, ha_s, cx_put1, cx_put2, cx_dl, cx_tgt, true_and, and_true, Nat.reduceAdd, Nat.reduceSub, Int.reduceAdd, Int.reduceNeg, Int.reduceToNat, Int.reduceSub, Int.cast_ofNat_Int, List.take_succ_cons, List.take_zero, List.drop_succ_cons, List.drop_zero, List.take_nil, List.drop_nil, Option.toList_some, Option.toList_none, List.cons_append, List.nil_append, wp_spec, ne_eq, Nat.reduceEqDiff, not_false_eq_true, true_or, or_true, s6]
      rw [v6]
      have S6 := S5.tI (q := 21) (j := 7) (v := 256 * f (19) + f (20)) (by decide)
      have G6' := G6.sI (a := a) (j := 7) (v := 256 * f (19) + f (20)) s6 (own_9 (by decide)) ⟨by omega, by omega⟩ rfl
      rw [← e6] at S6
      clear e6
      generalize cq_sI g6 a 7 (256 * f (19) + f (20)) = M6 at S6 G6' ⊢
      have q6 := S6.1
      refine cl_X0_take (Nat.le_of_ble_eq_true rfl) q6 (Nat.le_refl _) (Nat.le_refl _) (e_X0_take hY G6' q6 (by rw [S6.2.1]; exact A0) (bI (x0.trans S6.2.2.1)) S6.2.2.2.1 (by omega) (by omega) (fun g7 G7 e7 => ?_))
      have e7 : g7 = cq_sI M6 a 1 23 := e7
      have s7 : cq_s g7 a = 0 := by rw [e7]; exact q6
      have v7 : (bF f 21 2).toInt32.toInt = 256 * f 21 + f 22 := bF_2 (bfr (21) (by omega)) (bfr (22) (by omega))
      have r3 := bfr (21) (by omega)
      have r4 := bfr (22) (by omega)
      refine bx_X0_takeApart_108 hY (pf2_ok hY) ?_
      simp only [wp_iconst, wp_bipush, wp_sipush, wp_ldc, wp_ldc2_w, wp_lconst0, wp_lconst1, wp_aconst_null, wp_iload_0, wp_istore_0, wp_iload_1, wp_istore_1, wp_iload_2, wp_istore_2, wp_iload_3, wp_istore_3, wp_iload, wp_istore, wp_lload_0, wp_lstore_0, wp_lload_1, wp_lstore_1, wp_lload_2, wp_lstore_2, wp_lload_3, wp_lstore_3, wp_lload, wp_lstore, wp_aload_0, wp_astore_0, wp_aload_1, wp_astore_1, wp_aload_2, wp_astore_2, wp_aload_3, wp_astore_3, wp_aload, wp_astore, wp_iinc, wp_iadd, wp_isub, wp_imul, wp_iand, wp_ior, wp_ixor, wp_ishl, wp_ishr, wp_iushr, wp_irem, wp_ladd, wp_lsub, wp_lmul, wp_land, wp_lor, wp_lxor, wp_lshl, wp_lshr, wp_lushr, wp_lrem, wp_lcmp, wp_i2l, wp_l2i, wp_dupI, wp_dupA, wp_dup2J, wp_dup2IA, wp_popI, wp_popA, wp_pop2, wp_goto, wp_if_eq, wp_icmp_eq, wp_if_ne, wp_icmp_ne, wp_if_lt, wp_icmp_lt, wp_if_ge, wp_icmp_ge, wp_if_gt, wp_icmp_gt, wp_if_le, wp_icmp_le, wp_ifnull, wp_ifnonnull, wp_acmp_eq, wp_acmp_ne, wp_tableswitch, wp_get0, wp_put0, wp_get1, wp_put1, wp_get2, wp_put2, wp_get3, wp_put3, wp_new, wp_newarray, wp_anewarray, wp_alen, wp_iaload, wp_laload, wp_baload, wp_aaload, wp_iastore, wp_lastore, wp_bastore, wp_aastore, wp_return, wp_ireturnI, wp_ireturnZ, wp_lreturn, wp_areturnO, wp_areturnA, wp_max, wp_min, wp_obj, wp_virt, wp_nil, ld_I0, ld_Is, ld_J0, ld_Js, ld_A0, ld_As, ha_0, ha_s, cx_put1, cx_put2, cx_dl, cx_tgt, true_and, and_true, Nat.reduceAdd, Nat.reduceSub, Int.reduceAdd, Int.reduceNeg, Int.reduceToNat, Int.reduceSub, Int.cast_ofNat_Int, List.take_succ_cons, List.take_zero, List.drop_succ_cons, List.drop_zero, List.take_nil, List.drop_nil, Option.toList_some, Option.toList_none, List.cons_append, List.nil_append, wp_spec, ne_eq, Nat.reduceEqDiff, not_false_eq_true, true_or, or_true, s7]
      rw [v7]
      have S7 := S6.tI (q := 23) (j := 8) (v := 256 * f (21) + f (22)) (by decide)
      have G7' := G7.sI (a := a) (j := 8) (v := 256 * f (21) + f (22)) s7 (own_9 (by decide)) ⟨by omega, by omega⟩ rfl
      rw [← e7] at S7
      clear e7
      generalize cq_sI g7 a 8 (256 * f (21) + f (22)) = M7 at S7 G7' ⊢
      have z7 : cq_z M7 b = cq_z h b := by rw [(x0.trans S7.2.2.1).2.2.1]
      refine e_ap (hd := 23) hY G7' S7.1 (by rw [S7.2.1]; exact A0) S7.2.2.2.1 (Or.inr rfl) (bI (x0.trans S7.2.2.1)) (fun g' G' X1 nr => h0' g' G' (out0 S7 X1) (fun k => nr (by rw [hh, z7]; exact k.2))) (fun g' G' X1 r O V => h1 g' G' (out0 S7 X1) ⟨ok, by rw [← hh, ← z7]; exact r⟩ (outW S7 hh X1 O V hv rfl rfl (fun _ => ⟨rfl, rfl, rfl, rfl⟩)))
  have j28 : ∀ (v : Int), (v = if f 0 = 1 then 1 else 0) → cw Y mi_X0_takeApart K 28 [some (.inr (.inr (some a))), some (.inr (.inr (some b))), some (.inl (f 0))] [.inl v, .inr (.inr (some a))] g1 0 0 := by
    intro v hv
    have v01 : v = 0 ∨ v = 1 := by rw [hv]; split <;> omega
    refine bx_X0_takeApart_28 hY (pf2_ok hY) ?_
    simp only [wp_iconst, wp_bipush, wp_sipush, wp_ldc, wp_ldc2_w, wp_lconst0, wp_lconst1, wp_aconst_null, wp_iload_0, wp_istore_0, wp_iload_1, wp_istore_1, wp_iload_2, wp_istore_2, wp_iload_3, wp_istore_3, wp_iload, wp_istore, wp_lload_0, wp_lstore_0, wp_lload_1, wp_lstore_1, wp_lload_2, wp_lstore_2, wp_lload_3, wp_lstore_3, wp_lload, wp_lstore, wp_aload_0, wp_astore_0, wp_aload_1, wp_astore_1, wp_aload_2, wp_astore_2, wp_aload_3, wp_astore_3, wp_aload, wp_astore, wp_iinc, wp_iadd, wp_isub, wp_imul, wp_iand, wp_ior, wp_ixor, wp_ishl, wp_ishr, wp_iushr, wp_irem, wp_ladd, wp_lsub, wp_lmul, wp_land, wp_lor, wp_lxor, wp_lshl, wp_lshr, wp_lushr, wp_lrem, wp_lcmp, wp_i2l, wp_l2i, wp_dupI, wp_dupA, wp_dup2J, wp_dup2IA, wp_popI, wp_popA, wp_pop2, wp_goto, wp_if_eq, wp_icmp_eq, wp_if_ne, wp_icmp_ne, wp_if_lt, wp_icmp_lt, wp_if_ge, wp_icmp_ge, wp_if_gt, wp_icmp_gt, wp_if_le, wp_icmp_le, wp_ifnull, wp_ifnonnull, wp_acmp_eq, wp_acmp_ne, wp_tableswitch, wp_get0, wp_put0, wp_get1, wp_put1, wp_get2, wp_put2, wp_get3, wp_put3, wp_new, wp_newarray, wp_anewarray, wp_alen, wp_iaload, wp_laload, wp_baload, wp_aaload, wp_iastore, wp_lastore, wp_bastore, wp_aastore, wp_return, wp_ireturnI, wp_ireturnZ, wp_lreturn, wp_areturnO, wp_areturnA, wp_max, wp_min, wp_obj, wp_virt, wp_nil, ld_I0, ld_Is, ld_J0, ld_Js, ld_A0, ld_As, ha_0, ha_s, cx_put1, cx_put2, cx_dl, cx_tgt, true_and, and_true, Nat.reduceAdd, Nat.reduceSub, Int.reduceAdd, Int.reduceNeg, Int.reduceToNat, Int.reduceSub, Int.cast_ofNat_Int, List.take_succ_cons, List.take_zero, List.drop_succ_cons, List.drop_zero, List.take_nil, List.drop_nil, Option.toList_some, Option.toList_none, List.cons_append, List.nil_append, wp_spec, ne_eq, Nat.reduceEqDiff, not_false_eq_true, true_or, or_true, s1, mm_sI, mm_sJ, mm_sA, mm_IJ, mm_IA, mm_JI, mm_JA, mm_AI, mm_AJ, mm_ssI, mm_ssJ, mm_ssA, mm_zI, mm_zJ, mm_zA, mm_nI, mm_nJ, mm_nA, Nat.left_eq_add, Nat.add_eq_left, Nat.add_left_cancel_iff, Nat.reduceEqDiff, Int.reduceEq, false_and, and_false, if_false, if_true, and_self, true_and, true_or, or_true, false_or, or_false]
    refine ⟨v01, fun w => j45 _ v hv (Or.inl ?_), fun w => ⟨fun w2 => j45 _ v hv (Or.inr w2), fun w2 => h0' _ (G1.sI (a := a) (j := 2) (v := v) s1 (own_9 (by decide)) True.intro rfl) ?_ (fun k => ?_)⟩⟩
    · by_cases e : f 0 = 1
      · exact e
      · rw [if_neg e] at hv; exact absurd hv w
    · rw [e1]
      exact x0.sI.sI
    · rcases k.1 with e | e
      · rw [if_pos e] at hv; omega
      · exact w2 e
  refine bx_X0_takeApart_15 hY (pf2_ok hY) ?_
  simp only [wp_iconst, wp_bipush, wp_sipush, wp_ldc, wp_ldc2_w, wp_lconst0, wp_lconst1, wp_aconst_null, wp_iload_0, wp_istore_0, wp_iload_1, wp_istore_1, wp_iload_2, wp_istore_2, wp_iload_3, wp_istore_3, wp_iload, wp_istore, wp_lload_0, wp_lstore_0, wp_lload_1, wp_lstore_1, wp_lload_2, wp_lstore_2, wp_lload_3, wp_lstore_3, wp_lload, wp_lstore, wp_aload_0, wp_astore_0, wp_aload_1, wp_astore_1, wp_aload_2, wp_astore_2, wp_aload_3, wp_astore_3, wp_aload, wp_astore, wp_iinc, wp_iadd, wp_isub, wp_imul, wp_iand, wp_ior, wp_ixor, wp_ishl, wp_ishr, wp_iushr, wp_irem, wp_ladd, wp_lsub, wp_lmul, wp_land, wp_lor, wp_lxor, wp_lshl, wp_lshr, wp_lushr, wp_lrem, wp_lcmp, wp_i2l, wp_l2i, wp_dupI, wp_dupA, wp_dup2J, wp_dup2IA, wp_popI, wp_popA, wp_pop2, wp_goto, wp_if_eq, wp_icmp_eq, wp_if_ne, wp_icmp_ne, wp_if_lt, wp_icmp_lt, wp_if_ge, wp_icmp_ge, wp_if_gt, wp_icmp_gt, wp_if_le, wp_icmp_le, wp_ifnull, wp_ifnonnull, wp_acmp_eq, wp_acmp_ne, wp_tableswitch, wp_get0, wp_put0, wp_get1, wp_put1, wp_get2, wp_put2, wp_get3, wp_put3, wp_new, wp_newarray, wp_anewarray, wp_alen, wp_iaload, wp_laload, wp_baload, wp_aaload, wp_iastore, wp_lastore, wp_bastore, wp_aastore, wp_return, wp_ireturnI, wp_ireturnZ, wp_lreturn, wp_areturnO, wp_areturnA, wp_max, wp_min, wp_obj, wp_virt, wp_nil, ld_I0, ld_Is, ld_J0, ld_Js, ld_A0, ld_As, ha_0, ha_s, cx_put1, cx_put2, cx_dl, cx_tgt, true_and, and_true, Nat.reduceAdd, Nat.reduceSub, Int.reduceAdd, Int.reduceNeg, Int.reduceToNat, Int.reduceSub, Int.cast_ofNat_Int, List.take_succ_cons, List.take_zero, List.drop_succ_cons, List.drop_zero, List.take_nil, List.drop_nil, Option.toList_some, Option.toList_none, List.cons_append, List.nil_append, wp_spec, ne_eq, Nat.reduceEqDiff, not_false_eq_true, true_or, or_true]
  rw [v1]
  refine ⟨fun w => ?_, fun w => j28 1 (by rw [if_pos (Classical.not_not.mp w)])⟩
  refine bx_X0_takeApart_27 hY (pf2_ok hY) ?_
  simp only [wp_iconst, wp_bipush, wp_sipush, wp_ldc, wp_ldc2_w, wp_lconst0, wp_lconst1, wp_aconst_null, wp_iload_0, wp_istore_0, wp_iload_1, wp_istore_1, wp_iload_2, wp_istore_2, wp_iload_3, wp_istore_3, wp_iload, wp_istore, wp_lload_0, wp_lstore_0, wp_lload_1, wp_lstore_1, wp_lload_2, wp_lstore_2, wp_lload_3, wp_lstore_3, wp_lload, wp_lstore, wp_aload_0, wp_astore_0, wp_aload_1, wp_astore_1, wp_aload_2, wp_astore_2, wp_aload_3, wp_astore_3, wp_aload, wp_astore, wp_iinc, wp_iadd, wp_isub, wp_imul, wp_iand, wp_ior, wp_ixor, wp_ishl, wp_ishr, wp_iushr, wp_irem, wp_ladd, wp_lsub, wp_lmul, wp_land, wp_lor, wp_lxor, wp_lshl, wp_lshr, wp_lushr, wp_lrem, wp_lcmp, wp_i2l, wp_l2i, wp_dupI, wp_dupA, wp_dup2J, wp_dup2IA, wp_popI, wp_popA, wp_pop2, wp_goto, wp_if_eq, wp_icmp_eq, wp_if_ne, wp_icmp_ne, wp_if_lt, wp_icmp_lt, wp_if_ge, wp_icmp_ge, wp_if_gt, wp_icmp_gt, wp_if_le, wp_icmp_le, wp_ifnull, wp_ifnonnull, wp_acmp_eq, wp_acmp_ne, wp_tableswitch, wp_get0, wp_put0, wp_get1, wp_put1, wp_get2, wp_put2, wp_get3, wp_put3, wp_new, wp_newarray, wp_anewarray, wp_alen, wp_iaload, wp_laload, wp_baload, wp_aaload, wp_iastore, wp_lastore, wp_bastore, wp_aastore, wp_return, wp_ireturnI, wp_ireturnZ, wp_lreturn, wp_areturnO, wp_areturnA, wp_max, wp_min, wp_obj, wp_virt, wp_nil, ld_I0, ld_Is, ld_J0, ld_Js, ld_A0, ld_As, ha_0, ha_s, cx_put1, cx_put2, cx_dl, cx_tgt, true_and, and_true, Nat.reduceAdd, Nat.reduceSub, Int.reduceAdd, Int.reduceNeg, Int.reduceToNat, Int.reduceSub, Int.cast_ofNat_Int, List.take_succ_cons, List.take_zero, List.drop_succ_cons, List.drop_zero, List.take_nil, List.drop_nil, Option.toList_some, Option.toList_none, List.cons_append, List.nil_append, wp_spec, ne_eq, Nat.reduceEqDiff, not_false_eq_true, true_or, or_true]
  exact j28 0 (by rw [if_neg w])
end
