/-! the reference is made: exactly -/
def NJ (x : Nat) (h1 : cx_Q) (t : Int) (o : Nat) (g : cx_Q) : Prop := NI x h1 t o g ∧ ∀ a, x < a → a < g.1 → cq_J g a = fun _ => 0
section
variable {x : Nat} {h1 g : cx_Q} {t : Int} {o : Nat}
theorem NJ.st (N : NJ x h1 t o g) (ho : o < 65) {s : Nat} {z f : Int} (hs : s = 105 + (o + 1)) (hz : z = rz (o + 1)) (hf : f = rf (o + 1)) : NJ x h1 t (o + 1) (cq_sA (cq_nw g s z) x f (some g.1)) := by
  refine ⟨N.1.st ho hs hz hf, fun a ha hb => ?_⟩
  show cq_J (cq_nw g s z) a = _
  have hb : a < g.1 + 1 := hb
  by_cases e : a = g.1
  · rw [e, nw_n.2.2.2.1]
  · rw [(nw_o e).2.2.2.1]
    exact N.2 a ha (by omega)
variable {pf : cx_Pf} {mF mO : Nat} {ty : Option FieldType} {J : cx_J} {C : cx_Cl} {P : Option cx_V → cx_Q → Prop} {r : List ev_E} {pc : Nat} {lv : cx_L} {bc bs : Nat}
theorem jn_b (N : NJ x h1 t o g) {k : ArrayType} {u s f w : Nat} {z : Int} (ho : o < 65) (hs : s = 105 + (o + 1)) (hz : z = rz (o + 1)) (hf : (f : Int) = rf (o + 1)) (hb : 1 ≤ bc) (hbs : 0 ≤ z ∧ z ≤ 60000 ∧ z ≤ (bs : Int))
    (go : ∀ g', NJ x h1 t (o + 1) g' → cx_wp ra0 pf mF mO ty J C P r (pc + 1 + 2 + 2 + 3) (some (.inr (.inr (some x))) :: lv) [] g' (bc - 1) (bs - z.toNat)) : cx_wp ra0 pf mF mO ty J C P ((.aload_n 0, 1, 0, 0, 0) :: (.bipush z, 2, 0, 0, 0) :: (.newarray k, 2, u, s, 0) :: (.putfield w, 3, 10, f, 3) :: r) pc (some (.inr (.inr (some x))) :: lv) [] g bc bs := by
  have N' := N.st ho hs hz hf
  have nx : x ≠ g.1 := by have := N.1.1; omega
  have sx : cq_s (cq_nw g s z) x = 10 := (nw_o nx).1.trans N.1.2.1
  simp only [wp_iconst, wp_bipush, wp_sipush, wp_ldc, wp_ldc2_w, wp_lconst0, wp_lconst1, wp_aconst_null, wp_iload_0, wp_istore_0, wp_iload_1, wp_istore_1, wp_iload_2, wp_istore_2, wp_iload_3, wp_istore_3, wp_iload, wp_istore, wp_lload_0, wp_lstore_0, wp_lload_1, wp_lstore_1, wp_lload_2, wp_lstore_2, wp_lload_3, wp_lstore_3, wp_lload, wp_lstore, wp_aload_0, wp_astore_0, wp_aload_1, wp_astore_1, wp_aload_2, wp_astore_2, wp_aload_3, wp_astore_3, wp_aload, wp_astore, wp_iinc, wp_iadd, wp_isub, wp_imul, wp_iand, wp_ior, wp_ixor, wp_ishl, wp_ishr, wp_iushr, wp_irem, wp_ladd, wp_lsub, wp_lmul, wp_land, wp_lor, wp_lxor, wp_lshl, wp_lshr, wp_lushr, wp_lrem, wp_lcmp, wp_i2l, wp_l2i, wp_dupI, wp_dupA, wp_dup2J, wp_dup2IA, wp_popI, wp_popA, wp_pop2, wp_goto, wp_if_eq, wp_icmp_eq, wp_if_ne, wp_icmp_ne, wp_if_lt, wp_icmp_lt, wp_if_ge, wp_icmp_ge, wp_if_gt, wp_icmp_gt, wp_if_le, wp_icmp_le, wp_ifnull, wp_ifnonnull, wp_acmp_eq, wp_acmp_ne, wp_tableswitch, wp_get0, wp_put0, wp_get1, wp_put1, wp_get2, wp_put2, wp_get3, wp_put3, wp_new, wp_newarray, wp_anewarray, wp_alen, wp_iaload, wp_laload, wp_baload, wp_aaload, wp_iastore, wp_lastore, wp_bastore, wp_aastore, wp_return, wp_ireturnI, wp_ireturnZ, wp_lreturn, wp_areturnO, wp_areturnA, wp_max, wp_min, wp_obj, wp_virt, wp_nil, ld_I0, ld_Is, ld_J0, ld_Js, ld_A0, ld_As, ha_0, ha_s, cx_put1, cx_put2, cx_dl, cx_tgt, true_and, and_true, Nat.reduceAdd, Nat.reduceSub, Int.reduceAdd, Int.reduceNeg, Int.reduceToNat, Int.reduceSub, Int.cast_ofNat_Int, List.take_succ_cons, List.take_zero, List.drop_succ_cons, List.drop_zero, List.take_nil, List.drop_nil, Option.toList_some, Option.toList_none, List.cons_append, List.nil_append, wp_spec, ne_eq, Nat.reduceEqDiff, not_false_eq_true, true_or, or_true, sx]
  exact ⟨⟨hb, hbs⟩, go _ N'⟩
theorem jn_s (N : NJ x h1 t o g) {k : ArrayType} {u s f w : Nat} {z : Int} (ho : o < 65) (hs : s = 105 + (o + 1)) (hz : z = rz (o + 1)) (hf : (f : Int) = rf (o + 1)) (hb : 1 ≤ bc) (hbs : 0 ≤ z ∧ z ≤ 60000 ∧ z ≤ (bs : Int))
    (go : ∀ g', NJ x h1 t (o + 1) g' → cx_wp ra0 pf mF mO ty J C P r (pc + 1 + 3 + 2 + 3) (some (.inr (.inr (some x))) :: lv) [] g' (bc - 1) (bs - z.toNat)) : cx_wp ra0 pf mF mO ty J C P ((.aload_n 0, 1, 0, 0, 0) :: (.sipush z, 3, 0, 0, 0) :: (.newarray k, 2, u, s, 0) :: (.putfield w, 3, 10, f, 3) :: r) pc (some (.inr (.inr (some x))) :: lv) [] g bc bs := by
  have N' := N.st ho hs hz hf
  have nx : x ≠ g.1 := by have := N.1.1; omega
  have sx : cq_s (cq_nw g s z) x = 10 := (nw_o nx).1.trans N.1.2.1
  simp only [wp_iconst, wp_bipush, wp_sipush, wp_ldc, wp_ldc2_w, wp_lconst0, wp_lconst1, wp_aconst_null, wp_iload_0, wp_istore_0, wp_iload_1, wp_istore_1, wp_iload_2, wp_istore_2, wp_iload_3, wp_istore_3, wp_iload, wp_istore, wp_lload_0, wp_lstore_0, wp_lload_1, wp_lstore_1, wp_lload_2, wp_lstore_2, wp_lload_3, wp_lstore_3, wp_lload, wp_lstore, wp_aload_0, wp_astore_0, wp_aload_1, wp_astore_1, wp_aload_2, wp_astore_2, wp_aload_3, wp_astore_3, wp_aload, wp_astore, wp_iinc, wp_iadd, wp_isub, wp_imul, wp_iand, wp_ior, wp_ixor, wp_ishl, wp_ishr, wp_iushr, wp_irem, wp_ladd, wp_lsub, wp_lmul, wp_land, wp_lor, wp_lxor, wp_lshl, wp_lshr, wp_lushr, wp_lrem, wp_lcmp, wp_i2l, wp_l2i, wp_dupI, wp_dupA, wp_dup2J, wp_dup2IA, wp_popI, wp_popA, wp_pop2, wp_goto, wp_if_eq, wp_icmp_eq, wp_if_ne, wp_icmp_ne, wp_if_lt, wp_icmp_lt, wp_if_ge, wp_icmp_ge, wp_if_gt, wp_icmp_gt, wp_if_le, wp_icmp_le, wp_ifnull, wp_ifnonnull, wp_acmp_eq, wp_acmp_ne, wp_tableswitch, wp_get0, wp_put0, wp_get1, wp_put1, wp_get2, wp_put2, wp_get3, wp_put3, wp_new, wp_newarray, wp_anewarray, wp_alen, wp_iaload, wp_laload, wp_baload, wp_aaload, wp_iastore, wp_lastore, wp_bastore, wp_aastore, wp_return, wp_ireturnI, wp_ireturnZ, wp_lreturn, wp_areturnO, wp_areturnA, wp_max, wp_min, wp_obj, wp_virt, wp_nil, ld_I0, ld_Is, ld_J0, ld_Js, ld_A0, ld_As, ha_0, ha_s, cx_put1, cx_put2, cx_dl, cx_tgt, true_and, and_true, Nat.reduceAdd, Nat.reduceSub, Int.reduceAdd, Int.reduceNeg, Int.reduceToNat, Int.reduceSub, Int.cast_ofNat_Int, List.take_succ_cons, List.take_zero, List.drop_succ_cons, List.drop_zero, List.take_nil, List.drop_nil, Option.toList_some, Option.toList_none, List.cons_append, List.nil_append, wp_spec, ne_eq, Nat.reduceEqDiff, not_false_eq_true, true_or, or_true, sx]
  exact ⟨⟨hb, hbs⟩, go _ N'⟩
theorem jn_t (N : NJ x h1 0 o g) {w : Nat} (go : ∀ g', NJ x h1 1 o g' → cx_wp ra0 pf mF mO ty J C P r (pc + 1 + 1 + 3) (some (.inr (.inr (some x))) :: lv) [] g' bc bs) : cx_wp ra0 pf mF mO ty J C P ((.aload_n 0, 1, 0, 0, 0) :: (.iconst 1, 1, 0, 0, 0) :: (.putfield w, 3, 10, 2, 0) :: r) pc (some (.inr (.inr (some x))) :: lv) [] g bc bs := by
  have sx := N.1.2.1
  simp only [wp_iconst, wp_bipush, wp_sipush, wp_ldc, wp_ldc2_w, wp_lconst0, wp_lconst1, wp_aconst_null, wp_iload_0, wp_istore_0, wp_iload_1, wp_istore_1, wp_iload_2, wp_istore_2, wp_iload_3, wp_istore_3, wp_iload, wp_istore, wp_lload_0, wp_lstore_0, wp_lload_1, wp_lstore_1, wp_lload_2, wp_lstore_2, wp_lload_3, wp_lstore_3, wp_lload, wp_lstore, wp_aload_0, wp_astore_0, wp_aload_1, wp_astore_1, wp_aload_2, wp_astore_2, wp_aload_3, wp_astore_3, wp_aload, wp_astore, wp_iinc, wp_iadd, wp_isub, wp_imul, wp_iand, wp_ior, wp_ixor, wp_ishl, wp_ishr, wp_iushr, wp_irem, wp_ladd, wp_lsub, wp_lmul, wp_land, wp_lor, wp_lxor, wp_lshl, wp_lshr, wp_lushr, wp_lrem, wp_lcmp, wp_i2l, wp_l2i, wp_dupI, wp_dupA, wp_dup2J, wp_dup2IA, wp_popI, wp_popA, wp_pop2, wp_goto, wp_if_eq, wp_icmp_eq, wp_if_ne, wp_icmp_ne, wp_if_lt, wp_icmp_lt, wp_if_ge, wp_icmp_ge, wp_if_gt, wp_icmp_gt, wp_if_le, wp_icmp_le, wp_ifnull, wp_ifnonnull, wp_acmp_eq, wp_acmp_ne, wp_tableswitch, wp_get0, wp_put0, wp_get1, wp_put1, wp_get2, wp_put2, wp_get3, wp_put3, wp_new, wp_newarray, wp_anewarray, wp_alen, wp_iaload, wp_laload, wp_baload, wp_aaload, wp_iastore, wp_lastore, wp_bastore, wp_aastore, wp_return, wp_ireturnI, wp_ireturnZ, wp_lreturn, wp_areturnO, wp_areturnA, wp_max, wp_min, wp_obj, wp_virt, wp_nil, ld_I0, ld_Is, ld_J0, ld_Js, ld_A0, ld_As, ha_0, ha_s, cx_put1, cx_put2, cx_dl, cx_tgt, true_and, and_true, Nat.reduceAdd, Nat.reduceSub, Int.reduceAdd, Int.reduceNeg, Int.reduceToNat, Int.reduceSub, Int.cast_ofNat_Int, List.take_succ_cons, List.take_zero, List.drop_succ_cons, List.drop_zero, List.take_nil, List.drop_nil, Option.toList_some, Option.toList_none, List.cons_append, List.nil_append, wp_spec, ne_eq, Nat.reduceEqDiff, not_false_eq_true, true_or, or_true, sx]
  refine go _ ?_
  obtain ⟨⟨n1, n2, n3, n4, n5, n6, n7⟩, n8⟩ := N
  refine ⟨?_, fun a ha hb => by rw [← n8 a ha hb]; rfl⟩
  refine ⟨n1, n2, n3, fun a ha => ⟨(n4 a ha).1, (n4 a ha).2.1, ?_, (n4 a ha).2.2.2⟩, fun a ha hb => ?_, ?_, n7⟩
  · rw [← (n4 a ha).2.2.1]
    funext j
    rw [mm_sI, if_neg (fun e => by omega)]
  · rw [← n5 a ha hb]
    funext j
    rw [mm_sI, if_neg (fun e => by omega)]
  · funext j
    rw [mm_sI]
    by_cases e : j = 2
    · rw [if_pos ⟨rfl, e⟩, if_pos e]
    · rw [if_neg (fun q => e q.2), if_neg e, n6]
      exact if_neg e
theorem jn_m (N : NJ x h1 t o g) {k : ArrayType} {u s : Nat} {z : Int} (hb : 1 ≤ bc) (hbs : 0 ≤ z ∧ z ≤ 60000 ∧ z ≤ (bs : Int))
    (go : J (pc + 1 + 3 + 2) (some (.inr (.inr (some x))) :: lv) [.inr (.inr (some g.1)), .inr (.inr (some x))] (cq_nw g s z) (bc - 1) (bs - z.toNat)) : cx_wp ra0 pf mF mO ty J C P [(.aload_n 0, 1, 0, 0, 0), (.sipush z, 3, 0, 0, 0), (.newarray k, 2, u, s, 0)] pc (some (.inr (.inr (some x))) :: lv) [] g bc bs := by
  simp only [wp_iconst, wp_bipush, wp_sipush, wp_ldc, wp_ldc2_w, wp_lconst0, wp_lconst1, wp_aconst_null, wp_iload_0, wp_istore_0, wp_iload_1, wp_istore_1, wp_iload_2, wp_istore_2, wp_iload_3, wp_istore_3, wp_iload, wp_istore, wp_lload_0, wp_lstore_0, wp_lload_1, wp_lstore_1, wp_lload_2, wp_lstore_2, wp_lload_3, wp_lstore_3, wp_lload, wp_lstore, wp_aload_0, wp_astore_0, wp_aload_1, wp_astore_1, wp_aload_2, wp_astore_2, wp_aload_3, wp_astore_3, wp_aload, wp_astore, wp_iinc, wp_iadd, wp_isub, wp_imul, wp_iand, wp_ior, wp_ixor, wp_ishl, wp_ishr, wp_iushr, wp_irem, wp_ladd, wp_lsub, wp_lmul, wp_land, wp_lor, wp_lxor, wp_lshl, wp_lshr, wp_lushr, wp_lrem, wp_lcmp, wp_i2l, wp_l2i, wp_dupI, wp_dupA, wp_dup2J, wp_dup2IA, wp_popI, wp_popA, wp_pop2, wp_goto, wp_if_eq, wp_icmp_eq, wp_if_ne, wp_icmp_ne, wp_if_lt, wp_icmp_lt, wp_if_ge, wp_icmp_ge, wp_if_gt, wp_icmp_gt, wp_if_le, wp_icmp_le, wp_ifnull, wp_ifnonnull, wp_acmp_eq, wp_acmp_ne, wp_tableswitch, wp_get0, wp_put0, wp_get1, wp_put1, wp_get2, wp_put2, wp_get3, wp_put3, wp_new, wp_newarray, wp_anewarray, wp_alen, wp_iaload, wp_laload, wp_baload, wp_aaload, wp_iastore, wp_lastore, wp_bastore, wp_aastore, wp_return, wp_ireturnI, wp_ireturnZ, wp_lreturn, wp_areturnO, wp_areturnA, wp_max, wp_min, wp_obj, wp_virt, wp_nil, ld_I0, ld_Is, ld_J0, ld_Js, ld_A0, ld_As, ha_0, ha_s, cx_put1, cx_put2, cx_dl, cx_tgt, true_and, and_true, Nat.reduceAdd, Nat.reduceSub, Int.reduceAdd, Int.reduceNeg, Int.reduceToNat, Int.reduceSub, Int.cast_ofNat_Int, List.take_succ_cons, List.take_zero, List.drop_succ_cons, List.drop_zero, List.take_nil, List.drop_nil, Option.toList_some, Option.toList_none, List.cons_append, List.nil_append, wp_spec, ne_eq, Nat.reduceEqDiff, not_false_eq_true, true_or, or_true]
  exact ⟨⟨hb, hbs⟩, go⟩
theorem jn_p (N : NJ x h1 t o g) {s f w : Nat} {z : Int} (ho : o < 65) (hs : s = 105 + (o + 1)) (hz : z = rz (o + 1)) (hf : (f : Int) = rf (o + 1))
    (go : ∀ g', NJ x h1 t (o + 1) g' → cx_wp ra0 pf mF mO ty J C P r (pc + 3) (some (.inr (.inr (some x))) :: lv) [] g' bc bs) : cx_wp ra0 pf mF mO ty J C P ((.putfield w, 3, 10, f, 3) :: r) pc (some (.inr (.inr (some x))) :: lv) [.inr (.inr (some g.1)), .inr (.inr (some x))] (cq_nw g s z) bc bs := by
  have N' := N.st ho hs hz hf
  have nx : x ≠ g.1 := by have := N.1.1; omega
  have sx : cq_s (cq_nw g s z) x = 10 := (nw_o nx).1.trans N.1.2.1
  simp only [wp_iconst, wp_bipush, wp_sipush, wp_ldc, wp_ldc2_w, wp_lconst0, wp_lconst1, wp_aconst_null, wp_iload_0, wp_istore_0, wp_iload_1, wp_istore_1, wp_iload_2, wp_istore_2, wp_iload_3, wp_istore_3, wp_iload, wp_istore, wp_lload_0, wp_lstore_0, wp_lload_1, wp_lstore_1, wp_lload_2, wp_lstore_2, wp_lload_3, wp_lstore_3, wp_lload, wp_lstore, wp_aload_0, wp_astore_0, wp_aload_1, wp_astore_1, wp_aload_2, wp_astore_2, wp_aload_3, wp_astore_3, wp_aload, wp_astore, wp_iinc, wp_iadd, wp_isub, wp_imul, wp_iand, wp_ior, wp_ixor, wp_ishl, wp_ishr, wp_iushr, wp_irem, wp_ladd, wp_lsub, wp_lmul, wp_land, wp_lor, wp_lxor, wp_lshl, wp_lshr, wp_lushr, wp_lrem, wp_lcmp, wp_i2l, wp_l2i, wp_dupI, wp_dupA, wp_dup2J, wp_dup2IA, wp_popI, wp_popA, wp_pop2, wp_goto, wp_if_eq, wp_icmp_eq, wp_if_ne, wp_icmp_ne, wp_if_lt, wp_icmp_lt, wp_if_ge, wp_icmp_ge, wp_if_gt, wp_icmp_gt, wp_if_le, wp_icmp_le, wp_ifnull, wp_ifnonnull, wp_acmp_eq, wp_acmp_ne, wp_tableswitch, wp_get0, wp_put0, wp_get1, wp_put1, wp_get2, wp_put2, wp_get3, wp_put3, wp_new, wp_newarray, wp_anewarray, wp_alen, wp_iaload, wp_laload, wp_baload, wp_aaload, wp_iastore, wp_lastore, wp_bastore, wp_aastore, wp_return, wp_ireturnI, wp_ireturnZ, wp_lreturn, wp_areturnO, wp_areturnA, wp_max, wp_min, wp_obj, wp_virt, wp_nil, ld_I0, ld_Is, ld_J0, ld_Js, ld_A0, ld_As, ha_0, ha_s, cx_put1, cx_put2, cx_dl, cx_tgt, true_and, and_true, Nat.reduceAdd, Nat.reduceSub, Int.reduceAdd, Int.reduceNeg, Int.reduceToNat, Int.reduceSub, Int.cast_ofNat_Int, List.take_succ_cons, List.take_zero, List.drop_succ_cons, List.drop_zero, List.take_nil, List.drop_nil, Option.toList_some, Option.toList_none, List.cons_append, List.nil_append, wp_spec, ne_eq, Nat.reduceEqDiff, not_false_eq_true, true_or, or_true, sx]
  exact go _ N'
end
theorem d_X11_init0 {Y : cx_Y} (hY : cY Y) {K : Option cx_V → cx_Q → Prop} {x : Nat} {h1 g0 : cx_Q} {a b : Int} (N0 : NJ x h1 0 0 g0) (hK : ∀ g, NJ x h1 1 65 g → cx_wp ra0 pf1 1 12 none (cw Y mi_X11_init K) (cwl Y mi_X11_init K) K [(.aload_n 0, 1, 0, 0, 0), (.iload_n 1, 1, 0, 0, 0), (.iconst 2, 1, 0, 0, 0), (.if_icmp .ge 7, 3, 0, 0, 0), (.iconst 2, 1, 0, 0, 0), (.goto 15, 3, 0, 0, 0)] 574 [some (.inr (.inr (some x))), some (.inl a), some (.inl b), none] [] g 0 0) : cw Y mi_X11_init K 0 [some (.inr (.inr (some x))), some (.inl a), some (.inl b), none] [] g0 65 149752 := by
  refine bx_X11_init_0 hY (pf1_ok hY) ?_
  refine in_0 (by decide) ?_
  refine jn_b N0 (by decide) rfl rfl rfl (by decide) (by decide) fun g1 N1 => ?_
  refine jn_t N1 fun g2 N2 => ?_
  refine jn_s N2 (by decide) rfl rfl rfl (by decide) (by decide) fun g3 N3 => ?_
  refine jn_s N3 (by decide) rfl rfl rfl (by decide) (by decide) fun g4 N4 => ?_
  refine jn_s N4 (by decide) rfl rfl rfl (by decide) (by decide) fun g5 N5 => ?_
  refine jn_s N5 (by decide) rfl rfl rfl (by decide) (by decide) fun g6 N6 => ?_
  refine jn_s N6 (by decide) rfl rfl rfl (by decide) (by decide) fun g7 N7 => ?_
  refine jn_s N7 (by decide) rfl rfl rfl (by decide) (by decide) fun g8 N8 => ?_
  refine jn_s N8 (by decide) rfl rfl rfl (by decide) (by decide) fun g9 N9 => ?_
  refine jn_s N9 (by decide) rfl rfl rfl (by decide) (by decide) fun g10 N10 => ?_
  refine jn_s N10 (by decide) rfl rfl rfl (by decide) (by decide) fun g11 N11 => ?_
  refine jn_b N11 (by decide) rfl rfl rfl (by decide) (by decide) fun g12 N12 => ?_
  refine jn_b N12 (by decide) rfl rfl rfl (by decide) (by decide) fun g13 N13 => ?_
  refine jn_b N13 (by decide) rfl rfl rfl (by decide) (by decide) fun g14 N14 => ?_
  refine jn_b N14 (by decide) rfl rfl rfl (by decide) (by decide) fun g15 N15 => ?_
  refine jn_b N15 (by decide) rfl rfl rfl (by decide) (by decide) fun g16 N16 => ?_
  refine jn_b N16 (by decide) rfl rfl rfl (by decide) (by decide) fun g17 N17 => ?_
  refine jn_b N17 (by decide) rfl rfl rfl (by decide) (by decide) fun g18 N18 => ?_
  refine jn_b N18 (by decide) rfl rfl rfl (by decide) (by decide) fun g19 N19 => ?_
  refine jn_b N19 (by decide) rfl rfl rfl (by decide) (by decide) fun g20 N20 => ?_
  refine jn_b N20 (by decide) rfl rfl rfl (by decide) (by decide) fun g21 N21 => ?_
  refine jn_b N21 (by decide) rfl rfl rfl (by decide) (by decide) fun g22 N22 => ?_
  refine jn_b N22 (by decide) rfl rfl rfl (by decide) (by decide) fun g23 N23 => ?_
  refine jn_b N23 (by decide) rfl rfl rfl (by decide) (by decide) fun g24 N24 => ?_
  refine jn_m N24 (by decide) (by decide) ?_
  refine bx_X11_init_208 hY (pf1_ok hY) ?_
  refine jn_p N24 (by decide) rfl rfl rfl fun g25 N25 => ?_
  refine jn_s N25 (by decide) rfl rfl rfl (by decide) (by decide) fun g26 N26 => ?_
  refine jn_s N26 (by decide) rfl rfl rfl (by decide) (by decide) fun g27 N27 => ?_
  refine jn_s N27 (by decide) rfl rfl rfl (by decide) (by decide) fun g28 N28 => ?_
  refine jn_s N28 (by decide) rfl rfl rfl (by decide) (by decide) fun g29 N29 => ?_
  refine jn_s N29 (by decide) rfl rfl rfl (by decide) (by decide) fun g30 N30 => ?_
  refine jn_b N30 (by decide) rfl rfl rfl (by decide) (by decide) fun g31 N31 => ?_
  refine jn_s N31 (by decide) rfl rfl rfl (by decide) (by decide) fun g32 N32 => ?_
  refine jn_s N32 (by decide) rfl rfl rfl (by decide) (by decide) fun g33 N33 => ?_
  refine jn_s N33 (by decide) rfl rfl rfl (by decide) (by decide) fun g34 N34 => ?_
  refine jn_s N34 (by decide) rfl rfl rfl (by decide) (by decide) fun g35 N35 => ?_
  refine jn_s N35 (by decide) rfl rfl rfl (by decide) (by decide) fun g36 N36 => ?_
  refine jn_s N36 (by decide) rfl rfl rfl (by decide) (by decide) fun g37 N37 => ?_
  refine jn_s N37 (by decide) rfl rfl rfl (by decide) (by decide) fun g38 N38 => ?_
  refine jn_s N38 (by decide) rfl rfl rfl (by decide) (by decide) fun g39 N39 => ?_
  refine jn_s N39 (by decide) rfl rfl rfl (by decide) (by decide) fun g40 N40 => ?_
  refine jn_s N40 (by decide) rfl rfl rfl (by decide) (by decide) fun g41 N41 => ?_
  refine jn_s N41 (by decide) rfl rfl rfl (by decide) (by decide) fun g42 N42 => ?_
  refine jn_s N42 (by decide) rfl rfl rfl (by decide) (by decide) fun g43 N43 => ?_
  refine jn_s N43 (by decide) rfl rfl rfl (by decide) (by decide) fun g44 N44 => ?_
  refine jn_s N44 (by decide) rfl rfl rfl (by decide) (by decide) fun g45 N45 => ?_
  refine jn_s N45 (by decide) rfl rfl rfl (by decide) (by decide) fun g46 N46 => ?_
  refine jn_s N46 (by decide) rfl rfl rfl (by decide) (by decide) fun g47 N47 => ?_
  refine jn_s N47 (by decide) rfl rfl rfl (by decide) (by decide) fun g48 N48 => ?_
  refine jn_s N48 (by decide) rfl rfl rfl (by decide) (by decide) fun g49 N49 => ?_
  refine jn_m N49 (by decide) (by decide) ?_
  refine bx_X11_init_432 hY (pf1_ok hY) ?_
  refine jn_p N49 (by decide) rfl rfl rfl fun g50 N50 => ?_
  refine jn_s N50 (by decide) rfl rfl rfl (by decide) (by decide) fun g51 N51 => ?_
  refine jn_s N51 (by decide) rfl rfl rfl (by decide) (by decide) fun g52 N52 => ?_
  refine jn_s N52 (by decide) rfl rfl rfl (by decide) (by decide) fun g53 N53 => ?_
  refine jn_s N53 (by decide) rfl rfl rfl (by decide) (by decide) fun g54 N54 => ?_
  refine jn_s N54 (by decide) rfl rfl rfl (by decide) (by decide) fun g55 N55 => ?_
  refine jn_s N55 (by decide) rfl rfl rfl (by decide) (by decide) fun g56 N56 => ?_
  refine jn_s N56 (by decide) rfl rfl rfl (by decide) (by decide) fun g57 N57 => ?_
  refine jn_s N57 (by decide) rfl rfl rfl (by decide) (by decide) fun g58 N58 => ?_
  refine jn_b N58 (by decide) rfl rfl rfl (by decide) (by decide) fun g59 N59 => ?_
  refine jn_s N59 (by decide) rfl rfl rfl (by decide) (by decide) fun g60 N60 => ?_
  refine jn_s N60 (by decide) rfl rfl rfl (by decide) (by decide) fun g61 N61 => ?_
  refine jn_b N61 (by decide) rfl rfl rfl (by decide) (by decide) fun g62 N62 => ?_
  refine jn_s N62 (by decide) rfl rfl rfl (by decide) (by decide) fun g63 N63 => ?_
  refine jn_b N63 (by decide) rfl rfl rfl (by decide) (by decide) fun g64 N64 => ?_
  refine jn_b N64 (by decide) rfl rfl rfl (by decide) (by decide) fun g65 N65 => ?_
  refine jn_b N65 (by decide) rfl rfl rfl (by decide) (by decide) fun g66 N66 => ?_
  exact hK _ N66
/-- all of it as it is made: b the seed -/
def ZR (x : Nat) (n b i : Int) (g : cx_Q) : Prop := (∀ j, cq_I g x j = if j = 0 then n else if j = 2 then 1 else 0) ∧ (∀ o j, 1 ≤ o → o ≤ 65 → cq_I g (x + o) j = 0) ∧ (∀ o j, 2 ≤ o → o ≤ 65 → cq_J g (x + o) j = 0) ∧ (∀ u, 0 ≤ u → u < i → cq_J g (x + 1) u = Int64.ofInt b + Int64.ofInt u)
theorem ZR.x_ {x : Nat} {n b i : Int} {g : cx_Q} (F_ : ZR x n b i g) : ∀ j, cq_I g x j = if j = 0 then n else if j = 2 then 1 else 0 := F_.1
theorem ZR.I_ {x : Nat} {n b i : Int} {g : cx_Q} (F_ : ZR x n b i g) : ∀ o j, 1 ≤ o → o ≤ 65 → cq_I g (x + o) j = 0 := F_.2.1
theorem ZR.J_ {x : Nat} {n b i : Int} {g : cx_Q} (F_ : ZR x n b i g) : ∀ o j, 2 ≤ o → o ≤ 65 → cq_J g (x + o) j = 0 := F_.2.2.1
theorem ZR.sd {x : Nat} {n b i : Int} {g : cx_Q} (F_ : ZR x n b i g) : ∀ u, 0 ≤ u → u < i → cq_J g (x + 1) u = Int64.ofInt b + Int64.ofInt u := F_.2.2.2
theorem d_X11_init {Y : cx_Y} (hY : cY Y) {K : Option cx_V → cx_Q → Prop} {x : Nat} {h1 g0 : cx_Q} {a b : Int} (N0 : NJ x h1 0 0 g0) (hK : ∀ h0 g, RI x (cn a) 0 (fun _ => 0) (fun _ => 0) 0 h0 g → aL x h1 g → ZR x (cn a) b 6 g → K none g) : cw Y mi_X11_init K 0 [some (.inr (.inr (some x))), some (.inl a), some (.inl b), none] [] g0 65 149752 := by
  refine d_X11_init0 hY N0 ?_
  intro g N
  have loop : ∀ (c : Nat) (i : Int) (h0 h : cx_Q), 0 ≤ i → i + c = 6 → RI x (cn a) 0 (fun _ => 0) (fun _ => 0) 0 h0 h → aL x h1 h → ZR x (cn a) b i h → cw Y mi_X11_init K 601 [some (.inr (.inr (some x))), some (.inl a), some (.inl b), some (.inl i)] [] h 0 0 := by
    intro c
    induction c with
    | zero =>
      intro i h0 h q1 q2 R A Zr
      have hS := R.1.rS
      have e6 : i = 6 := by omega
      rw [e6] at Zr
      refine bx_X11_init_601 hY (pf1_ok hY) ?_
      simp only [wp_iconst, wp_bipush, wp_sipush, wp_ldc, wp_ldc2_w, wp_lconst0, wp_lconst1, wp_aconst_null, wp_iload_0, wp_istore_0, wp_iload_1, wp_istore_1, wp_iload_2, wp_istore_2, wp_iload_3, wp_istore_3, wp_iload, wp_istore, wp_lload_0, wp_lstore_0, wp_lload_1, wp_lstore_1, wp_lload_2, wp_lstore_2, wp_lload_3, wp_lstore_3, wp_lload, wp_lstore, wp_aload_0, wp_astore_0, wp_aload_1, wp_astore_1, wp_aload_2, wp_astore_2, wp_aload_3, wp_astore_3, wp_aload, wp_astore, wp_iinc, wp_iadd, wp_isub, wp_imul, wp_iand, wp_ior, wp_ixor, wp_ishl, wp_ishr, wp_iushr, wp_irem, wp_ladd, wp_lsub, wp_lmul, wp_land, wp_lor, wp_lxor, wp_lshl, wp_lshr, wp_lushr, wp_lrem, wp_lcmp, wp_i2l, wp_l2i, wp_dupI, wp_dupA, wp_dup2J, wp_dup2IA, wp_popI, wp_popA, wp_pop2, wp_goto, wp_if_eq, wp_icmp_eq, wp_if_ne, wp_icmp_ne, wp_if_lt, wp_icmp_lt, wp_if_ge, wp_icmp_ge, wp_if_gt, wp_icmp_gt, wp_if_le, wp_icmp_le, wp_ifnull, wp_ifnonnull, wp_acmp_eq, wp_acmp_ne, wp_tableswitch, wp_get0, wp_put0, wp_get1, wp_put1, wp_get2, wp_put2, wp_get3, wp_put3, wp_new, wp_newarray, wp_anewarray, wp_alen, wp_iaload, wp_laload, wp_baload, wp_aaload, wp_iastore, wp_lastore, wp_bastore, wp_aastore, wp_return, wp_ireturnI, wp_ireturnZ, wp_lreturn, wp_areturnO, wp_areturnA, wp_max, wp_min, wp_obj, wp_virt, wp_nil, ld_I0, ld_Is, ld_J0, ld_Js, ld_A0, ld_As, ha_0, ha_s, cx_put1, cx_put2, cx_dl, cx_tgt, true_and, and_true, Nat.reduceAdd, Nat.reduceSub, Int.reduceAdd, Int.reduceNeg, Int.reduceToNat, Int.reduceSub, Int.cast_ofNat_Int, List.take_succ_cons, List.take_zero, List.drop_succ_cons, List.drop_zero, List.take_nil, List.drop_nil, Option.toList_some, Option.toList_none, List.cons_append, List.nil_append, wp_spec, ne_eq, Nat.reduceEqDiff, not_false_eq_true, true_or, or_true, rA_seeds hS, rs_seeds hS, rz_seeds hS, ra_106, (hS).1]
      refine ⟨fun _ => ?_, fun w => absurd w (by omega)⟩
      refine bx_X11_init_624 hY (pf1_ok hY) ?_
      simp only [wp_iconst, wp_bipush, wp_sipush, wp_ldc, wp_ldc2_w, wp_lconst0, wp_lconst1, wp_aconst_null, wp_iload_0, wp_istore_0, wp_iload_1, wp_istore_1, wp_iload_2, wp_istore_2, wp_iload_3, wp_istore_3, wp_iload, wp_istore, wp_lload_0, wp_lstore_0, wp_lload_1, wp_lstore_1, wp_lload_2, wp_lstore_2, wp_lload_3, wp_lstore_3, wp_lload, wp_lstore, wp_aload_0, wp_astore_0, wp_aload_1, wp_astore_1, wp_aload_2, wp_astore_2, wp_aload_3, wp_astore_3, wp_aload, wp_astore, wp_iinc, wp_iadd, wp_isub, wp_imul, wp_iand, wp_ior, wp_ixor, wp_ishl, wp_ishr, wp_iushr, wp_irem, wp_ladd, wp_lsub, wp_lmul, wp_land, wp_lor, wp_lxor, wp_lshl, wp_lshr, wp_lushr, wp_lrem, wp_lcmp, wp_i2l, wp_l2i, wp_dupI, wp_dupA, wp_dup2J, wp_dup2IA, wp_popI, wp_popA, wp_pop2, wp_goto, wp_if_eq, wp_icmp_eq, wp_if_ne, wp_icmp_ne, wp_if_lt, wp_icmp_lt, wp_if_ge, wp_icmp_ge, wp_if_gt, wp_icmp_gt, wp_if_le, wp_icmp_le, wp_ifnull, wp_ifnonnull, wp_acmp_eq, wp_acmp_ne, wp_tableswitch, wp_get0, wp_put0, wp_get1, wp_put1, wp_get2, wp_put2, wp_get3, wp_put3, wp_new, wp_newarray, wp_anewarray, wp_alen, wp_iaload, wp_laload, wp_baload, wp_aaload, wp_iastore, wp_lastore, wp_bastore, wp_aastore, wp_return, wp_ireturnI, wp_ireturnZ, wp_lreturn, wp_areturnO, wp_areturnA, wp_max, wp_min, wp_obj, wp_virt, wp_nil, ld_I0, ld_Is, ld_J0, ld_Js, ld_A0, ld_As, ha_0, ha_s, cx_put1, cx_put2, cx_dl, cx_tgt, true_and, and_true, Nat.reduceAdd, Nat.reduceSub, Int.reduceAdd, Int.reduceNeg, Int.reduceToNat, Int.reduceSub, Int.cast_ofNat_Int, List.take_succ_cons, List.take_zero, List.drop_succ_cons, List.drop_zero, List.take_nil, List.drop_nil, Option.toList_some, Option.toList_none, List.cons_append, List.nil_append, wp_spec, ne_eq, Nat.reduceEqDiff, not_false_eq_true, true_or, or_true]
      exact hK _ _ R A Zr
    | succ c ih =>
      intro i h0 h q1 q2 R A Zr
      have hS := R.1.rS
      refine bx_X11_init_601 hY (pf1_ok hY) ?_
      simp only [wp_iconst, wp_bipush, wp_sipush, wp_ldc, wp_ldc2_w, wp_lconst0, wp_lconst1, wp_aconst_null, wp_iload_0, wp_istore_0, wp_iload_1, wp_istore_1, wp_iload_2, wp_istore_2, wp_iload_3, wp_istore_3, wp_iload, wp_istore, wp_lload_0, wp_lstore_0, wp_lload_1, wp_lstore_1, wp_lload_2, wp_lstore_2, wp_lload_3, wp_lstore_3, wp_lload, wp_lstore, wp_aload_0, wp_astore_0, wp_aload_1, wp_astore_1, wp_aload_2, wp_astore_2, wp_aload_3, wp_astore_3, wp_aload, wp_astore, wp_iinc, wp_iadd, wp_isub, wp_imul, wp_iand, wp_ior, wp_ixor, wp_ishl, wp_ishr, wp_iushr, wp_irem, wp_ladd, wp_lsub, wp_lmul, wp_land, wp_lor, wp_lxor, wp_lshl, wp_lshr, wp_lushr, wp_lrem, wp_lcmp, wp_i2l, wp_l2i, wp_dupI, wp_dupA, wp_dup2J, wp_dup2IA, wp_popI, wp_popA, wp_pop2, wp_goto, wp_if_eq, wp_icmp_eq, wp_if_ne, wp_icmp_ne, wp_if_lt, wp_icmp_lt, wp_if_ge, wp_icmp_ge, wp_if_gt, wp_icmp_gt, wp_if_le, wp_icmp_le, wp_ifnull, wp_ifnonnull, wp_acmp_eq, wp_acmp_ne, wp_tableswitch, wp_get0, wp_put0, wp_get1, wp_put1, wp_get2, wp_put2, wp_get3, wp_put3, wp_new, wp_newarray, wp_anewarray, wp_alen, wp_iaload, wp_laload, wp_baload, wp_aaload, wp_iastore, wp_lastore, wp_bastore, wp_aastore, wp_return, wp_ireturnI, wp_ireturnZ, wp_lreturn, wp_areturnO, wp_areturnA, wp_max, wp_min, wp_obj, wp_virt, wp_nil, ld_I0, ld_Is, ld_J0, ld_Js, ld_A0, ld_As, ha_0, ha_s, cx_put1, cx_put2, cx_dl, cx_tgt, true_and, and_true, Nat.reduceAdd, Nat.reduceSub, Int.reduceAdd, Int.reduceNeg, Int.reduceToNat, Int.reduceSub, Int.cast_ofNat_Int, List.take_succ_cons, List.take_zero, List.drop_succ_cons, List.drop_zero, List.take_nil, List.drop_nil, Option.toList_some, Option.toList_none, List.cons_append, List.nil_append, wp_spec, ne_eq, Nat.reduceEqDiff, not_false_eq_true, true_or, or_true, rA_seeds hS, rs_seeds hS, rz_seeds hS, ra_106, (hS).1, cx_rg]
      refine ⟨fun w => absurd w (by omega), fun _ => ?_⟩
      (repeat' (with_reducible (first | refine And.intro ?_ ?_ | intro _)))
      all_goals (try omega)
      refine ih (i + 1) h0 _ (by omega) (by omega) ⟨R.1.sJ (by decide), TZ.sJ R.2⟩ ⟨A.1, fun a ha => ⟨(A.2.1 a ha).1, (A.2.1 a ha).2.1, (A.2.1 a ha).2.2.1, ?_, (A.2.1 a ha).2.2.2.2⟩, A.2.2⟩ ⟨Zr.x_, Zr.I_, fun o j w1 w2 => ?_, fun u w1 w2 => ?_⟩
      · rw [← (A.2.1 a ha).2.2.2.1]
        funext j
        rw [mm_sJ, if_neg (fun e => by omega)]
      · rw [mm_sJ, if_neg (fun e => by omega)]
        exact Zr.J_ o j w1 w2
      · rw [mm_sJ]
        by_cases e : u = i
        · rw [if_pos ⟨rfl, e⟩, e]
        · rw [if_neg (fun z => e z.2)]
          exact Zr.sd u w1 (by omega)
  have Z0 : ZR x (cn a) b 0 (cq_sI g x 0 (cn a)) := by
    obtain ⟨⟨n1, n2, n3, n4, n5, n6, n7⟩, n8⟩ := N
    refine ⟨fun j => ?_, fun o j w1 w2 => ?_, fun o j w1 w2 => ?_, fun u w1 w2 => absurd w1 (by omega)⟩
    · rw [mm_sI, n6]
      simp only [true_and]
    · rw [mm_sI, if_neg (fun e => by omega), n5 (x + o) (by omega) (by omega)]
    · rw [mm_JI, n8 (x + o) (by omega) (by omega)]
  have j596 : cw Y mi_X11_init K 596 [some (.inr (.inr (some x))), some (.inl a), some (.inl b), none] [.inl (cn a), .inr (.inr (some x))] g 0 0 := by
    refine bx_X11_init_596 hY (pf1_ok hY) ?_
    simp only [wp_iconst, wp_bipush, wp_sipush, wp_ldc, wp_ldc2_w, wp_lconst0, wp_lconst1, wp_aconst_null, wp_iload_0, wp_istore_0, wp_iload_1, wp_istore_1, wp_iload_2, wp_istore_2, wp_iload_3, wp_istore_3, wp_iload, wp_istore, wp_lload_0, wp_lstore_0, wp_lload_1, wp_lstore_1, wp_lload_2, wp_lstore_2, wp_lload_3, wp_lstore_3, wp_lload, wp_lstore, wp_aload_0, wp_astore_0, wp_aload_1, wp_astore_1, wp_aload_2, wp_astore_2, wp_aload_3, wp_astore_3, wp_aload, wp_astore, wp_iinc, wp_iadd, wp_isub, wp_imul, wp_iand, wp_ior, wp_ixor, wp_ishl, wp_ishr, wp_iushr, wp_irem, wp_ladd, wp_lsub, wp_lmul, wp_land, wp_lor, wp_lxor, wp_lshl, wp_lshr, wp_lushr, wp_lrem, wp_lcmp, wp_i2l, wp_l2i, wp_dupI, wp_dupA, wp_dup2J, wp_dup2IA, wp_popI, wp_popA, wp_pop2, wp_goto, wp_if_eq, wp_icmp_eq, wp_if_ne, wp_icmp_ne, wp_if_lt, wp_icmp_lt, wp_if_ge, wp_icmp_ge, wp_if_gt, wp_icmp_gt, wp_if_le, wp_icmp_le, wp_ifnull, wp_ifnonnull, wp_acmp_eq, wp_acmp_ne, wp_tableswitch, wp_get0, wp_put0, wp_get1, wp_put1, wp_get2, wp_put2, wp_get3, wp_put3, wp_new, wp_newarray, wp_anewarray, wp_alen, wp_iaload, wp_laload, wp_baload, wp_aaload, wp_iastore, wp_lastore, wp_bastore, wp_aastore, wp_return, wp_ireturnI, wp_ireturnZ, wp_lreturn, wp_areturnO, wp_areturnA, wp_max, wp_min, wp_obj, wp_virt, wp_nil, ld_I0, ld_Is, ld_J0, ld_Js, ld_A0, ld_As, ha_0, ha_s, cx_put1, cx_put2, cx_dl, cx_tgt, true_and, and_true, Nat.reduceAdd, Nat.reduceSub, Int.reduceAdd, Int.reduceNeg, Int.reduceToNat, Int.reduceSub, Int.cast_ofNat_Int, List.take_succ_cons, List.take_zero, List.drop_succ_cons, List.drop_zero, List.take_nil, List.drop_nil, Option.toList_some, Option.toList_none, List.cons_append, List.nil_append, wp_spec, ne_eq, Nat.reduceEqDiff, not_false_eq_true, true_or, or_true, N.1.2.1]
    exact loop 6 0 _ _ (by decide) (by decide) (NI.RI N.1).1 (NI.RI N.1).2 Z0
  simp only [wp_iconst, wp_bipush, wp_sipush, wp_ldc, wp_ldc2_w, wp_lconst0, wp_lconst1, wp_aconst_null, wp_iload_0, wp_istore_0, wp_iload_1, wp_istore_1, wp_iload_2, wp_istore_2, wp_iload_3, wp_istore_3, wp_iload, wp_istore, wp_lload_0, wp_lstore_0, wp_lload_1, wp_lstore_1, wp_lload_2, wp_lstore_2, wp_lload_3, wp_lstore_3, wp_lload, wp_lstore, wp_aload_0, wp_astore_0, wp_aload_1, wp_astore_1, wp_aload_2, wp_astore_2, wp_aload_3, wp_astore_3, wp_aload, wp_astore, wp_iinc, wp_iadd, wp_isub, wp_imul, wp_iand, wp_ior, wp_ixor, wp_ishl, wp_ishr, wp_iushr, wp_irem, wp_ladd, wp_lsub, wp_lmul, wp_land, wp_lor, wp_lxor, wp_lshl, wp_lshr, wp_lushr, wp_lrem, wp_lcmp, wp_i2l, wp_l2i, wp_dupI, wp_dupA, wp_dup2J, wp_dup2IA, wp_popI, wp_popA, wp_pop2, wp_goto, wp_if_eq, wp_icmp_eq, wp_if_ne, wp_icmp_ne, wp_if_lt, wp_icmp_lt, wp_if_ge, wp_icmp_ge, wp_if_gt, wp_icmp_gt, wp_if_le, wp_icmp_le, wp_ifnull, wp_ifnonnull, wp_acmp_eq, wp_acmp_ne, wp_tableswitch, wp_get0, wp_put0, wp_get1, wp_put1, wp_get2, wp_put2, wp_get3, wp_put3, wp_new, wp_newarray, wp_anewarray, wp_alen, wp_iaload, wp_laload, wp_baload, wp_aaload, wp_iastore, wp_lastore, wp_bastore, wp_aastore, wp_return, wp_ireturnI, wp_ireturnZ, wp_lreturn, wp_areturnO, wp_areturnA, wp_max, wp_min, wp_obj, wp_virt, wp_nil, ld_I0, ld_Is, ld_J0, ld_Js, ld_A0, ld_As, ha_0, ha_s, cx_put1, cx_put2, cx_dl, cx_tgt, true_and, and_true, Nat.reduceAdd, Nat.reduceSub, Int.reduceAdd, Int.reduceNeg, Int.reduceToNat, Int.reduceSub, Int.cast_ofNat_Int, List.take_succ_cons, List.take_zero, List.drop_succ_cons, List.drop_zero, List.take_nil, List.drop_nil, Option.toList_some, Option.toList_none, List.cons_append, List.nil_append, wp_spec, ne_eq, Nat.reduceEqDiff, not_false_eq_true, true_or, or_true]
  refine ⟨fun q => ?_, fun q => ?_⟩
  · refine bx_X11_init_584 hY (pf1_ok hY) ?_
    simp only [wp_iconst, wp_bipush, wp_sipush, wp_ldc, wp_ldc2_w, wp_lconst0, wp_lconst1, wp_aconst_null, wp_iload_0, wp_istore_0, wp_iload_1, wp_istore_1, wp_iload_2, wp_istore_2, wp_iload_3, wp_istore_3, wp_iload, wp_istore, wp_lload_0, wp_lstore_0, wp_lload_1, wp_lstore_1, wp_lload_2, wp_lstore_2, wp_lload_3, wp_lstore_3, wp_lload, wp_lstore, wp_aload_0, wp_astore_0, wp_aload_1, wp_astore_1, wp_aload_2, wp_astore_2, wp_aload_3, wp_astore_3, wp_aload, wp_astore, wp_iinc, wp_iadd, wp_isub, wp_imul, wp_iand, wp_ior, wp_ixor, wp_ishl, wp_ishr, wp_iushr, wp_irem, wp_ladd, wp_lsub, wp_lmul, wp_land, wp_lor, wp_lxor, wp_lshl, wp_lshr, wp_lushr, wp_lrem, wp_lcmp, wp_i2l, wp_l2i, wp_dupI, wp_dupA, wp_dup2J, wp_dup2IA, wp_popI, wp_popA, wp_pop2, wp_goto, wp_if_eq, wp_icmp_eq, wp_if_ne, wp_icmp_ne, wp_if_lt, wp_icmp_lt, wp_if_ge, wp_icmp_ge, wp_if_gt, wp_icmp_gt, wp_if_le, wp_icmp_le, wp_ifnull, wp_ifnonnull, wp_acmp_eq, wp_acmp_ne, wp_tableswitch, wp_get0, wp_put0, wp_get1, wp_put1, wp_get2, wp_put2, wp_get3, wp_put3, wp_new, wp_newarray, wp_anewarray, wp_alen, wp_iaload, wp_laload, wp_baload, wp_aaload, wp_iastore, wp_lastore, wp_bastore, wp_aastore, wp_return, wp_ireturnI, wp_ireturnZ, wp_lreturn, wp_areturnO, wp_areturnA, wp_max, wp_min, wp_obj, wp_virt, wp_nil, ld_I0, ld_Is, ld_J0, ld_Js, ld_A0, ld_As, ha_0, ha_s, cx_put1, cx_put2, cx_dl, cx_tgt, true_and, and_true, Nat.reduceAdd, Nat.reduceSub, Int.reduceAdd, Int.reduceNeg, Int.reduceToNat, Int.reduceSub, Int.cast_ofNat_Int, List.take_succ_cons, List.take_zero, List.drop_succ_cons, List.drop_zero, List.take_nil, List.drop_nil, Option.toList_some, Option.toList_none, List.cons_append, List.nil_append, wp_spec, ne_eq, Nat.reduceEqDiff, not_false_eq_true, true_or, or_true]
    refine ⟨fun q2 => ?_, fun q2 => ?_⟩
    · refine bx_X11_init_595 hY (pf1_ok hY) ?_
      simp only [wp_iconst, wp_bipush, wp_sipush, wp_ldc, wp_ldc2_w, wp_lconst0, wp_lconst1, wp_aconst_null, wp_iload_0, wp_istore_0, wp_iload_1, wp_istore_1, wp_iload_2, wp_istore_2, wp_iload_3, wp_istore_3, wp_iload, wp_istore, wp_lload_0, wp_lstore_0, wp_lload_1, wp_lstore_1, wp_lload_2, wp_lstore_2, wp_lload_3, wp_lstore_3, wp_lload, wp_lstore, wp_aload_0, wp_astore_0, wp_aload_1, wp_astore_1, wp_aload_2, wp_astore_2, wp_aload_3, wp_astore_3, wp_aload, wp_astore, wp_iinc, wp_iadd, wp_isub, wp_imul, wp_iand, wp_ior, wp_ixor, wp_ishl, wp_ishr, wp_iushr, wp_irem, wp_ladd, wp_lsub, wp_lmul, wp_land, wp_lor, wp_lxor, wp_lshl, wp_lshr, wp_lushr, wp_lrem, wp_lcmp, wp_i2l, wp_l2i, wp_dupI, wp_dupA, wp_dup2J, wp_dup2IA, wp_popI, wp_popA, wp_pop2, wp_goto, wp_if_eq, wp_icmp_eq, wp_if_ne, wp_icmp_ne, wp_if_lt, wp_icmp_lt, wp_if_ge, wp_icmp_ge, wp_if_gt, wp_icmp_gt, wp_if_le, wp_icmp_le, wp_ifnull, wp_ifnonnull, wp_acmp_eq, wp_acmp_ne, wp_tableswitch, wp_get0, wp_put0, wp_get1, wp_put1, wp_get2, wp_put2, wp_get3, wp_put3, wp_new, wp_newarray, wp_anewarray, wp_alen, wp_iaload, wp_laload, wp_baload, wp_aaload, wp_iastore, wp_lastore, wp_bastore, wp_aastore, wp_return, wp_ireturnI, wp_ireturnZ, wp_lreturn, wp_areturnO, wp_areturnA, wp_max, wp_min, wp_obj, wp_virt, wp_nil, ld_I0, ld_Is, ld_J0, ld_Js, ld_A0, ld_As, ha_0, ha_s, cx_put1, cx_put2, cx_dl, cx_tgt, true_and, and_true, Nat.reduceAdd, Nat.reduceSub, Int.reduceAdd, Int.reduceNeg, Int.reduceToNat, Int.reduceSub, Int.cast_ofNat_Int, List.take_succ_cons, List.take_zero, List.drop_succ_cons, List.drop_zero, List.take_nil, List.drop_nil, Option.toList_some, Option.toList_none, List.cons_append, List.nil_append, wp_spec, ne_eq, Nat.reduceEqDiff, not_false_eq_true, true_or, or_true]
      have : cn a = a := by unfold cn; rw [if_neg (by omega), if_pos (by omega)]
      rw [this] at j596
      exact j596
    · have : cn a = 6 := by unfold cn; rw [if_neg (by omega), if_neg (by omega)]
      rw [this] at j596
      exact j596
  · have : cn a = 2 := by unfold cn; rw [if_pos (by omega)]
    rw [this] at j596
    exact j596
