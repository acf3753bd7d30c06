/-! the reference is made -/
/-- o of its arrays were made; its own field 2 is t, its other ints are 0; all ints of its arrays are 0 -/
def NI (x : Nat) (h1 : cx_Q) (t : Int) (o : Nat) (g : cx_Q) : Prop := g.1 = x + 1 + o ∧ cq_s g x = 10 ∧ (∀ q, 1 ≤ q → q ≤ o → cq_A g x (rf q) = some (x + q) ∧ cq_s g (x + q) = 105 + q ∧ cq_z g (x + q) = rz q) ∧ (∀ a, a < x → cq_s g a = cq_s h1 a ∧ cq_z g a = cq_z h1 a ∧ cq_I g a = cq_I h1 a ∧ cq_J g a = cq_J h1 a ∧ cq_A g a = cq_A h1 a) ∧ (∀ a, x < a → a < g.1 → cq_I g a = fun _ => 0) ∧ (cq_I g x = fun j => if j = 2 then t else 0) ∧ (∀ a, g.1 ≤ a → cq_s g a = 99)
theorem rf_inj : ∀ q ≤ 65, ∀ o ≤ 65, 1 ≤ q → q ≠ o → rf q ≠ rf o := by decide
section
variable {x : Nat} {h1 g : cx_Q} {t : Int} {o : Nat}
theorem NI.st (N : NI x h1 t o g) (ho : o < 65) {s : Nat} {z f : Int} (hs : s = 105 + (o + 1)) (hz : z = rz (o + 1)) (hf : f = rf (o + 1)) : NI x h1 t (o + 1) (cq_sA (cq_nw g s z) x f (some g.1)) := by
  obtain ⟨n1, n2, n3, n4, n5, n6, n7⟩ := N
  have nx : x ≠ g.1 := by omega
  refine ⟨?_, ?_, fun q q1 q2 => ?_, fun a ha => ?_, fun a ha hb => ?_, ?_, fun a ha => ?_⟩
  · show g.1 + 1 = _
    omega
  · show cq_s (cq_nw g s z) x = 10
    rw [(nw_o nx).1]
    exact n2
  · show (cq_A (cq_sA (cq_nw g s z) x f (some g.1)) x (rf q) = _ ∧ cq_s (cq_nw g s z) (x + q) = _ ∧ cq_z (cq_nw g s z) (x + q) = _)
    by_cases w : q = o + 1
    · have e : x + q = g.1 := by omega
      rw [e, nw_n.1, nw_n.2.1, mm_sA, w, ← hf, if_pos ⟨rfl, rfl⟩]
      exact ⟨rfl, hs, hz⟩
    · have e : x + q ≠ g.1 := by omega
      rw [(nw_o e).1, (nw_o e).2.1, mm_sA, if_neg (fun k => rf_inj q (by omega) (o + 1) (by omega) q1 w (hf ▸ k.2)), (nw_o nx).2.2.2.2]
      exact n3 q q1 (by omega)
  · have e : a ≠ g.1 := by omega
    have := nw_o (h := g) (s := s) (z := z) e
    refine ⟨this.1.trans (n4 a ha).1, this.2.1.trans (n4 a ha).2.1, this.2.2.1.trans (n4 a ha).2.2.1, this.2.2.2.1.trans (n4 a ha).2.2.2.1, ?_⟩
    rw [← (n4 a ha).2.2.2.2, ← this.2.2.2.2]
    funext r
    rw [mm_sA, if_neg (fun k => by omega)]
  · show cq_I (cq_nw g s z) a = _
    have hb : a < g.1 + 1 := hb
    by_cases e : a = g.1
    · rw [e, nw_n.2.2.1]
    · rw [(nw_o e).2.2.1]
      exact n5 a ha (by omega)
  · show cq_I (cq_nw g s z) x = _
    rw [(nw_o nx).2.2.1]
    exact n6
  · have ha : g.1 + 1 ≤ a := ha
    show cq_s (cq_nw g s z) a = 99
    rw [(nw_o (by omega)).1]
    exact n7 a (by omega)
variable {pf : cx_Pf} {mF mO : Nat} {ty : Option FieldType} {J : cx_J} {C : cx_Cl} {P : Option cx_V → cx_Q → Prop} {r : List ev_E} {pc : Nat} {lv : cx_L} {bc bs : Nat}
theorem in_b (N : NI x h1 t o g) {k : ArrayType} {u s f w : Nat} {z : Int} (ho : o < 65) (hs : s = 105 + (o + 1)) (hz : z = rz (o + 1)) (hf : (f : Int) = rf (o + 1)) (hb : 1 ≤ bc) (hbs : 0 ≤ z ∧ z ≤ 60000 ∧ z ≤ (bs : Int))
    (go : ∀ g', NI x h1 t (o + 1) g' → cx_wp ra0 pf mF mO ty J C P r (pc + 1 + 2 + 2 + 3) (some (.inr (.inr (some x))) :: lv) [] g' (bc - 1) (bs - z.toNat)) : cx_wp ra0 pf mF mO ty J C P ((.aload_n 0, 1, 0, 0, 0) :: (.bipush z, 2, 0, 0, 0) :: (.newarray k, 2, u, s, 0) :: (.putfield w, 3, 10, f, 3) :: r) pc (some (.inr (.inr (some x))) :: lv) [] g bc bs := by
  have N' := N.st ho hs hz hf
  have nx : x ≠ g.1 := by have := N.1; omega
  have sx : cq_s (cq_nw g s z) x = 10 := (nw_o nx).1.trans N.2.1
  simp only [wp_iconst, wp_bipush, wp_sipush, wp_ldc, wp_ldc2_w, wp_lconst0, wp_lconst1, wp_aconst_null, wp_iload_0, wp_istore_0, wp_iload_1, wp_istore_1, wp_iload_2, wp_istore_2, wp_iload_3, wp_istore_3, wp_iload, wp_istore, wp_lload_0, wp_lstore_0, wp_lload_1, wp_lstore_1, wp_lload_2, wp_lstore_2, wp_lload_3, wp_lstore_3, wp_lload, wp_lstore, wp_aload_0, wp_astore_0, wp_aload_1, wp_astore_1, wp_aload_2, wp_astore_2, wp_aload_3, wp_astore_3, wp_aload, wp_astore, wp_iinc, wp_iadd, wp_isub, wp_imul, wp_iand, wp_ior, wp_ixor, wp_ishl, wp_ishr, wp_iushr, wp_irem, wp_ladd, wp_lsub, wp_lmul, wp_land, wp_lor, wp_lxor, wp_lshl, wp_lshr, wp_lushr, wp_lrem, wp_lcmp, wp_i2l, wp_l2i, wp_dupI, wp_dupA, wp_dup2J, wp_dup2IA, wp_popI, wp_popA, wp_pop2, wp_goto, wp_if_eq, wp_icmp_eq, wp_if_ne, wp_icmp_ne, wp_if_lt, wp_icmp_lt, wp_if_ge, wp_icmp_ge, wp_if_gt, wp_icmp_gt, wp_if_le, wp_icmp_le, wp_ifnull, wp_ifnonnull, wp_acmp_eq, wp_acmp_ne, wp_tableswitch, wp_get0, wp_put0, wp_get1, wp_put1, wp_get2, wp_put2, wp_get3, wp_put3, wp_new, wp_newarray, wp_anewarray, wp_alen, wp_iaload, wp_laload, wp_baload, wp_aaload, wp_iastore, wp_lastore, wp_bastore, wp_aastore, wp_return, wp_ireturnI, wp_ireturnZ, wp_lreturn, wp_areturnO, wp_areturnA, wp_max, wp_min, wp_obj, wp_virt, wp_nil, ld_I0, ld_Is, ld_J0, ld_Js, ld_A0, ld_As, ha_0, ha_s, cx_put1, cx_put2, cx_dl, cx_tgt, true_and, and_true, Nat.reduceAdd, Nat.reduceSub, Int.reduceAdd, Int.reduceNeg, Int.reduceToNat, Int.reduceSub, Int.cast_ofNat_Int, List.take_succ_cons, List.take_zero, List.drop_succ_cons, List.drop_zero, List.take_nil, List.drop_nil, Option.toList_some, Option.toList_none, List.cons_append, List.nil_append, wp_spec, ne_eq, Nat.reduceEqDiff, not_false_eq_true, true_or, or_true, sx]
  exact ⟨⟨hb, hbs⟩, go _ N'⟩
theorem in_s (N : NI x h1 t o g) {k : ArrayType} {u s f w : Nat} {z : Int} (ho : o < 65) (hs : s = 105 + (o + 1)) (hz : z = rz (o + 1)) (hf : (f : Int) = rf (o + 1)) (hb : 1 ≤ bc) (hbs : 0 ≤ z ∧ z ≤ 60000 ∧ z ≤ (bs : Int))
    (go : ∀ g', NI x h1 t (o + 1) g' → cx_wp ra0 pf mF mO ty J C P r (pc + 1 + 3 + 2 + 3) (some (.inr (.inr (some x))) :: lv) [] g' (bc - 1) (bs - z.toNat)) : cx_wp ra0 pf mF mO ty J C P ((.aload_n 0, 1, 0, 0, 0) :: (.sipush z, 3, 0, 0, 0) :: (.newarray k, 2, u, s, 0) :: (.putfield w, 3, 10, f, 3) :: r) pc (some (.inr (.inr (some x))) :: lv) [] g bc bs := by
  have N' := N.st ho hs hz hf
  have nx : x ≠ g.1 := by have := N.1; omega
  have sx : cq_s (cq_nw g s z) x = 10 := (nw_o nx).1.trans N.2.1
  simp only [wp_iconst, wp_bipush, wp_sipush, wp_ldc, wp_ldc2_w, wp_lconst0, wp_lconst1, wp_aconst_null, wp_iload_0, wp_istore_0, wp_iload_1, wp_istore_1, wp_iload_2, wp_istore_2, wp_iload_3, wp_istore_3, wp_iload, wp_istore, wp_lload_0, wp_lstore_0, wp_lload_1, wp_lstore_1, wp_lload_2, wp_lstore_2, wp_lload_3, wp_lstore_3, wp_lload, wp_lstore, wp_aload_0, wp_astore_0, wp_aload_1, wp_astore_1, wp_aload_2, wp_astore_2, wp_aload_3, wp_astore_3, wp_aload, wp_astore, wp_iinc, wp_iadd, wp_isub, wp_imul, wp_iand, wp_ior, wp_ixor, wp_ishl, wp_ishr, wp_iushr, wp_irem, wp_ladd, wp_lsub, wp_lmul, wp_land, wp_lor, wp_lxor, wp_lshl, wp_lshr, wp_lushr, wp_lrem, wp_lcmp, wp_i2l, wp_l2i, wp_dupI, wp_dupA, wp_dup2J, wp_dup2IA, wp_popI, wp_popA, wp_pop2, wp_goto, wp_if_eq, wp_icmp_eq, wp_if_ne, wp_icmp_ne, wp_if_lt, wp_icmp_lt, wp_if_ge, wp_icmp_ge, wp_if_gt, wp_icmp_gt, wp_if_le, wp_icmp_le, wp_ifnull, wp_ifnonnull, wp_acmp_eq, wp_acmp_ne, wp_tableswitch, wp_get0, wp_put0, wp_get1, wp_put1, wp_get2, wp_put2, wp_get3, wp_put3, wp_new, wp_newarray, wp_anewarray, wp_alen, wp_iaload, wp_laload, wp_baload, wp_aaload, wp_iastore, wp_lastore, wp_bastore, wp_aastore, wp_return, wp_ireturnI, wp_ireturnZ, wp_lreturn, wp_areturnO, wp_areturnA, wp_max, wp_min, wp_obj, wp_virt, wp_nil, ld_I0, ld_Is, ld_J0, ld_Js, ld_A0, ld_As, ha_0, ha_s, cx_put1, cx_put2, cx_dl, cx_tgt, true_and, and_true, Nat.reduceAdd, Nat.reduceSub, Int.reduceAdd, Int.reduceNeg, Int.reduceToNat, Int.reduceSub, Int.cast_ofNat_Int, List.take_succ_cons, List.take_zero, List.drop_succ_cons, List.drop_zero, List.take_nil, List.drop_nil, Option.toList_some, Option.toList_none, List.cons_append, List.nil_append, wp_spec, ne_eq, Nat.reduceEqDiff, not_false_eq_true, true_or, or_true, sx]
  exact ⟨⟨hb, hbs⟩, go _ N'⟩
theorem in_0 {w : Nat} (hr : 1 ≤ mF ∧ cx_sz [] + 12 ≤ mO) (go : cx_wp ra0 pf mF mO ty J C P r (pc + 1 + 3) (some (.inr (.inr (some x))) :: lv) [] g bc bs) : cx_wp ra0 pf mF mO ty J C P ((.aload_n 0, 1, 0, 0, 0) :: (.invokespecial w, 3, 999, 0, 0) :: r) pc (some (.inr (.inr (some x))) :: lv) [] g bc bs := by
  simp only [wp_iconst, wp_bipush, wp_sipush, wp_ldc, wp_ldc2_w, wp_lconst0, wp_lconst1, wp_aconst_null, wp_iload_0, wp_istore_0, wp_iload_1, wp_istore_1, wp_iload_2, wp_istore_2, wp_iload_3, wp_istore_3, wp_iload, wp_istore, wp_lload_0, wp_lstore_0, wp_lload_1, wp_lstore_1, wp_lload_2, wp_lstore_2, wp_lload_3, wp_lstore_3, wp_lload, wp_lstore, wp_aload_0, wp_astore_0, wp_aload_1, wp_astore_1, wp_aload_2, wp_astore_2, wp_aload_3, wp_astore_3, wp_aload, wp_astore, wp_iinc, wp_iadd, wp_isub, wp_imul, wp_iand, wp_ior, wp_ixor, wp_ishl, wp_ishr, wp_iushr, wp_irem, wp_ladd, wp_lsub, wp_lmul, wp_land, wp_lor, wp_lxor, wp_lshl, wp_lshr, wp_lushr, wp_lrem, wp_lcmp, wp_i2l, wp_l2i, wp_dupI, wp_dupA, wp_dup2J, wp_dup2IA, wp_popI, wp_popA, wp_pop2, wp_goto, wp_if_eq, wp_icmp_eq, wp_if_ne, wp_icmp_ne, wp_if_lt, wp_icmp_lt, wp_if_ge, wp_icmp_ge, wp_if_gt, wp_icmp_gt, wp_if_le, wp_icmp_le, wp_ifnull, wp_ifnonnull, wp_acmp_eq, wp_acmp_ne, wp_tableswitch, wp_get0, wp_put0, wp_get1, wp_put1, wp_get2, wp_put2, wp_get3, wp_put3, wp_new, wp_newarray, wp_anewarray, wp_alen, wp_iaload, wp_laload, wp_baload, wp_aaload, wp_iastore, wp_lastore, wp_bastore, wp_aastore, wp_return, wp_ireturnI, wp_ireturnZ, wp_lreturn, wp_areturnO, wp_areturnA, wp_max, wp_min, wp_obj, wp_virt, wp_nil, ld_I0, ld_Is, ld_J0, ld_Js, ld_A0, ld_As, ha_0, ha_s, cx_put1, cx_put2, cx_dl, cx_tgt, true_and, and_true, Nat.reduceAdd, Nat.reduceSub, Int.reduceAdd, Int.reduceNeg, Int.reduceToNat, Int.reduceSub, Int.cast_ofNat_Int, List.take_succ_cons, List.take_zero, List.drop_succ_cons, List.drop_zero, List.take_nil, List.drop_nil, Option.toList_some, Option.toList_none, List.cons_append, List.nil_append, wp_spec, ne_eq, Nat.reduceEqDiff, not_false_eq_true, true_or, or_true]
  exact ⟨hr, go⟩
theorem in_t (N : NI x h1 0 o g) {w : Nat} (go : ∀ g', NI x h1 1 o g' → cx_wp ra0 pf mF mO ty J C P r (pc + 1 + 1 + 3) (some (.inr (.inr (some x))) :: lv) [] g' bc bs) : cx_wp ra0 pf mF mO ty J C P ((.aload_n 0, 1, 0, 0, 0) :: (.iconst 1, 1, 0, 0, 0) :: (.putfield w, 3, 10, 2, 0) :: r) pc (some (.inr (.inr (some x))) :: lv) [] g bc bs := by
  have sx := N.2.1
  simp only [wp_iconst, wp_bipush, wp_sipush, wp_ldc, wp_ldc2_w, wp_lconst0, wp_lconst1, wp_aconst_null, wp_iload_0, wp_istore_0, wp_iload_1, wp_istore_1, wp_iload_2, wp_istore_2, wp_iload_3, wp_istore_3, wp_iload, wp_istore, wp_lload_0, wp_lstore_0, wp_lload_1, wp_lstore_1, wp_lload_2, wp_lstore_2, wp_lload_3, wp_lstore_3, wp_lload, wp_lstore, wp_aload_0, wp_astore_0, wp_aload_1, wp_astore_1, wp_aload_2, wp_astore_2, wp_aload_3, wp_astore_3, wp_aload, wp_astore, wp_iinc, wp_iadd, wp_isub, wp_imul, wp_iand, wp_ior, wp_ixor, wp_ishl, wp_ishr, wp_iushr, wp_irem, wp_ladd, wp_lsub, wp_lmul, wp_land, wp_lor, wp_lxor, wp_lshl, wp_lshr, wp_lushr, wp_lrem, wp_lcmp, wp_i2l, wp_l2i, wp_dupI, wp_dupA, wp_dup2J, wp_dup2IA, wp_popI, wp_popA, wp_pop2, wp_goto, wp_if_eq, wp_icmp_eq, wp_if_ne, wp_icmp_ne, wp_if_lt, wp_icmp_lt, wp_if_ge, wp_icmp_ge, wp_if_gt, wp_icmp_gt, wp_if_le, wp_icmp_le, wp_ifnull, wp_ifnonnull, wp_acmp_eq, wp_acmp_ne, wp_tableswitch, wp_get0, wp_put0, wp_get1, wp_put1, wp_get2, wp_put2, wp_get3, wp_put3, wp_new, wp_newarray, wp_anewarray, wp_alen, wp_iaload, wp_laload, wp_baload, wp_aaload, wp_iastore, wp_lastore, wp_bastore, wp_aastore, wp_return, wp_ireturnI, wp_ireturnZ, wp_lreturn, wp_areturnO, wp_areturnA, wp_max, wp_min, wp_obj, wp_virt, wp_nil, ld_I0, ld_Is, ld_J0, ld_Js, ld_A0, ld_As, ha_0, ha_s, cx_put1, cx_put2, cx_dl, cx_tgt, true_and, and_true, Nat.reduceAdd, Nat.reduceSub, Int.reduceAdd, Int.reduceNeg, Int.reduceToNat, Int.reduceSub, Int.cast_ofNat_Int, List.take_succ_cons, List.take_zero, List.drop_succ_cons, List.drop_zero, List.take_nil, List.drop_nil, Option.toList_some, Option.toList_none, List.cons_append, List.nil_append, wp_spec, ne_eq, Nat.reduceEqDiff, not_false_eq_true, true_or, or_true, sx]
  refine go _ ?_
  obtain ⟨n1, n2, n3, n4, n5, n6, n7⟩ := N
  refine ⟨n1, n2, n3, fun a ha => ⟨(n4 a ha).1, (n4 a ha).2.1, ?_, (n4 a ha).2.2.2⟩, fun a ha hb => ?_, ?_, n7⟩
  · rw [← (n4 a ha).2.2.1]
    funext j
    rw [mm_sI, if_neg (fun e => by omega)]
  · rw [← n5 a ha hb]
    funext j
    rw [mm_sI, if_neg (fun e => by omega)]
  · funext j
    rw [mm_sI]
    by_cases e : j = 2
    · rw [if_pos ⟨rfl, e⟩, if_pos e]
    · rw [if_neg (fun q => e q.2), if_neg e, n6]
      exact if_neg e
theorem in_m (N : NI x h1 t o g) {k : ArrayType} {u s : Nat} {z : Int} (hb : 1 ≤ bc) (hbs : 0 ≤ z ∧ z ≤ 60000 ∧ z ≤ (bs : Int))
    (go : J (pc + 1 + 3 + 2) (some (.inr (.inr (some x))) :: lv) [.inr (.inr (some g.1)), .inr (.inr (some x))] (cq_nw g s z) (bc - 1) (bs - z.toNat)) : cx_wp ra0 pf mF mO ty J C P [(.aload_n 0, 1, 0, 0, 0), (.sipush z, 3, 0, 0, 0), (.newarray k, 2, u, s, 0)] pc (some (.inr (.inr (some x))) :: lv) [] g bc bs := by
  simp only [wp_iconst, wp_bipush, wp_sipush, wp_ldc, wp_ldc2_w, wp_lconst0, wp_lconst1, wp_aconst_null, wp_iload_0, wp_istore_0, wp_iload_1, wp_istore_1, wp_iload_2, wp_istore_2, wp_iload_3, wp_istore_3, wp_iload, wp_istore, wp_lload_0, wp_lstore_0, wp_lload_1, wp_lstore_1, wp_lload_2, wp_lstore_2, wp_lload_3, wp_lstore_3, wp_lload, wp_lstore, wp_aload_0, wp_astore_0, wp_aload_1, wp_astore_1, wp_aload_2, wp_astore_2, wp_aload_3, wp_astore_3, wp_aload, wp_astore, wp_iinc, wp_iadd, wp_isub, wp_imul, wp_iand, wp_ior, wp_ixor, wp_ishl, wp_ishr, wp_iushr, wp_irem, wp_ladd, wp_lsub, wp_lmul, wp_land, wp_lor, wp_lxor, wp_lshl, wp_lshr, wp_lushr, wp_lrem, wp_lcmp, wp_i2l, wp_l2i, wp_dupI, wp_dupA, wp_dup2J, wp_dup2IA, wp_popI, wp_popA, wp_pop2, wp_goto, wp_if_eq, wp_icmp_eq, wp_if_ne, wp_icmp_ne, wp_if_lt, wp_icmp_lt, wp_if_ge, wp_icmp_ge, wp_if_gt, wp_icmp_gt, wp_if_le, wp_icmp_le, wp_ifnull, wp_ifnonnull, wp_acmp_eq, wp_acmp_ne, wp_tableswitch, wp_get0, wp_put0, wp_get1, wp_put1, wp_get2, wp_put2, wp_get3, wp_put3, wp_new, wp_newarray, wp_anewarray, wp_alen, wp_iaload, wp_laload, wp_baload, wp_aaload, wp_iastore, wp_lastore, wp_bastore, wp_aastore, wp_return, wp_ireturnI, wp_ireturnZ, wp_lreturn, wp_areturnO, wp_areturnA, wp_max, wp_min, wp_obj, wp_virt, wp_nil, ld_I0, ld_Is, ld_J0, ld_Js, ld_A0, ld_As, ha_0, ha_s, cx_put1, cx_put2, cx_dl, cx_tgt, true_and, and_true, Nat.reduceAdd, Nat.reduceSub, Int.reduceAdd, Int.reduceNeg, Int.reduceToNat, Int.reduceSub, Int.cast_ofNat_Int, List.take_succ_cons, List.take_zero, List.drop_succ_cons, List.drop_zero, List.take_nil, List.drop_nil, Option.toList_some, Option.toList_none, List.cons_append, List.nil_append, wp_spec, ne_eq, Nat.reduceEqDiff, not_false_eq_true, true_or, or_true]
  exact ⟨⟨hb, hbs⟩, go⟩
theorem in_p (N : NI x h1 t o g) {s f w : Nat} {z : Int} (ho : o < 65) (hs : s = 105 + (o + 1)) (hz : z = rz (o + 1)) (hf : (f : Int) = rf (o + 1))
    (go : ∀ g', NI x h1 t (o + 1) g' → cx_wp ra0 pf mF mO ty J C P r (pc + 3) (some (.inr (.inr (some x))) :: lv) [] g' bc bs) : cx_wp ra0 pf mF mO ty J C P ((.putfield w, 3, 10, f, 3) :: r) pc (some (.inr (.inr (some x))) :: lv) [.inr (.inr (some g.1)), .inr (.inr (some x))] (cq_nw g s z) bc bs := by
  have N' := N.st ho hs hz hf
  have nx : x ≠ g.1 := by have := N.1; omega
  have sx : cq_s (cq_nw g s z) x = 10 := (nw_o nx).1.trans N.2.1
  simp only [wp_iconst, wp_bipush, wp_sipush, wp_ldc, wp_ldc2_w, wp_lconst0, wp_lconst1, wp_aconst_null, wp_iload_0, wp_istore_0, wp_iload_1, wp_istore_1, wp_iload_2, wp_istore_2, wp_iload_3, wp_istore_3, wp_iload, wp_istore, wp_lload_0, wp_lstore_0, wp_lload_1, wp_lstore_1, wp_lload_2, wp_lstore_2, wp_lload_3, wp_lstore_3, wp_lload, wp_lstore, wp_aload_0, wp_astore_0, wp_aload_1, wp_astore_1, wp_aload_2, wp_astore_2, wp_aload_3, wp_astore_3, wp_aload, wp_astore, wp_iinc, wp_iadd, wp_isub, wp_imul, wp_iand, wp_ior, wp_ixor, wp_ishl, wp_ishr, wp_iushr, wp_irem, wp_ladd, wp_lsub, wp_lmul, wp_land, wp_lor, wp_lxor, wp_lshl, wp_lshr, wp_lushr, wp_lrem, wp_lcmp, wp_i2l, wp_l2i, wp_dupI, wp_dupA, wp_dup2J, wp_dup2IA, wp_popI, wp_popA, wp_pop2, wp_goto, wp_if_eq, wp_icmp_eq, wp_if_ne, wp_icmp_ne, wp_if_lt, wp_icmp_lt, wp_if_ge, wp_icmp_ge, wp_if_gt, wp_icmp_gt, wp_if_le, wp_icmp_le, wp_ifnull, wp_ifnonnull, wp_acmp_eq, wp_acmp_ne, wp_tableswitch, wp_get0, wp_put0, wp_get1, wp_put1, wp_get2, wp_put2, wp_get3, wp_put3, wp_new, wp_newarray, wp_anewarray, wp_alen, wp_iaload, wp_laload, wp_baload, wp_aaload, wp_iastore, wp_lastore, wp_bastore, wp_aastore, wp_return, wp_ireturnI, wp_ireturnZ, wp_lreturn, wp_areturnO, wp_areturnA, wp_max, wp_min, wp_obj, wp_virt, wp_nil, ld_I0, ld_Is, ld_J0, ld_Js, ld_A0, ld_As, ha_0, ha_s, cx_put1, cx_put2, cx_dl, cx_tgt, true_and, and_true, Nat.reduceAdd, Nat.reduceSub, Int.reduceAdd, Int.reduceNeg, Int.reduceToNat, Int.reduceSub, Int.cast_ofNat_Int, List.take_succ_cons, List.take_zero, List.drop_succ_cons, List.drop_zero, List.take_nil, List.drop_nil, Option.toList_some, Option.toList_none, List.cons_append, List.nil_append, wp_spec, ne_eq, Nat.reduceEqDiff, not_false_eq_true, true_or, or_true, sx]
  exact go _ N'
end
theorem c_X11_init0 {Y : cx_Y} (hY : cY Y) {K : Option cx_V → cx_Q → Prop} {x : Nat} {h1 g0 : cx_Q} {a b : Int} (N0 : NI x h1 0 0 g0) (hK : ∀ g, NI x h1 1 65 g → cx_wp ra0 pf1 1 12 none (cw Y mi_X11_init K) (cwl Y mi_X11_init K) K [(.aload_n 0, 1, 0, 0, 0), (.iload_n 1, 1, 0, 0, 0), (.iconst 2, 1, 0, 0, 0), (.if_icmp .ge 7, 3, 0, 0, 0), (.iconst 2, 1, 0, 0, 0), (.goto 15, 3, 0, 0, 0)] 574 [some (.inr (.inr (some x))), some (.inl a), some (.inl b), none] [] g 0 0) : cw Y mi_X11_init K 0 [some (.inr (.inr (some x))), some (.inl a), some (.inl b), none] [] g0 65 149752 := by
  refine bx_X11_init_0 hY (pf1_ok hY) ?_
  refine in_0 (by decide) ?_
  refine in_b N0 (by decide) rfl rfl rfl (by decide) (by decide) fun g1 N1 => ?_
  refine in_t N1 fun g2 N2 => ?_
  refine in_s N2 (by decide) rfl rfl rfl (by decide) (by decide) fun g3 N3 => ?_
  refine in_s N3 (by decide) rfl rfl rfl (by decide) (by decide) fun g4 N4 => ?_
  refine in_s N4 (by decide) rfl rfl rfl (by decide) (by decide) fun g5 N5 => ?_
  refine in_s N5 (by decide) rfl rfl rfl (by decide) (by decide) fun g6 N6 => ?_
  refine in_s N6 (by decide) rfl rfl rfl (by decide) (by decide) fun g7 N7 => ?_
  refine in_s N7 (by decide) rfl rfl rfl (by decide) (by decide) fun g8 N8 => ?_
  refine in_s N8 (by decide) rfl rfl rfl (by decide) (by decide) fun g9 N9 => ?_
  refine in_s N9 (by decide) rfl rfl rfl (by decide) (by decide) fun g10 N10 => ?_
  refine in_s N10 (by decide) rfl rfl rfl (by decide) (by decide) fun g11 N11 => ?_
  refine in_b N11 (by decide) rfl rfl rfl (by decide) (by decide) fun g12 N12 => ?_
  refine in_b N12 (by decide) rfl rfl rfl (by decide) (by decide) fun g13 N13 => ?_
  refine in_b N13 (by decide) rfl rfl rfl (by decide) (by decide) fun g14 N14 => ?_
  refine in_b N14 (by decide) rfl rfl rfl (by decide) (by decide) fun g15 N15 => ?_
  refine in_b N15 (by decide) rfl rfl rfl (by decide) (by decide) fun g16 N16 => ?_
  refine in_b N16 (by decide) rfl rfl rfl (by decide) (by decide) fun g17 N17 => ?_
  refine in_b N17 (by decide) rfl rfl rfl (by decide) (by decide) fun g18 N18 => ?_
  refine in_b N18 (by decide) rfl rfl rfl (by decide) (by decide) fun g19 N19 => ?_
  refine in_b N19 (by decide) rfl rfl rfl (by decide) (by decide) fun g20 N20 => ?_
  refine in_b N20 (by decide) rfl rfl rfl (by decide) (by decide) fun g21 N21 => ?_
  refine in_b N21 (by decide) rfl rfl rfl (by decide) (by decide) fun g22 N22 => ?_
  refine in_b N22 (by decide) rfl rfl rfl (by decide) (by decide) fun g23 N23 => ?_
  refine in_b N23 (by decide) rfl rfl rfl (by decide) (by decide) fun g24 N24 => ?_
  refine in_m N24 (by decide) (by decide) ?_
  refine bx_X11_init_208 hY (pf1_ok hY) ?_
  refine in_p N24 (by decide) rfl rfl rfl fun g25 N25 => ?_
  refine in_s N25 (by decide) rfl rfl rfl (by decide) (by decide) fun g26 N26 => ?_
  refine in_s N26 (by decide) rfl rfl rfl (by decide) (by decide) fun g27 N27 => ?_
  refine in_s N27 (by decide) rfl rfl rfl (by decide) (by decide) fun g28 N28 => ?_
  refine in_s N28 (by decide) rfl rfl rfl (by decide) (by decide) fun g29 N29 => ?_
  refine in_s N29 (by decide) rfl rfl rfl (by decide) (by decide) fun g30 N30 => ?_
  refine in_b N30 (by decide) rfl rfl rfl (by decide) (by decide) fun g31 N31 => ?_
  refine in_s N31 (by decide) rfl rfl rfl (by decide) (by decide) fun g32 N32 => ?_
  refine in_s N32 (by decide) rfl rfl rfl (by decide) (by decide) fun g33 N33 => ?_
  refine in_s N33 (by decide) rfl rfl rfl (by decide) (by decide) fun g34 N34 => ?_
  refine in_s N34 (by decide) rfl rfl rfl (by decide) (by decide) fun g35 N35 => ?_
  refine in_s N35 (by decide) rfl rfl rfl (by decide) (by decide) fun g36 N36 => ?_
  refine in_s N36 (by decide) rfl rfl rfl (by decide) (by decide) fun g37 N37 => ?_
  refine in_s N37 (by decide) rfl rfl rfl (by decide) (by decide) fun g38 N38 => ?_
  refine in_s N38 (by decide) rfl rfl rfl (by decide) (by decide) fun g39 N39 => ?_
  refine in_s N39 (by decide) rfl rfl rfl (by decide) (by decide) fun g40 N40 => ?_
  refine in_s N40 (by decide) rfl rfl rfl (by decide) (by decide) fun g41 N41 => ?_
  refine in_s N41 (by decide) rfl rfl rfl (by decide) (by decide) fun g42 N42 => ?_
  refine in_s N42 (by decide) rfl rfl rfl (by decide) (by decide) fun g43 N43 => ?_
  refine in_s N43 (by decide) rfl rfl rfl (by decide) (by decide) fun g44 N44 => ?_
  refine in_s N44 (by decide) rfl rfl rfl (by decide) (by decide) fun g45 N45 => ?_
  refine in_s N45 (by decide) rfl rfl rfl (by decide) (by decide) fun g46 N46 => ?_
  refine in_s N46 (by decide) rfl rfl rfl (by decide) (by decide) fun g47 N47 => ?_
  refine in_s N47 (by decide) rfl rfl rfl (by decide) (by decide) fun g48 N48 => ?_
  refine in_s N48 (by decide) rfl rfl rfl (by decide) (by decide) fun g49 N49 => ?_
  refine in_m N49 (by decide) (by decide) ?_
  refine bx_X11_init_432 hY (pf1_ok hY) ?_
  refine in_p N49 (by decide) rfl rfl rfl fun g50 N50 => ?_
  refine in_s N50 (by decide) rfl rfl rfl (by decide) (by decide) fun g51 N51 => ?_
  refine in_s N51 (by decide) rfl rfl rfl (by decide) (by decide) fun g52 N52 => ?_
  refine in_s N52 (by decide) rfl rfl rfl (by decide) (by decide) fun g53 N53 => ?_
  refine in_s N53 (by decide) rfl rfl rfl (by decide) (by decide) fun g54 N54 => ?_
  refine in_s N54 (by decide) rfl rfl rfl (by decide) (by decide) fun g55 N55 => ?_
  refine in_s N55 (by decide) rfl rfl rfl (by decide) (by decide) fun g56 N56 => ?_
  refine in_s N56 (by decide) rfl rfl rfl (by decide) (by decide) fun g57 N57 => ?_
  refine in_s N57 (by decide) rfl rfl rfl (by decide) (by decide) fun g58 N58 => ?_
  refine in_b N58 (by decide) rfl rfl rfl (by decide) (by decide) fun g59 N59 => ?_
  refine in_s N59 (by decide) rfl rfl rfl (by decide) (by decide) fun g60 N60 => ?_
  refine in_s N60 (by decide) rfl rfl rfl (by decide) (by decide) fun g61 N61 => ?_
  refine in_b N61 (by decide) rfl rfl rfl (by decide) (by decide) fun g62 N62 => ?_
  refine in_s N62 (by decide) rfl rfl rfl (by decide) (by decide) fun g63 N63 => ?_
  refine in_b N63 (by decide) rfl rfl rfl (by decide) (by decide) fun g64 N64 => ?_
  refine in_b N64 (by decide) rfl rfl rfl (by decide) (by decide) fun g65 N65 => ?_
  refine in_b N65 (by decide) rfl rfl rfl (by decide) (by decide) fun g66 N66 => ?_
  exact hK _ N66
theorem rR_0 {o : Nat} : rR 0 0 o 0 := by
  unfold rR
  repeat' (with_reducible refine itp ?_ ?_)
  all_goals (first | trivial | exact ⟨by decide, by decide⟩)
theorem rX_0 {j : Int} : rX 0 j 0 := by
  unfold rX
  repeat' (with_reducible refine itp ?_ ?_)
  all_goals (first | trivial | exact ⟨by decide, by decide⟩)
/-- between 2 and 6 -/
def cn (a : Int) : Int := if a < 2 then 2 else if a ≤ 6 then a else 6
/-- cells ahead of the reference are as they were, nothing stands behind its arrays -/
def aL (x : Nat) (h1 g : cx_Q) : Prop := g.1 = x + 66 ∧ (∀ a, a < x → cq_s g a = cq_s h1 a ∧ cq_z g a = cq_z h1 a ∧ cq_I g a = cq_I h1 a ∧ cq_J g a = cq_J h1 a ∧ cq_A g a = cq_A h1 a) ∧ ∀ a, g.1 ≤ a → cq_s g a = 99
theorem NI.RI {x : Nat} {h1 g : cx_Q} {n : Int} (N : NI x h1 1 65 g) : RI x n 0 (fun _ => 0) (fun _ => 0) 0 (cq_sI g x 0 n) (cq_sI g x 0 n) ∧ aL x h1 (cq_sI g x 0 n) := by
  obtain ⟨n1, n2, n3, n4, n5, n6, n7⟩ := N
  have nI : ∀ (o : Nat) (j : Int), 1 ≤ o → o ≤ 65 → cq_I (cq_sI g x 0 n) (x + o) j = 0 := fun o j q1 q2 => by
    rw [mm_sI, if_neg (fun e => by omega), n5 (x + o) (by omega) (by omega)]
  have nX : ∀ j : Int, cq_I (cq_sI g x 0 n) x j = if j = 0 then n else if j = 2 then 1 else 0 := fun j => by
    rw [mm_sI, n6]
    simp only [true_and]
  refine ⟨⟨⟨⟨rfl, rfl, rfl, rfl, fun a _ => ⟨rfl, rfl⟩⟩, ⟨n2, n3⟩, fun o j q1 q2 => ?_, fun j => ?_, ?_, ?_, ?_, ?_⟩, ?_, ?_, ?_, fun o ho j => ?_⟩, n1, fun a ha => ⟨(n4 a ha).1, (n4 a ha).2.1, ?_, (n4 a ha).2.2.2⟩, n7⟩
  · rw [nI o j q1 q2]
    exact rR_0
  · rw [nX]
    by_cases e : j = 0
    · rw [e]
      exact True.intro
    · by_cases e2 : j = 2
      · rw [e2]
        exact True.intro
      · rw [if_neg e, if_neg e2]
        exact rX_0
  · funext j
    exact nI 11 j (by decide) (by decide)
  · funext j
    exact nI 16 j (by decide) (by decide)
  · rw [nX, if_pos rfl]
  · rw [nX, if_neg (by decide), if_neg (by decide)]
  · rw [nX, if_neg (by decide), if_pos rfl]
    decide
  · rw [nX, if_neg (by decide), if_neg (by decide)]
    decide
  · rw [nX, if_neg (by decide), if_neg (by decide)]
    decide
  · have o1 : ∀ o ∈ tV, 1 ≤ o ∧ o ≤ 65 := by decide
    rw [nI o j (o1 o ho).1 (o1 o ho).2]
    decide
  · rw [← (n4 a ha).2.2.1]
    funext j
    rw [mm_sI, if_neg (fun e => by omega)]
theorem c_X11_init {Y : cx_Y} (hY : cY Y) {K : Option cx_V → cx_Q → Prop} {x : Nat} {h1 g0 : cx_Q} {a b : Int} (N0 : NI x h1 0 0 g0) (hK : ∀ h0 g, RI x (cn a) 0 (fun _ => 0) (fun _ => 0) 0 h0 g → aL x h1 g → K none g) : cw Y mi_X11_init K 0 [some (.inr (.inr (some x))), some (.inl a), some (.inl b), none] [] g0 65 149752 := by
  refine c_X11_init0 hY N0 ?_
  intro g N
  have loop : ∀ (c : Nat) (i : Int) (h0 h : cx_Q), 0 ≤ i → i + c = 6 → RI x (cn a) 0 (fun _ => 0) (fun _ => 0) 0 h0 h → aL x h1 h → cw Y mi_X11_init K 601 [some (.inr (.inr (some x))), some (.inl a), some (.inl b), some (.inl i)] [] h 0 0 := by
    intro c
    induction c with
    | zero =>
      intro i h0 h q1 q2 R A
      have hS := R.1.rS
      refine bx_X11_init_601 hY (pf1_ok hY) ?_
      simp only [wp_iconst, wp_bipush, wp_sipush, wp_ldc, wp_ldc2_w, wp_lconst0, wp_lconst1, wp_aconst_null, wp_iload_0, wp_istore_0, wp_iload_1, wp_istore_1, wp_iload_2, wp_istore_2, wp_iload_3, wp_istore_3, wp_iload, wp_istore, wp_lload_0, wp_lstore_0, wp_lload_1, wp_lstore_1, wp_lload_2, wp_lstore_2, wp_lload_3, wp_lstore_3, wp_lload, wp_lstore, wp_aload_0, wp_astore_0, wp_aload_1, wp_astore_1, wp_aload_2, wp_astore_2, wp_aload_3, wp_astore_3, wp_aload, wp_astore, wp_iinc, wp_iadd, wp_isub, wp_imul, wp_iand, wp_ior, wp_ixor, wp_ishl, wp_ishr, wp_iushr, wp_irem, wp_ladd, wp_lsub, wp_lmul, wp_land, wp_lor, wp_lxor, wp_lshl, wp_lshr, wp_lushr, wp_lrem, wp_lcmp, wp_i2l, wp_l2i, wp_dupI, wp_dupA, wp_dup2J, wp_dup2IA, wp_popI, wp_popA, wp_pop2, wp_goto, wp_if_eq, wp_icmp_eq, wp_if_ne, wp_icmp_ne, wp_if_lt, wp_icmp_lt, wp_if_ge, wp_icmp_ge, wp_if_gt, wp_icmp_gt, wp_if_le, wp_icmp_le, wp_ifnull, wp_ifnonnull, wp_acmp_eq, wp_acmp_ne, wp_tableswitch, wp_get0, wp_put0, wp_get1, wp_put1, wp_get2, wp_put2, wp_get3, wp_put3, wp_new, wp_newarray, wp_anewarray, wp_alen, wp_iaload, wp_laload, wp_baload, wp_aaload, wp_iastore, wp_lastore, wp_bastore, wp_aastore, wp_return, wp_ireturnI, wp_ireturnZ, wp_lreturn, wp_areturnO, wp_areturnA, wp_max, wp_min, wp_obj, wp_virt, wp_nil, ld_I0, ld_Is, ld_J0, ld_Js, ld_A0, ld_As, ha_0, ha_s, cx_put1, cx_put2, cx_dl, cx_tgt, true_and, and_true, Nat.reduceAdd, Nat.reduceSub, Int.reduceAdd, Int.reduceNeg, Int.reduceToNat, Int.reduceSub, Int.cast_ofNat_Int, List.take_succ_cons, List.take_zero, List.drop_succ_cons, List.drop_zero, List.take_nil, List.drop_nil, Option.toList_some, Option.toList_none, List.cons_append, List.nil_append, wp_spec, ne_eq, Nat.reduceEqDiff, not_false_eq_true, true_or, or_true, rA_seeds hS, rs_seeds hS, rz_seeds hS, ra_106, (hS).1]
      refine ⟨fun _ => ?_, fun w => absurd w (by omega)⟩
      refine bx_X11_init_624 hY (pf1_ok hY) ?_
      simp only [wp_iconst, wp_bipush, wp_sipush, wp_ldc, wp_ldc2_w, wp_lconst0, wp_lconst1, wp_aconst_null, wp_iload_0, wp_istore_0, wp_iload_1, wp_istore_1, wp_iload_2, wp_istore_2, wp_iload_3, wp_istore_3, wp_iload, wp_istore, wp_lload_0, wp_lstore_0, wp_lload_1, wp_lstore_1, wp_lload_2, wp_lstore_2, wp_lload_3, wp_lstore_3, wp_lload, wp_lstore, wp_aload_0, wp_astore_0, wp_aload_1, wp_astore_1, wp_aload_2, wp_astore_2, wp_aload_3, wp_astore_3, wp_aload, wp_astore, wp_iinc, wp_iadd, wp_isub, wp_imul, wp_iand, wp_ior, wp_ixor, wp_ishl, wp_ishr, wp_iushr, wp_irem, wp_ladd, wp_lsub, wp_lmul, wp_land, wp_lor, wp_lxor, wp_lshl, wp_lshr, wp_lushr, wp_lrem, wp_lcmp, wp_i2l, wp_l2i, wp_dupI, wp_dupA, wp_dup2J, wp_dup2IA, wp_popI, wp_popA, wp_pop2, wp_goto, wp_if_eq, wp_icmp_eq, wp_if_ne, wp_icmp_ne, wp_if_lt, wp_icmp_lt, wp_if_ge, wp_icmp_ge, wp_if_gt, wp_icmp_gt, wp_if_le, wp_icmp_le, wp_ifnull, wp_ifnonnull, wp_acmp_eq, wp_acmp_ne, wp_tableswitch, wp_get0, wp_put0, wp_get1, wp_put1, wp_get2, wp_put2, wp_get3, wp_put3, wp_new, wp_newarray, wp_anewarray, wp_alen, wp_iaload, wp_laload, wp_baload, wp_aaload, wp_iastore, wp_lastore, wp_bastore, wp_aastore, wp_return, wp_ireturnI, wp_ireturnZ, wp_lreturn, wp_areturnO, wp_areturnA, wp_max, wp_min, wp_obj, wp_virt, wp_nil, ld_I0, ld_Is, ld_J0, ld_Js, ld_A0, ld_As, ha_0, ha_s, cx_put1, cx_put2, cx_dl, cx_tgt, true_and, and_true, Nat.reduceAdd, Nat.reduceSub, Int.reduceAdd, Int.reduceNeg, Int.reduceToNat, Int.reduceSub, Int.cast_ofNat_Int, List.take_succ_cons, List.take_zero, List.drop_succ_cons, List.drop_zero, List.take_nil, List.drop_nil, Option.toList_some, Option.toList_none, List.cons_append, List.nil_append, wp_spec, ne_eq, Nat.reduceEqDiff, not_false_eq_true, true_or, or_true]
      exact hK _ _ R A
    | succ c ih =>
      intro i h0 h q1 q2 R A
      have hS := R.1.rS
      refine bx_X11_init_601 hY (pf1_ok hY) ?_
      simp only [wp_iconst, wp_bipush, wp_sipush, wp_ldc, wp_ldc2_w, wp_lconst0, wp_lconst1, wp_aconst_null, wp_iload_0, wp_istore_0, wp_iload_1, wp_istore_1, wp_iload_2, wp_istore_2, wp_iload_3, wp_istore_3, wp_iload, wp_istore, wp_lload_0, wp_lstore_0, wp_lload_1, wp_lstore_1, wp_lload_2, wp_lstore_2, wp_lload_3, wp_lstore_3, wp_lload, wp_lstore, wp_aload_0, wp_astore_0, wp_aload_1, wp_astore_1, wp_aload_2, wp_astore_2, wp_aload_3, wp_astore_3, wp_aload, wp_astore, wp_iinc, wp_iadd, wp_isub, wp_imul, wp_iand, wp_ior, wp_ixor, wp_ishl, wp_ishr, wp_iushr, wp_irem, wp_ladd, wp_lsub, wp_lmul, wp_land, wp_lor, wp_lxor, wp_lshl, wp_lshr, wp_lushr, wp_lrem, wp_lcmp, wp_i2l, wp_l2i, wp_dupI, wp_dupA, wp_dup2J, wp_dup2IA, wp_popI, wp_popA, wp_pop2, wp_goto, wp_if_eq, wp_icmp_eq, wp_if_ne, wp_icmp_ne, wp_if_lt, wp_icmp_lt, wp_if_ge, wp_icmp_ge, wp_if_gt, wp_icmp_gt, wp_if_le, wp_icmp_le, wp_ifnull, wp_ifnonnull, wp_acmp_eq, wp_acmp_ne, wp_tableswitch, wp_get0, wp_put0, wp_get1, wp_put1, wp_get2, wp_put2, wp_get3, wp_put3, wp_new, wp_newarray, wp_anewarray, wp_alen, wp_iaload, wp_laload, wp_baload, wp_aaload, wp_iastore, wp_lastore, wp_bastore, wp_aastore, wp_return, wp_ireturnI, wp_ireturnZ, wp_lreturn, wp_areturnO, wp_areturnA, wp_max, wp_min, wp_obj, wp_virt, wp_nil, ld_I0, ld_Is, ld_J0, ld_Js, ld_A0, ld_As, ha_0, ha_s, cx_put1, cx_put2, cx_dl, cx_tgt, true_and, and_true, Nat.reduceAdd, Nat.reduceSub, Int.reduceAdd, Int.reduceNeg, Int.reduceToNat, Int.reduceSub, Int.cast_ofNat_Int, List.take_succ_cons, List.take_zero, List.drop_succ_cons, List.drop_zero, List.take_nil, List.drop_nil, Option.toList_some, Option.toList_none, List.cons_append, List.nil_append, wp_spec, ne_eq, Nat.reduceEqDiff, not_false_eq_true, true_or, or_true, rA_seeds hS, rs_seeds hS, rz_seeds hS, ra_106, (hS).1, cx_rg]
      refine ⟨fun w => absurd w (by omega), fun _ => ?_⟩
      (repeat' (with_reducible (first | refine And.intro ?_ ?_ | intro _)))
      all_goals (try omega)
      refine ih (i + 1) h0 _ (by omega) (by omega) ⟨R.1.sJ (by decide), TI.sJ R.2⟩ ⟨A.1, fun a ha => ⟨(A.2.1 a ha).1, (A.2.1 a ha).2.1, (A.2.1 a ha).2.2.1, ?_, (A.2.1 a ha).2.2.2.2⟩, A.2.2⟩
      rw [← (A.2.1 a ha).2.2.2.1]
      funext j
      rw [mm_sJ, if_neg (fun e => by omega)]
  have j596 : cw Y mi_X11_init K 596 [some (.inr (.inr (some x))), some (.inl a), some (.inl b), none] [.inl (cn a), .inr (.inr (some x))] g 0 0 := by
    refine bx_X11_init_596 hY (pf1_ok hY) ?_
    simp only [wp_iconst, wp_bipush, wp_sipush, wp_ldc, wp_ldc2_w, wp_lconst0, wp_lconst1, wp_aconst_null, wp_iload_0, wp_istore_0, wp_iload_1, wp_istore_1, wp_iload_2, wp_istore_2, wp_iload_3, wp_istore_3, wp_iload, wp_istore, wp_lload_0, wp_lstore_0, wp_lload_1, wp_lstore_1, wp_lload_2, wp_lstore_2, wp_lload_3, wp_lstore_3, wp_lload, wp_lstore, wp_aload_0, wp_astore_0, wp_aload_1, wp_astore_1, wp_aload_2, wp_astore_2, wp_aload_3, wp_astore_3, wp_aload, wp_astore, wp_iinc, wp_iadd, wp_isub, wp_imul, wp_iand, wp_ior, wp_ixor, wp_ishl, wp_ishr, wp_iushr, wp_irem, wp_ladd, wp_lsub, wp_lmul, wp_land, wp_lor, wp_lxor, wp_lshl, wp_lshr, wp_lushr, wp_lrem, wp_lcmp, wp_i2l, wp_l2i, wp_dupI, wp_dupA, wp_dup2J, wp_dup2IA, wp_popI, wp_popA, wp_pop2, wp_goto, wp_if_eq, wp_icmp_eq, wp_if_ne, wp_icmp_ne, wp_if_lt, wp_icmp_lt, wp_if_ge, wp_icmp_ge, wp_if_gt, wp_icmp_gt, wp_if_le, wp_icmp_le, wp_ifnull, wp_ifnonnull, wp_acmp_eq, wp_acmp_ne, wp_tableswitch, wp_get0, wp_put0, wp_get1, wp_put1, wp_get2, wp_put2, wp_get3, wp_put3, wp_new, wp_newarray, wp_anewarray, wp_alen, wp_iaload, wp_laload, wp_baload, wp_aaload, wp_iastore, wp_lastore, wp_bastore, wp_aastore, wp_return, wp_ireturnI, wp_ireturnZ, wp_lreturn, wp_areturnO, wp_areturnA, wp_max, wp_min, wp_obj, wp_virt, wp_nil, ld_I0, ld_Is, ld_J0, ld_Js, ld_A0, ld_As, ha_0, ha_s, cx_put1, cx_put2, cx_dl, cx_tgt, true_and, and_true, Nat.reduceAdd, Nat.reduceSub, Int.reduceAdd, Int.reduceNeg, Int.reduceToNat, Int.reduceSub, Int.cast_ofNat_Int, List.take_succ_cons, List.take_zero, List.drop_succ_cons, List.drop_zero, List.take_nil, List.drop_nil, Option.toList_some, Option.toList_none, List.cons_append, List.nil_append, wp_spec, ne_eq, Nat.reduceEqDiff, not_false_eq_true, true_or, or_true, N.2.1]
    exact loop 6 0 _ _ (by decide) (by decide) (NI.RI N).1 (NI.RI N).2
  simp only [wp_iconst, wp_bipush, wp_sipush, wp_ldc, wp_ldc2_w, wp_lconst0, wp_lconst1, wp_aconst_null, wp_iload_0, wp_istore_0, wp_iload_1, wp_istore_1, wp_iload_2, wp_istore_2, wp_iload_3, wp_istore_3, wp_iload, wp_istore, wp_lload_0, wp_lstore_0, wp_lload_1, wp_lstore_1, wp_lload_2, wp_lstore_2, wp_lload_3, wp_lstore_3, wp_lload, wp_lstore, wp_aload_0, wp_astore_0, wp_aload_1, wp_astore_1, wp_aload_2, wp_astore_2, wp_aload_3, wp_astore_3, wp_aload, wp_astore, wp_iinc, wp_iadd, wp_isub, wp_imul, wp_iand, wp_ior, wp_ixor, wp_ishl, wp_ishr, wp_iushr, wp_irem, wp_ladd, wp_lsub, wp_lmul, wp_land, wp_lor, wp_lxor, wp_lshl, wp_lshr, wp_lushr, wp_lrem, wp_lcmp, wp_i2l, wp_l2i, wp_dupI, wp_dupA, wp_dup2J, wp_dup2IA, wp_popI, wp_popA, wp_pop2, wp_goto, wp_if_eq, wp_icmp_eq, wp_if_ne, wp_icmp_ne, wp_if_lt, wp_icmp_lt, wp_if_ge, wp_icmp_ge, wp_if_gt, wp_icmp_gt, wp_if_le, wp_icmp_le, wp_ifnull, wp_ifnonnull, wp_acmp_eq, wp_acmp_ne, wp_tableswitch, wp_get0, wp_put0, wp_get1, wp_put1, wp_get2, wp_put2, wp_get3, wp_put3, wp_new, wp_newarray, wp_anewarray, wp_alen, wp_iaload, wp_laload, wp_baload, wp_aaload, wp_iastore, wp_lastore, wp_bastore, wp_aastore, wp_return, wp_ireturnI, wp_ireturnZ, wp_lreturn, wp_areturnO, wp_areturnA, wp_max, wp_min, wp_obj, wp_virt, wp_nil, ld_I0, ld_Is, ld_J0, ld_Js, ld_A0, ld_As, ha_0, ha_s, cx_put1, cx_put2, cx_dl, cx_tgt, true_and, and_true, Nat.reduceAdd, Nat.reduceSub, Int.reduceAdd, Int.reduceNeg, Int.reduceToNat, Int.reduceSub, Int.cast_ofNat_Int, List.take_succ_cons, List.take_zero, List.drop_succ_cons, List.drop_zero, List.take_nil, List.drop_nil, Option.toList_some, Option.toList_none, List.cons_append, List.nil_append, wp_spec, ne_eq, Nat.reduceEqDiff, not_false_eq_true, true_or, or_true]
  refine ⟨fun q => ?_, fun q => ?_⟩
  · refine bx_X11_init_584 hY (pf1_ok hY) ?_
    simp only [wp_iconst, wp_bipush, wp_sipush, wp_ldc, wp_ldc2_w, wp_lconst0, wp_lconst1, wp_aconst_null, wp_iload_0, wp_istore_0, wp_iload_1, wp_istore_1, wp_iload_2, wp_istore_2, wp_iload_3, wp_istore_3, wp_iload, wp_istore, wp_lload_0, wp_lstore_0, wp_lload_1, wp_lstore_1, wp_lload_2, wp_lstore_2, wp_lload_3, wp_lstore_3, wp_lload, wp_lstore, wp_aload_0, wp_astore_0, wp_aload_1, wp_astore_1, wp_aload_2, wp_astore_2, wp_aload_3, wp_astore_3, wp_aload, wp_astore, wp_iinc, wp_iadd, wp_isub, wp_imul, wp_iand, wp_ior, wp_ixor, wp_ishl, wp_ishr, wp_iushr, wp_irem, wp_ladd, wp_lsub, wp_lmul, wp_land, wp_lor, wp_lxor, wp_lshl, wp_lshr, wp_lushr, wp_lrem, wp_lcmp, wp_i2l, wp_l2i, wp_dupI, wp_dupA, wp_dup2J, wp_dup2IA, wp_popI, wp_popA, wp_pop2, wp_goto, wp_if_eq, wp_icmp_eq, wp_if_ne, wp_icmp_ne, wp_if_lt, wp_icmp_lt, wp_if_ge, wp_icmp_ge, wp_if_gt, wp_icmp_gt, wp_if_le, wp_icmp_le, wp_ifnull, wp_ifnonnull, wp_acmp_eq, wp_acmp_ne, wp_tableswitch, wp_get0, wp_put0, wp_get1, wp_put1, wp_get2, wp_put2, wp_get3, wp_put3, wp_new, wp_newarray, wp_anewarray, wp_alen, wp_iaload, wp_laload, wp_baload, wp_aaload, wp_iastore, wp_lastore, wp_bastore, wp_aastore, wp_return, wp_ireturnI, wp_ireturnZ, wp_lreturn, wp_areturnO, wp_areturnA, wp_max, wp_min, wp_obj, wp_virt, wp_nil, ld_I0, ld_Is, ld_J0, ld_Js, ld_A0, ld_As, ha_0, ha_s, cx_put1, cx_put2, cx_dl, cx_tgt, true_and, and_true, Nat.reduceAdd, Nat.reduceSub, Int.reduceAdd, Int.reduceNeg, Int.reduceToNat, Int.reduceSub, Int.cast_ofNat_Int, List.take_succ_cons, List.take_zero, List.drop_succ_cons, List.drop_zero, List.take_nil, List.drop_nil, Option.toList_some, Option.toList_none, List.cons_append, List.nil_append, wp_spec, ne_eq, Nat.reduceEqDiff, not_false_eq_true, true_or, or_true]
    refine ⟨fun q2 => ?_, fun q2 => ?_⟩
    · refine bx_X11_init_595 hY (pf1_ok hY) ?_
      simp only [wp_iconst, wp_bipush, wp_sipush, wp_ldc, wp_ldc2_w, wp_lconst0, wp_lconst1, wp_aconst_null, wp_iload_0, wp_istore_0, wp_iload_1, wp_istore_1, wp_iload_2, wp_istore_2, wp_iload_3, wp_istore_3, wp_iload, wp_istore, wp_lload_0, wp_lstore_0, wp_lload_1, wp_lstore_1, wp_lload_2, wp_lstore_2, wp_lload_3, wp_lstore_3, wp_lload, wp_lstore, wp_aload_0, wp_astore_0, wp_aload_1, wp_astore_1, wp_aload_2, wp_astore_2, wp_aload_3, wp_astore_3, wp_aload, wp_astore, wp_iinc, wp_iadd, wp_isub, wp_imul, wp_iand, wp_ior, wp_ixor, wp_ishl, wp_ishr, wp_iushr, wp_irem, wp_ladd, wp_lsub, wp_lmul, wp_land, wp_lor, wp_lxor, wp_lshl, wp_lshr, wp_lushr, wp_lrem, wp_lcmp, wp_i2l, wp_l2i, wp_dupI, wp_dupA, wp_dup2J, wp_dup2IA, wp_popI, wp_popA, wp_pop2, wp_goto, wp_if_eq, wp_icmp_eq, wp_if_ne, wp_icmp_ne, wp_if_lt, wp_icmp_lt, wp_if_ge, wp_icmp_ge, wp_if_gt, wp_icmp_gt, wp_if_le, wp_icmp_le, wp_ifnull, wp_ifnonnull, wp_acmp_eq, wp_acmp_ne, wp_tableswitch, wp_get0, wp_put0, wp_get1, wp_put1, wp_get2, wp_put2, wp_get3, wp_put3, wp_new, wp_newarray, wp_anewarray, wp_alen, wp_iaload, wp_laload, wp_baload, wp_aaload, wp_iastore, wp_lastore, wp_bastore, wp_aastore, wp_return, wp_ireturnI, wp_ireturnZ, wp_lreturn, wp_areturnO, wp_areturnA, wp_max, wp_min, wp_obj, wp_virt, wp_nil, ld_I0, ld_Is, ld_J0, ld_Js, ld_A0, ld_As, ha_0, ha_s, cx_put1, cx_put2, cx_dl, cx_tgt, true_and, and_true, Nat.reduceAdd, Nat.reduceSub, Int.reduceAdd, Int.reduceNeg, Int.reduceToNat, Int.reduceSub, Int.cast_ofNat_Int, List.take_succ_cons, List.take_zero, List.drop_succ_cons, List.drop_zero, List.take_nil, List.drop_nil, Option.toList_some, Option.toList_none, List.cons_append, List.nil_append, wp_spec, ne_eq, Nat.reduceEqDiff, not_false_eq_true, true_or, or_true]
      have : cn a = a := by unfold cn; rw [if_neg (by omega), if_pos (by omega)]
      rw [this] at j596
      exact j596
    · have : cn a = 6 := by unfold cn; rw [if_neg (by omega), if_neg (by omega)]
      rw [this] at j596
      exact j596
  · have : cn a = 2 := by unfold cn; rw [if_pos (by omega)]
    rw [this] at j596
    exact j596
