/-! the class, exactly: an opening is planned -/
def tgP (h : cx_Q) (e : Nat) (u : Int64) : Prop := f_key 6 u (cq_J h e 14) = cq_J h e 15
def chC (t : Int) (r rc x : Int64) : Int64 := if t = 1 then f_key 2 r x else rc
theorem kfi_rg {h : cx_Q} {b0 b1 : Nat} {u : Int64} {p : Int} {n : Nat} : kfi h b0 b1 u p n 0 = -1 ∨ (0 ≤ kfi h b0 b1 u p n 0 ∧ kfi h b0 b1 u p n 0 < n) := by
  unfold kfi
  rcases m_ka_rg (fo := cq_J h b0) (fp := cq_I h b1) (o := u) (p := p) (b := 0) (n := n) (k := 0) with q | q
  · rw [if_pos q]; exact Or.inl rfl
  · rw [if_neg (by omega)]; exact Or.inr (by omega)
/-- it is opened in this SESSION -/
def plOK (h : cx_Q) (s e k b2 : Nat) (t kf : Int) (key : Int64) : Prop := (0 ≤ kf ∧ tgP h e (cq_J h b2 kf)) ∨ (kf = -1 ∧ csOK t (cq_A h s 11) (cq_I h e 10) (cq_I h e 11) (cq_I h s 17) (cq_I h k 4) ∧ tgP h e key)
section
variable {Y : cx_Y} {K : Option cx_V → cx_Q → Prop} {c : Nat} {n L Z : Int} {E : Nat → Option Int} {h0 : cx_Q} {X : List Nat} {h : cx_Q}
theorem e_X4_plan (hY : cY Y) {a b s e k b0 b1 b2 w : Nat} {t kf : Int} {ch key : Int64} (H : CI c n L Z E h0 [] h) (hs : cq_s h a = 3) (hss : cq_s h s = 7) (hse : cq_s h e = 0) (eb : cq_A h a 0 = some b) (ek : cq_A h s 19 = some k) (e0 : cq_A h k 0 = some b0) (e1 : cq_A h k 1 = some b1) (e2 : cq_A h k 2 = some b2) (ew : cq_A h s 12 = some w) (ht : t = cT (cq_I h s 15) (cq_J h e 9) (cq_J h s 13)) (hkf : kf = kfi h b0 b1 (cq_J h e 9) (cq_I h e 11) (cq_I h k 4).toNat 0) (hch : ch = chC t (cq_J h s 6) (cq_J h s 10) (f_common (cq_J h w 0) (cq_J h e 9))) (hkey : key = lkC (nxI (cNew t (cq_I h e 11) (cq_I h s 17)).toNat ch))
    (hF : ∀ m g, 1 ≤ m → m ≤ 10 → CI c n L Z E h0 [] g → ox a b h g → ¬ plOK h s e k b2 t kf key → K (some (.inl m)) g)
    (hKp : 0 ≤ kf → kf < cq_I h k 4 → tgP h e (cq_J h b2 kf) → ∀ g, CI c n L Z E h0 [] g → ox a b h g → cq_I g a 1 = kf → cq_J g a 7 = cq_J h b2 kf → K (some (.inl 0)) g)
    (hOK : kf = -1 → csOK t (cq_A h s 11) (cq_I h e 10) (cq_I h e 11) (cq_I h s 17) (cq_I h k 4) → tgP h e key → ∀ g, CI c n L Z E h0 [] g → ox a b h g → cq_I g a 1 = -1 → cq_I g a 2 = t → cq_I g a 3 = cOld t (cq_A h s 11) (cq_I h e 10) (cq_I h s 17) → cq_I g a 4 = cNew t (cq_I h e 11) (cq_I h s 17) → (t = 1 → cq_J g a 5 = f_key 1 (cq_J h s 6) (f_common (cq_J h w 0) (cq_J h e 9))) → cq_J g a 6 = nxI ((cNew t (cq_I h e 11) (cq_I h s 17)).toNat + 1) ch → cq_J g a 7 = key → (∀ i, 0 ≤ i → i < cOld t (cq_A h s 11) (cq_I h e 10) (cq_I h s 17) → cq_J g b i = lkC (nxI i.toNat (cq_J h s 10))) → (∀ i, 0 ≤ i → i < cNew t (cq_I h e 11) (cq_I h s 17) → cq_J g b (cOld t (cq_A h s 11) (cq_I h e 10) (cq_I h s 17) + i) = lkC (nxI i.toNat ch)) → K (some (.inl 0)) g) : cw Y mi_X4_plan K 0 [some (.inr (.inr (some a))), some (.inr (.inr (some s))), some (.inr (.inr (some e))), none, none, none] [] h 0 0 := by
  have sk : cq_s h k = 1 := H.ta hss (own_9 (by decide)) ek
  have sb : cq_s h b = 175 := H.ta hs (own_9 (by decide)) eb
  have sb0 : cq_s h b0 = 171 := H.ta sk (own_9 (by decide)) e0
  have sb2 : cq_s h b2 = 173 := H.ta sk (own_9 (by decide)) e2
  have sb1 : cq_s h b1 = 172 := H.ta sk (own_9 (by decide)) e1
  have sw : cq_s h w = 6 := H.ta hss (own_9 (by decide)) ew
  have ik := H.i1_4 sk
  have na : ¬ s = a := ns hss hs (by decide)
  have nk : ¬ k = a := ns sk hs (by decide)
  have ne : ¬ e = a := ns hse hs (by decide)
  have neb : ¬ e = b := ns hse sb (by decide)
  have nsb : ¬ s = b := ns hss sb (by decide)
  have nwa : ¬ w = a := ns sw hs (by decide)
  have nwb : ¬ w = b := ns sw sb (by decide)
  have nab : ¬ a = b := ns hs sb (by decide)
  have nba : ¬ b = a := fun e => nab e.symm
  have t01 : t = 0 ∨ t = 1 := by rw [ht]; unfold cT; split <;> omega
  have kr := kfi_rg (h := h) (b0 := b0) (b1 := b1) (u := cq_J h e 9) (p := cq_I h e 11) (n := (cq_I h k 4).toNat)
  rw [← hkf] at kr
  have j164 : ∀ g lv3 lv4 lv5, CI c n L Z E h0 [] g → ox a b h g → (tgP h e (cq_J g a 7) → K (some (.inl 0)) g) → (¬ tgP h e (cq_J g a 7) → K (some (.inl 4)) g) → cw Y mi_X4_plan K 164 [some (.inr (.inr (some a))), some (.inr (.inr (some s))), some (.inr (.inr (some e))), lv3, lv4, lv5] [] g 0 0 := by
    intro g lv3 lv4 lv5 G kg K0 K4
    have gs : cq_s g a = 3 := kg.s hs
    have gse : cq_s g e = 0 := kg.s hse
    have ge : cq_J g e = cq_J h e := kg.2.2.2.2.2 e ne neb
    have j180 : ∀ m : Int, K (some (.inl m)) g → cw Y mi_X4_plan K 180 [some (.inr (.inr (some a))), some (.inr (.inr (some s))), some (.inr (.inr (some e))), lv3, lv4, lv5] [.inl m] g 0 0 := by
      intro m q
      refine bx_X4_plan_180 hY (pf2_ok hY) ?_
      simp only [wp_iconst, wp_bipush, wp_sipush, wp_ldc, wp_ldc2_w, wp_lconst0, wp_lconst1, wp_aconst_null, wp_iload_0, wp_istore_0, wp_iload_1, wp_istore_1, wp_iload_2, wp_istore_2, wp_iload_3, wp_istore_3, wp_iload, wp_istore, wp_lload_0, wp_lstore_0, wp_lload_1, wp_lstore_1, wp_lload_2, wp_lstore_2, wp_lload_3, wp_lstore_3, wp_lload, wp_lstore, wp_aload_0, wp_astore_0, wp_aload_1, wp_astore_1, wp_aload_2, wp_astore_2, wp_aload_3, wp_astore_3, wp_aload, wp_astore, wp_iinc, wp_iadd, wp_isub, wp_imul, wp_iand, wp_ior, wp_ixor, wp_ishl, wp_ishr, wp_iushr, wp_irem, wp_ladd, wp_lsub, wp_lmul, wp_land, wp_lor, wp_lxor, wp_lshl, wp_lshr, wp_lushr, wp_lrem, wp_lcmp, wp_i2l, wp_l2i, wp_dupI, wp_dupA, wp_dup2J, wp_dup2IA, wp_popI, wp_popA, wp_pop2, wp_goto, wp_if_eq, wp_icmp_eq, wp_if_ne, wp_icmp_ne, wp_if_lt, wp_icmp_lt, wp_if_ge, wp_icmp_ge, wp_if_gt, wp_icmp_gt, wp_if_le, wp_icmp_le, wp_ifnull, wp_ifnonnull, wp_acmp_eq, wp_acmp_ne, wp_tableswitch, wp_get0, wp_put0, wp_get1, wp_put1, wp_get2, wp_put2, wp_get3, wp_put3, wp_new, wp_newarray, wp_anewarray, wp_alen, wp_iaload, wp_laload, wp_baload, wp_aaload, wp_iastore, wp_lastore, wp_bastore, wp_aastore, wp_return, wp_ireturnI, wp_ireturnZ, wp_lreturn, wp_areturnO, wp_areturnA, wp_max, wp_min, wp_obj, wp_virt, wp_nil, ld_I0, ld_Is, ld_J0, ld_Js, ld_A0, ld_As, ha_0, ha_s, cx_put1, cx_put2, cx_dl, cx_tgt, true_and, and_true, Nat.reduceAdd, Nat.reduceSub, Int.reduceAdd, Int.reduceNeg, Int.reduceToNat, Int.reduceSub, Int.cast_ofNat_Int, List.take_succ_cons, List.take_zero, List.drop_succ_cons, List.drop_zero, List.take_nil, List.drop_nil, Option.toList_some, Option.toList_none, List.cons_append, List.nil_append, wp_spec, ne_eq, Nat.reduceEqDiff, not_false_eq_true, true_or, or_true]
      exact q
    refine bx_X4_plan_164 hY (pf2_ok hY) ?_
    simp only [wp_iconst, wp_bipush, wp_sipush, wp_ldc, wp_ldc2_w, wp_lconst0, wp_lconst1, wp_aconst_null, wp_iload_0, wp_istore_0, wp_iload_1, wp_istore_1, wp_iload_2, wp_istore_2, wp_iload_3, wp_istore_3, wp_iload, wp_istore, wp_lload_0, wp_lstore_0, wp_lload_1, wp_lstore_1, wp_lload_2, wp_lstore_2, wp_lload_3, wp_lstore_3, wp_lload, wp_lstore, wp_aload_0, wp_astore_0, wp_aload_1, wp_astore_1, wp_aload_2, wp_astore_2, wp_aload_3, wp_astore_3, wp_aload, wp_astore, wp_iinc, wp_iadd, wp_isub, wp_imul, wp_iand, wp_ior, wp_ixor, wp_ishl, wp_ishr, wp_iushr, wp_irem, wp_ladd, wp_lsub, wp_lmul, wp_land, wp_lor, wp_lxor, wp_lshl, wp_lshr, wp_lushr, wp_lrem, wp_lcmp, wp_i2l, wp_l2i, wp_dupI, wp_dupA, wp_dup2J, wp_dup2IA, wp_popI, wp_popA, wp_pop2, wp_goto, wp_if_eq, wp_icmp_eq, wp_if_ne, wp_icmp_ne, wp_if_lt, wp_icmp_lt, wp_if_ge, wp_icmp_ge, wp_if_gt, wp_icmp_gt, wp_if_le, wp_icmp_le, wp_ifnull, wp_ifnonnull, wp_acmp_eq, wp_acmp_ne, wp_tableswitch, wp_get0, wp_put0, wp_get1, wp_put1, wp_get2, wp_put2, wp_get3, wp_put3, wp_new, wp_newarray, wp_anewarray, wp_alen, wp_iaload, wp_laload, wp_baload, wp_aaload, wp_iastore, wp_lastore, wp_bastore, wp_aastore, wp_return, wp_ireturnI, wp_ireturnZ, wp_lreturn, wp_areturnO, wp_areturnA, wp_max, wp_min, wp_obj, wp_virt, wp_nil, ld_I0, ld_Is, ld_J0, ld_Js, ld_A0, ld_As, ha_0, ha_s, cx_put1, cx_put2, cx_dl, cx_tgt, true_and, and_true, Nat.reduceAdd, Nat.reduceSub, Int.reduceAdd, Int.reduceNeg, Int.reduceToNat, Int.reduceSub, Int.cast_ofNat_Int, List.take_succ_cons, List.take_zero, List.drop_succ_cons, List.drop_zero, List.take_nil, List.drop_nil, Option.toList_some, Option.toList_none, List.cons_append, List.nil_append, wp_spec, ne_eq, Nat.reduceEqDiff, not_false_eq_true, true_or, or_true, gs]
    refine cl_X0_hasTagOf (Nat.le_of_ble_eq_true rfl) gse (Nat.le_refl _) (Nat.le_refl _) (e_X0_hasTagOf hY gse (fun q => ?_) (fun q => ?_))
    · rw [ge] at q
      refine bx_X4_plan_172 hY (pf2_ok hY) ?_
      simp only [wp_iconst, wp_bipush, wp_sipush, wp_ldc, wp_ldc2_w, wp_lconst0, wp_lconst1, wp_aconst_null, wp_iload_0, wp_istore_0, wp_iload_1, wp_istore_1, wp_iload_2, wp_istore_2, wp_iload_3, wp_istore_3, wp_iload, wp_istore, wp_lload_0, wp_lstore_0, wp_lload_1, wp_lstore_1, wp_lload_2, wp_lstore_2, wp_lload_3, wp_lstore_3, wp_lload, wp_lstore, wp_aload_0, wp_astore_0, wp_aload_1, wp_astore_1, wp_aload_2, wp_astore_2, wp_aload_3, wp_astore_3, wp_aload, wp_astore, wp_iinc, wp_iadd, wp_isub, wp_imul, wp_iand, wp_ior, wp_ixor, wp_ishl, wp_ishr, wp_iushr, wp_irem, wp_ladd, wp_lsub, wp_lmul, wp_land, wp_lor, wp_lxor, wp_lshl, wp_lshr, wp_lushr, wp_lrem, wp_lcmp, wp_i2l, wp_l2i, wp_dupI, wp_dupA, wp_dup2J, wp_dup2IA, wp_popI, wp_popA, wp_pop2, wp_goto, wp_if_eq, wp_icmp_eq, wp_if_ne, wp_icmp_ne, wp_if_lt, wp_icmp_lt, wp_if_ge, wp_icmp_ge, wp_if_gt, wp_icmp_gt, wp_if_le, wp_icmp_le, wp_ifnull, wp_ifnonnull, wp_acmp_eq, wp_acmp_ne, wp_tableswitch, wp_get0, wp_put0, wp_get1, wp_put1, wp_get2, wp_put2, wp_get3, wp_put3, wp_new, wp_newarray, wp_anewarray, wp_alen, wp_iaload, wp_laload, wp_baload, wp_aaload, wp_iastore, wp_lastore, wp_bastore, wp_aastore, wp_return, wp_ireturnI, wp_ireturnZ, wp_lreturn, wp_areturnO, wp_areturnA, wp_max, wp_min, wp_obj, wp_virt, wp_nil, ld_I0, ld_Is, ld_J0, ld_Js, ld_A0, ld_As, ha_0, ha_s, cx_put1, cx_put2, cx_dl, cx_tgt, true_and, and_true, Nat.reduceAdd, Nat.reduceSub, Int.reduceAdd, Int.reduceNeg, Int.reduceToNat, Int.reduceSub, Int.cast_ofNat_Int, List.take_succ_cons, List.take_zero, List.drop_succ_cons, List.drop_zero, List.take_nil, List.drop_nil, Option.toList_some, Option.toList_none, List.cons_append, List.nil_append, wp_spec, ne_eq, Nat.reduceEqDiff, not_false_eq_true, true_or, or_true]
      refine ⟨fun _ => ?_, fun q => absurd trivial q⟩
      refine bx_X4_plan_179 hY (pf2_ok hY) ?_
      simp only [wp_iconst, wp_bipush, wp_sipush, wp_ldc, wp_ldc2_w, wp_lconst0, wp_lconst1, wp_aconst_null, wp_iload_0, wp_istore_0, wp_iload_1, wp_istore_1, wp_iload_2, wp_istore_2, wp_iload_3, wp_istore_3, wp_iload, wp_istore, wp_lload_0, wp_lstore_0, wp_lload_1, wp_lstore_1, wp_lload_2, wp_lstore_2, wp_lload_3, wp_lstore_3, wp_lload, wp_lstore, wp_aload_0, wp_astore_0, wp_aload_1, wp_astore_1, wp_aload_2, wp_astore_2, wp_aload_3, wp_astore_3, wp_aload, wp_astore, wp_iinc, wp_iadd, wp_isub, wp_imul, wp_iand, wp_ior, wp_ixor, wp_ishl, wp_ishr, wp_iushr, wp_irem, wp_ladd, wp_lsub, wp_lmul, wp_land, wp_lor, wp_lxor, wp_lshl, wp_lshr, wp_lushr, wp_lrem, wp_lcmp, wp_i2l, wp_l2i, wp_dupI, wp_dupA, wp_dup2J, wp_dup2IA, wp_popI, wp_popA, wp_pop2, wp_goto, wp_if_eq, wp_icmp_eq, wp_if_ne, wp_icmp_ne, wp_if_lt, wp_icmp_lt, wp_if_ge, wp_icmp_ge, wp_if_gt, wp_icmp_gt, wp_if_le, wp_icmp_le, wp_ifnull, wp_ifnonnull, wp_acmp_eq, wp_acmp_ne, wp_tableswitch, wp_get0, wp_put0, wp_get1, wp_put1, wp_get2, wp_put2, wp_get3, wp_put3, wp_new, wp_newarray, wp_anewarray, wp_alen, wp_iaload, wp_laload, wp_baload, wp_aaload, wp_iastore, wp_lastore, wp_bastore, wp_aastore, wp_return, wp_ireturnI, wp_ireturnZ, wp_lreturn, wp_areturnO, wp_areturnA, wp_max, wp_min, wp_obj, wp_virt, wp_nil, ld_I0, ld_Is, ld_J0, ld_Js, ld_A0, ld_As, ha_0, ha_s, cx_put1, cx_put2, cx_dl, cx_tgt, true_and, and_true, Nat.reduceAdd, Nat.reduceSub, Int.reduceAdd, Int.reduceNeg, Int.reduceToNat, Int.reduceSub, Int.cast_ofNat_Int, List.take_succ_cons, List.take_zero, List.drop_succ_cons, List.drop_zero, List.take_nil, List.drop_nil, Option.toList_some, Option.toList_none, List.cons_append, List.nil_append, wp_spec, ne_eq, Nat.reduceEqDiff, not_false_eq_true, true_or, or_true]
      exact j180 4 (K4 q)
    · rw [ge] at q
      refine bx_X4_plan_172 hY (pf2_ok hY) ?_
      simp only [wp_iconst, wp_bipush, wp_sipush, wp_ldc, wp_ldc2_w, wp_lconst0, wp_lconst1, wp_aconst_null, wp_iload_0, wp_istore_0, wp_iload_1, wp_istore_1, wp_iload_2, wp_istore_2, wp_iload_3, wp_istore_3, wp_iload, wp_istore, wp_lload_0, wp_lstore_0, wp_lload_1, wp_lstore_1, wp_lload_2, wp_lstore_2, wp_lload_3, wp_lstore_3, wp_lload, wp_lstore, wp_aload_0, wp_astore_0, wp_aload_1, wp_astore_1, wp_aload_2, wp_astore_2, wp_aload_3, wp_astore_3, wp_aload, wp_astore, wp_iinc, wp_iadd, wp_isub, wp_imul, wp_iand, wp_ior, wp_ixor, wp_ishl, wp_ishr, wp_iushr, wp_irem, wp_ladd, wp_lsub, wp_lmul, wp_land, wp_lor, wp_lxor, wp_lshl, wp_lshr, wp_lushr, wp_lrem, wp_lcmp, wp_i2l, wp_l2i, wp_dupI, wp_dupA, wp_dup2J, wp_dup2IA, wp_popI, wp_popA, wp_pop2, wp_goto, wp_if_eq, wp_icmp_eq, wp_if_ne, wp_icmp_ne, wp_if_lt, wp_icmp_lt, wp_if_ge, wp_icmp_ge, wp_if_gt, wp_icmp_gt, wp_if_le, wp_icmp_le, wp_ifnull, wp_ifnonnull, wp_acmp_eq, wp_acmp_ne, wp_tableswitch, wp_get0, wp_put0, wp_get1, wp_put1, wp_get2, wp_put2, wp_get3, wp_put3, wp_new, wp_newarray, wp_anewarray, wp_alen, wp_iaload, wp_laload, wp_baload, wp_aaload, wp_iastore, wp_lastore, wp_bastore, wp_aastore, wp_return, wp_ireturnI, wp_ireturnZ, wp_lreturn, wp_areturnO, wp_areturnA, wp_max, wp_min, wp_obj, wp_virt, wp_nil, ld_I0, ld_Is, ld_J0, ld_Js, ld_A0, ld_As, ha_0, ha_s, cx_put1, cx_put2, cx_dl, cx_tgt, true_and, and_true, Nat.reduceAdd, Nat.reduceSub, Int.reduceAdd, Int.reduceNeg, Int.reduceToNat, Int.reduceSub, Int.cast_ofNat_Int, List.take_succ_cons, List.take_zero, List.drop_succ_cons, List.drop_zero, List.take_nil, List.drop_nil, Option.toList_some, Option.toList_none, List.cons_append, List.nil_append, wp_spec, ne_eq, Nat.reduceEqDiff, not_false_eq_true, true_or, or_true]
      exact ⟨fun q => absurd q (by decide), fun _ => j180 0 (K0 q)⟩
  have H1 := H.sI (a := a) (j := 2) (v := 0) hs (own_9 (by decide)) True.intro rfl
  have k1 : ox a b h (cq_sI h a 2 0) := ox.refl.sI
  have sk1 : cq_s (cq_sI h a 2 0) k = 1 := sk
  have ef : kfi (cq_sI h a 2 0) b0 b1 (cq_J h e 9) (cq_I h e 11) (cq_I (cq_sI h a 2 0) k 4).toNat 0 = kf := by
    rw [hkf]
    have q1 : cq_I (cq_sI h a 2 0) b1 = cq_I h b1 := k1.2.2.2.2.1 b1 (ns sb1 hs (by decide))
    have q2 : cq_I (cq_sI h a 2 0) k = cq_I h k := k1.2.2.2.2.1 k nk
    unfold kfi
    rw [q1, q2]
    rfl
  refine bx_X4_plan_0 hY (pf2_ok hY) ?_
  simp only [wp_iconst, wp_bipush, wp_sipush, wp_ldc, wp_ldc2_w, wp_lconst0, wp_lconst1, wp_aconst_null, wp_iload_0, wp_istore_0, wp_iload_1, wp_istore_1, wp_iload_2, wp_istore_2, wp_iload_3, wp_istore_3, wp_iload, wp_istore, wp_lload_0, wp_lstore_0, wp_lload_1, wp_lstore_1, wp_lload_2, wp_lstore_2, wp_lload_3, wp_lstore_3, wp_lload, wp_lstore, wp_aload_0, wp_astore_0, wp_aload_1, wp_astore_1, wp_aload_2, wp_astore_2, wp_aload_3, wp_astore_3, wp_aload, wp_astore, wp_iinc, wp_iadd, wp_isub, wp_imul, wp_iand, wp_ior, wp_ixor, wp_ishl, wp_ishr, wp_iushr, wp_irem, wp_ladd, wp_lsub, wp_lmul, wp_land, wp_lor, wp_lxor, wp_lshl, wp_lshr, wp_lushr, wp_lrem, wp_lcmp, wp_i2l, wp_l2i, wp_dupI, wp_dupA, wp_dup2J, wp_dup2IA, wp_popI, wp_popA, wp_pop2, wp_goto, wp_if_eq, wp_icmp_eq, wp_if_ne, wp_icmp_ne, wp_if_lt, wp_icmp_lt, wp_if_ge, wp_icmp_ge, wp_if_gt, wp_icmp_gt, wp_if_le, wp_icmp_le, wp_ifnull, wp_ifnonnull, wp_acmp_eq, wp_acmp_ne, wp_tableswitch, wp_get0, wp_put0, wp_get1, wp_put1, wp_get2, wp_put2, wp_get3, wp_put3, wp_new, wp_newarray, wp_anewarray, wp_alen, wp_iaload, wp_laload, wp_baload, wp_aaload, wp_iastore, wp_lastore, wp_bastore, wp_aastore, wp_return, wp_ireturnI, wp_ireturnZ, wp_lreturn, wp_areturnO, wp_areturnA, wp_max, wp_min, wp_obj, wp_virt, wp_nil, ld_I0, ld_Is, ld_J0, ld_Js, ld_A0, ld_As, ha_0, ha_s, cx_put1, cx_put2, cx_dl, cx_tgt, true_and, and_true, Nat.reduceAdd, Nat.reduceSub, Int.reduceAdd, Int.reduceNeg, Int.reduceToNat, Int.reduceSub, Int.cast_ofNat_Int, List.take_succ_cons, List.take_zero, List.drop_succ_cons, List.drop_zero, List.take_nil, List.drop_nil, Option.toList_some, Option.toList_none, List.cons_append, List.nil_append, wp_spec, ne_eq, Nat.reduceEqDiff, not_false_eq_true, true_or, or_true, hs, hss, hse, ek, ne, mm_sI, mm_sJ, mm_sA, mm_IJ, mm_IA, mm_JI, mm_JA, mm_AI, mm_AJ, mm_ssI, mm_ssJ, mm_ssA, mm_zI, mm_zJ, mm_zA, mm_nI, mm_nJ, mm_nA, Nat.left_eq_add, Nat.add_eq_left, Nat.add_left_cancel_iff, Nat.reduceEqDiff, Int.reduceEq, false_and, and_false, if_false, if_true, and_self, true_and, true_or, or_true, false_or, or_false]
  (repeat' (with_reducible (first | refine And.intro ?_ ?_ | intro _)))
  all_goals (try omega)
  refine cl_X1_find (Nat.le_of_ble_eq_true rfl) sk1 (Nat.le_refl _) (Nat.le_refl _) (e_X1_find hY H1 sk1 e0 e1 ?_)
  rw [ef]
  have G := H1
  have kg := k1
  generalize cq_sI h a 2 0 = g at G kg
  have gs : cq_s g a = 3 := kg.s hs
  have gss : cq_s g s = 7 := kg.s hss
  have gk : cq_A g s 19 = some k := by rw [kg.2.2.2.1]; exact ek
  have gsk : cq_s g k = 1 := kg.s sk
  have G1 := G.sI (a := a) (j := 1) (v := kf) gs (own_9 (by decide)) ⟨by omega, by omega⟩ rfl
  have k1' : ox a b h (cq_sI g a 1 kf) := kg.sI
  have i1' : cq_I (cq_sI g a 1 kf) a 1 = kf := by simp only [mm_sI, mm_sJ, mm_sA, mm_IJ, mm_IA, mm_JI, mm_JA, mm_AI, mm_AJ, mm_ssI, mm_ssJ, mm_ssA, mm_zI, mm_zJ, mm_zA, mm_nI, mm_nJ, mm_nA, Nat.left_eq_add, Nat.add_eq_left, Nat.add_left_cancel_iff, Nat.reduceEqDiff, Int.reduceEq, false_and, and_false, if_false, if_true, and_self, true_and, true_or, or_true, false_or, or_false]
  refine bx_X4_plan_21 hY (pf2_ok hY) ?_
  simp only [wp_iconst, wp_bipush, wp_sipush, wp_ldc, wp_ldc2_w, wp_lconst0, wp_lconst1, wp_aconst_null, wp_iload_0, wp_istore_0, wp_iload_1, wp_istore_1, wp_iload_2, wp_istore_2, wp_iload_3, wp_istore_3, wp_iload, wp_istore, wp_lload_0, wp_lstore_0, wp_lload_1, wp_lstore_1, wp_lload_2, wp_lstore_2, wp_lload_3, wp_lstore_3, wp_lload, wp_lstore, wp_aload_0, wp_astore_0, wp_aload_1, wp_astore_1, wp_aload_2, wp_astore_2, wp_aload_3, wp_astore_3, wp_aload, wp_astore, wp_iinc, wp_iadd, wp_isub, wp_imul, wp_iand, wp_ior, wp_ixor, wp_ishl, wp_ishr, wp_iushr, wp_irem, wp_ladd, wp_lsub, wp_lmul, wp_land, wp_lor, wp_lxor, wp_lshl, wp_lshr, wp_lushr, wp_lrem, wp_lcmp, wp_i2l, wp_l2i, wp_dupI, wp_dupA, wp_dup2J, wp_dup2IA, wp_popI, wp_popA, wp_pop2, wp_goto, wp_if_eq, wp_icmp_eq, wp_if_ne, wp_icmp_ne, wp_if_lt, wp_icmp_lt, wp_if_ge, wp_icmp_ge, wp_if_gt, wp_icmp_gt, wp_if_le, wp_icmp_le, wp_ifnull, wp_ifnonnull, wp_acmp_eq, wp_acmp_ne, wp_tableswitch, wp_get0, wp_put0, wp_get1, wp_put1, wp_get2, wp_put2, wp_get3, wp_put3, wp_new, wp_newarray, wp_anewarray, wp_alen, wp_iaload, wp_laload, wp_baload, wp_aaload, wp_iastore, wp_lastore, wp_bastore, wp_aastore, wp_return, wp_ireturnI, wp_ireturnZ, wp_lreturn, wp_areturnO, wp_areturnA, wp_max, wp_min, wp_obj, wp_virt, wp_nil, ld_I0, ld_Is, ld_J0, ld_Js, ld_A0, ld_As, ha_0, ha_s, cx_put1, cx_put2, cx_dl, cx_tgt, true_and, and_true, Nat.reduceAdd, Nat.reduceSub, Int.reduceAdd, Int.reduceNeg, Int.reduceToNat, Int.reduceSub, Int.cast_ofNat_Int, List.take_succ_cons, List.take_zero, List.drop_succ_cons, List.drop_zero, List.take_nil, List.drop_nil, Option.toList_some, Option.toList_none, List.cons_append, List.nil_append, wp_spec, ne_eq, Nat.reduceEqDiff, not_false_eq_true, true_or, or_true, gs, gss, gk, gsk, mm_sI, mm_sJ, mm_sA, mm_IJ, mm_IA, mm_JI, mm_JA, mm_AI, mm_AJ, mm_ssI, mm_ssJ, mm_ssA, mm_zI, mm_zJ, mm_zA, mm_nI, mm_nJ, mm_nA, Nat.left_eq_add, Nat.add_eq_left, Nat.add_left_cancel_iff, Nat.reduceEqDiff, Int.reduceEq, false_and, and_false, if_false, if_true, and_self, true_and, true_or, or_true, false_or, or_false]
  generalize cq_sI g a 1 kf = g1 at G1 k1' i1'
  have gs1 : cq_s g1 a = 3 := k1'.s hs
  have gss1 : cq_s g1 s = 7 := k1'.s hss
  have gse1 : cq_s g1 e = 0 := k1'.s hse
  have gk1 : cq_A g1 s 19 = some k := by rw [k1'.2.2.2.1]; exact ek
  have js1 : cq_J g1 s = cq_J h s := k1'.2.2.2.2.2 s na nsb
  have je1 : cq_J g1 e = cq_J h e := k1'.2.2.2.2.2 e ne neb
  have is1 : cq_I g1 s = cq_I h s := k1'.2.2.2.2.1 s na
  have ie1 : cq_I g1 e = cq_I h e := k1'.2.2.2.2.1 e ne
  have ik1 : cq_I g1 k = cq_I h k := k1'.2.2.2.2.1 k nk
  have A1 : cq_A g1 = cq_A h := k1'.2.2.2.1
  refine ⟨fun q => ?_, fun q => ?_⟩
  · have kf1 : kf = -1 := by omega
    refine bx_X4_plan_49 hY (pf2_ok hY) ?_
    simp only [wp_iconst, wp_bipush, wp_sipush, wp_ldc, wp_ldc2_w, wp_lconst0, wp_lconst1, wp_aconst_null, wp_iload_0, wp_istore_0, wp_iload_1, wp_istore_1, wp_iload_2, wp_istore_2, wp_iload_3, wp_istore_3, wp_iload, wp_istore, wp_lload_0, wp_lstore_0, wp_lload_1, wp_lstore_1, wp_lload_2, wp_lstore_2, wp_lload_3, wp_lstore_3, wp_lload, wp_lstore, wp_aload_0, wp_astore_0, wp_aload_1, wp_astore_1, wp_aload_2, wp_astore_2, wp_aload_3, wp_astore_3, wp_aload, wp_astore, wp_iinc, wp_iadd, wp_isub, wp_imul, wp_iand, wp_ior, wp_ixor, wp_ishl, wp_ishr, wp_iushr, wp_irem, wp_ladd, wp_lsub, wp_lmul, wp_land, wp_lor, wp_lxor, wp_lshl, wp_lshr, wp_lushr, wp_lrem, wp_lcmp, wp_i2l, wp_l2i, wp_dupI, wp_dupA, wp_dup2J, wp_dup2IA, wp_popI, wp_popA, wp_pop2, wp_goto, wp_if_eq, wp_icmp_eq, wp_if_ne, wp_icmp_ne, wp_if_lt, wp_icmp_lt, wp_if_ge, wp_icmp_ge, wp_if_gt, wp_icmp_gt, wp_if_le, wp_icmp_le, wp_ifnull, wp_ifnonnull, wp_acmp_eq, wp_acmp_ne, wp_tableswitch, wp_get0, wp_put0, wp_get1, wp_put1, wp_get2, wp_put2, wp_get3, wp_put3, wp_new, wp_newarray, wp_anewarray, wp_alen, wp_iaload, wp_laload, wp_baload, wp_aaload, wp_iastore, wp_lastore, wp_bastore, wp_aastore, wp_return, wp_ireturnI, wp_ireturnZ, wp_lreturn, wp_areturnO, wp_areturnA, wp_max, wp_min, wp_obj, wp_virt, wp_nil, ld_I0, ld_Is, ld_J0, ld_Js, ld_A0, ld_As, ha_0, ha_s, cx_put1, cx_put2, cx_dl, cx_tgt, true_and, and_true, Nat.reduceAdd, Nat.reduceSub, Int.reduceAdd, Int.reduceNeg, Int.reduceToNat, Int.reduceSub, Int.cast_ofNat_Int, List.take_succ_cons, List.take_zero, List.drop_succ_cons, List.drop_zero, List.take_nil, List.drop_nil, Option.toList_some, Option.toList_none, List.cons_append, List.nil_append, wp_spec, ne_eq, Nat.reduceEqDiff, not_false_eq_true, true_or, or_true]
    refine cl_X4_countSteps (Nat.le_of_ble_eq_true rfl) gs1 (Nat.le_refl _) (Nat.le_refl _) (e_X4_countSteps (b := b) (t := t) hY G1 gs1 gss1 gse1 gk1 (by rw [is1, je1, js1]; exact ht) (fun m g2 m1 m2 G2 k2 bad => ?_) (fun g2 G2 k2 ok J2 p1 p2 p3 p4 => ?_))
    · rw [A1, ie1, is1, ik1] at bad
      refine bx_X4_plan_55 hY (pf2_ok hY) ?_
      simp only [wp_iconst, wp_bipush, wp_sipush, wp_ldc, wp_ldc2_w, wp_lconst0, wp_lconst1, wp_aconst_null, wp_iload_0, wp_istore_0, wp_iload_1, wp_istore_1, wp_iload_2, wp_istore_2, wp_iload_3, wp_istore_3, wp_iload, wp_istore, wp_lload_0, wp_lstore_0, wp_lload_1, wp_lstore_1, wp_lload_2, wp_lstore_2, wp_lload_3, wp_lstore_3, wp_lload, wp_lstore, wp_aload_0, wp_astore_0, wp_aload_1, wp_astore_1, wp_aload_2, wp_astore_2, wp_aload_3, wp_astore_3, wp_aload, wp_astore, wp_iinc, wp_iadd, wp_isub, wp_imul, wp_iand, wp_ior, wp_ixor, wp_ishl, wp_ishr, wp_iushr, wp_irem, wp_ladd, wp_lsub, wp_lmul, wp_land, wp_lor, wp_lxor, wp_lshl, wp_lshr, wp_lushr, wp_lrem, wp_lcmp, wp_i2l, wp_l2i, wp_dupI, wp_dupA, wp_dup2J, wp_dup2IA, wp_popI, wp_popA, wp_pop2, wp_goto, wp_if_eq, wp_icmp_eq, wp_if_ne, wp_icmp_ne, wp_if_lt, wp_icmp_lt, wp_if_ge, wp_icmp_ge, wp_if_gt, wp_icmp_gt, wp_if_le, wp_icmp_le, wp_ifnull, wp_ifnonnull, wp_acmp_eq, wp_acmp_ne, wp_tableswitch, wp_get0, wp_put0, wp_get1, wp_put1, wp_get2, wp_put2, wp_get3, wp_put3, wp_new, wp_newarray, wp_anewarray, wp_alen, wp_iaload, wp_laload, wp_baload, wp_aaload, wp_iastore, wp_lastore, wp_bastore, wp_aastore, wp_return, wp_ireturnI, wp_ireturnZ, wp_lreturn, wp_areturnO, wp_areturnA, wp_max, wp_min, wp_obj, wp_virt, wp_nil, ld_I0, ld_Is, ld_J0, ld_Js, ld_A0, ld_As, ha_0, ha_s, cx_put1, cx_put2, cx_dl, cx_tgt, true_and, and_true, Nat.reduceAdd, Nat.reduceSub, Int.reduceAdd, Int.reduceNeg, Int.reduceToNat, Int.reduceSub, Int.cast_ofNat_Int, List.take_succ_cons, List.take_zero, List.drop_succ_cons, List.drop_zero, List.take_nil, List.drop_nil, Option.toList_some, Option.toList_none, List.cons_append, List.nil_append, wp_spec, ne_eq, Nat.reduceEqDiff, not_false_eq_true, true_or, or_true]
      refine ⟨fun z => absurd z (by omega), fun w => hF m g2 m1 m2 G2 (k1'.trans k2) (fun p => ?_)⟩
      rcases p with p | p
      · omega
      · exact bad p.2.1
    rw [A1, ie1, is1, ik1] at ok
    rw [A1, ie1, is1] at p3
    rw [ie1, is1] at p4
    rw [i1'] at p1
    have kk := k1'.trans k2
    have gs2 : cq_s g2 a = 3 := kk.s hs
    have gss2 : cq_s g2 s = 7 := kk.s hss
    have ob2 : cq_A g2 a 0 = some b := by rw [kk.2.2.2.1]; exact eb
    have ok' := ok
    unfold csOK at ok'
    have o3 : 0 ≤ cOld t (cq_A h s 11) (cq_I h e 10) (cq_I h s 17) := by unfold cOld; split <;> omega
    have e11 := H.i0_11 hse
    have o4 : 0 ≤ cNew t (cq_I h e 11) (cq_I h s 17) := by
      unfold cNew
      split
      · omega
      · have := ok'.2.1
        omega
    have js2 : cq_J g2 s = cq_J h s := kk.2.2.2.2.2 s na nsb
    refine bx_X4_plan_55 hY (pf2_ok hY) ?_
    simp only [wp_iconst, wp_bipush, wp_sipush, wp_ldc, wp_ldc2_w, wp_lconst0, wp_lconst1, wp_aconst_null, wp_iload_0, wp_istore_0, wp_iload_1, wp_istore_1, wp_iload_2, wp_istore_2, wp_iload_3, wp_istore_3, wp_iload, wp_istore, wp_lload_0, wp_lstore_0, wp_lload_1, wp_lstore_1, wp_lload_2, wp_lstore_2, wp_lload_3, wp_lstore_3, wp_lload, wp_lstore, wp_aload_0, wp_astore_0, wp_aload_1, wp_astore_1, wp_aload_2, wp_astore_2, wp_aload_3, wp_astore_3, wp_aload, wp_astore, wp_iinc, wp_iadd, wp_isub, wp_imul, wp_iand, wp_ior, wp_ixor, wp_ishl, wp_ishr, wp_iushr, wp_irem, wp_ladd, wp_lsub, wp_lmul, wp_land, wp_lor, wp_lxor, wp_lshl, wp_lshr, wp_lushr, wp_lrem, wp_lcmp, wp_i2l, wp_l2i, wp_dupI, wp_dupA, wp_dup2J, wp_dup2IA, wp_popI, wp_popA, wp_pop2, wp_goto, wp_if_eq, wp_icmp_eq, wp_if_ne, wp_icmp_ne, wp_if_lt, wp_icmp_lt, wp_if_ge, wp_icmp_ge, wp_if_gt, wp_icmp_gt, wp_if_le, wp_icmp_le, wp_ifnull, wp_ifnonnull, wp_acmp_eq, wp_acmp_ne, wp_tableswitch, wp_get0, wp_put0, wp_get1, wp_put1, wp_get2, wp_put2, wp_get3, wp_put3, wp_new, wp_newarray, wp_anewarray, wp_alen, wp_iaload, wp_laload, wp_baload, wp_aaload, wp_iastore, wp_lastore, wp_bastore, wp_aastore, wp_return, wp_ireturnI, wp_ireturnZ, wp_lreturn, wp_areturnO, wp_areturnA, wp_max, wp_min, wp_obj, wp_virt, wp_nil, ld_I0, ld_Is, ld_J0, ld_Js, ld_A0, ld_As, ha_0, ha_s, cx_put1, cx_put2, cx_dl, cx_tgt, true_and, and_true, Nat.reduceAdd, Nat.reduceSub, Int.reduceAdd, Int.reduceNeg, Int.reduceToNat, Int.reduceSub, Int.cast_ofNat_Int, List.take_succ_cons, List.take_zero, List.drop_succ_cons, List.drop_zero, List.take_nil, List.drop_nil, Option.toList_some, Option.toList_none, List.cons_append, List.nil_append, wp_spec, ne_eq, Nat.reduceEqDiff, not_false_eq_true, true_or, or_true]
    refine ⟨fun _ => ?_, fun w => absurd trivial w⟩
    refine bx_X4_plan_62 hY (pf2_ok hY) ?_
    simp only [wp_iconst, wp_bipush, wp_sipush, wp_ldc, wp_ldc2_w, wp_lconst0, wp_lconst1, wp_aconst_null, wp_iload_0, wp_istore_0, wp_iload_1, wp_istore_1, wp_iload_2, wp_istore_2, wp_iload_3, wp_istore_3, wp_iload, wp_istore, wp_lload_0, wp_lstore_0, wp_lload_1, wp_lstore_1, wp_lload_2, wp_lstore_2, wp_lload_3, wp_lstore_3, wp_lload, wp_lstore, wp_aload_0, wp_astore_0, wp_aload_1, wp_astore_1, wp_aload_2, wp_astore_2, wp_aload_3, wp_astore_3, wp_aload, wp_astore, wp_iinc, wp_iadd, wp_isub, wp_imul, wp_iand, wp_ior, wp_ixor, wp_ishl, wp_ishr, wp_iushr, wp_irem, wp_ladd, wp_lsub, wp_lmul, wp_land, wp_lor, wp_lxor, wp_lshl, wp_lshr, wp_lushr, wp_lrem, wp_lcmp, wp_i2l, wp_l2i, wp_dupI, wp_dupA, wp_dup2J, wp_dup2IA, wp_popI, wp_popA, wp_pop2, wp_goto, wp_if_eq, wp_icmp_eq, wp_if_ne, wp_icmp_ne, wp_if_lt, wp_icmp_lt, wp_if_ge, wp_icmp_ge, wp_if_gt, wp_icmp_gt, wp_if_le, wp_icmp_le, wp_ifnull, wp_ifnonnull, wp_acmp_eq, wp_acmp_ne, wp_tableswitch, wp_get0, wp_put0, wp_get1, wp_put1, wp_get2, wp_put2, wp_get3, wp_put3, wp_new, wp_newarray, wp_anewarray, wp_alen, wp_iaload, wp_laload, wp_baload, wp_aaload, wp_iastore, wp_lastore, wp_bastore, wp_aastore, wp_return, wp_ireturnI, wp_ireturnZ, wp_lreturn, wp_areturnO, wp_areturnA, wp_max, wp_min, wp_obj, wp_virt, wp_nil, ld_I0, ld_Is, ld_J0, ld_Js, ld_A0, ld_As, ha_0, ha_s, cx_put1, cx_put2, cx_dl, cx_tgt, true_and, and_true, Nat.reduceAdd, Nat.reduceSub, Int.reduceAdd, Int.reduceNeg, Int.reduceToNat, Int.reduceSub, Int.cast_ofNat_Int, List.take_succ_cons, List.take_zero, List.drop_succ_cons, List.drop_zero, List.take_nil, List.drop_nil, Option.toList_some, Option.toList_none, List.cons_append, List.nil_append, wp_spec, ne_eq, Nat.reduceEqDiff, not_false_eq_true, true_or, or_true, gs2, gss2, js2, mm_sI, mm_sJ, mm_sA, mm_IJ, mm_IA, mm_JI, mm_JA, mm_AI, mm_AJ, mm_ssI, mm_ssJ, mm_ssA, mm_zI, mm_zJ, mm_zA, mm_nI, mm_nJ, mm_nA, p3]
    have G2' := G2.sJ (a := a) (j := 6) (v := cq_J h s 10) gs2 (own_9 (by decide))
    refine cl_X4_step (Nat.le_of_ble_eq_true rfl) gs2 (Nat.le_refl _) (Nat.le_refl _) (e_X4_step hY G2' gs2 ob2 (by omega) (fun g3 G3 q3 => ?_))
    have j6 : cq_J (cq_sJ g2 a 6 (cq_J h s 10)) a 6 = cq_J h s 10 := by simp only [mm_sI, mm_sJ, mm_sA, mm_IJ, mm_IA, mm_JI, mm_JA, mm_AI, mm_AJ, mm_ssI, mm_ssJ, mm_ssA, mm_zI, mm_zJ, mm_zA, mm_nI, mm_nJ, mm_nA, Nat.left_eq_add, Nat.add_eq_left, Nat.add_left_cancel_iff, Nat.reduceEqDiff, Int.reduceEq, false_and, and_false, if_false, if_true, and_self, true_and, true_or, or_true, false_or, or_false]
    rw [j6] at q3
    have k3 : ox a b h g3 := by rw [q3]; exact kk.sJ.rJ.sJ
    have I3 : cq_I g3 = cq_I g2 := by rw [q3]; rfl
    have J3 : ∀ i, 0 ≤ i → i < cOld t (cq_A h s 11) (cq_I h e 10) (cq_I h s 17) → cq_J g3 b i = lkC (nxI i.toNat (cq_J h s 10)) := by
      intro i i0 i1
      rw [q3, mm_sJ, if_neg (fun e => nba e.1), rr_J, if_pos rfl]
      unfold stF
      rw [if_pos (by omega)]
      have : i - 0 = i := by omega
      rw [this]
    have c3 : cq_J g3 a 6 = nxI (cOld t (cq_A h s 11) (cq_I h e 10) (cq_I h s 17)).toNat (cq_J h s 10) := by rw [q3, mm_sJ, if_pos ⟨rfl, rfl⟩]
    clear q3 j6 G2'
    have gs3 : cq_s g3 a = 3 := k3.s hs
    have gss3 : cq_s g3 s = 7 := k3.s hss
    have gse3 : cq_s g3 e = 0 := k3.s hse
    have gsw3 : cq_s g3 w = 6 := k3.s sw
    have ew3 : cq_A g3 s 12 = some w := by rw [k3.2.2.2.1]; exact ew
    have js3 : cq_J g3 s = cq_J h s := k3.2.2.2.2.2 s na nsb
    have je3 : cq_J g3 e = cq_J h e := k3.2.2.2.2.2 e ne neb
    have jw3 : cq_J g3 w = cq_J h w := k3.2.2.2.2.2 w nwa nwb
    have p1' : cq_I g3 a 1 = -1 := by rw [I3, p1]; exact kf1
    have p2' : cq_I g3 a 2 = t := by rw [I3]; exact p2
    have p3' : cq_I g3 a 3 = cOld t (cq_A h s 11) (cq_I h e 10) (cq_I h s 17) := by rw [I3]; exact p3
    have p4' : cq_I g3 a 4 = cNew t (cq_I h e 11) (cq_I h s 17) := by rw [I3]; exact p4
    have j130 : ∀ g lv3 lv4 lv5, CI c n L Z E h0 [] g → ox a b h g → cq_I g a = cq_I g3 a → cq_J g b = cq_J g3 b → cq_J g a 6 = ch → (t = 1 → cq_J g a 5 = f_key 1 (cq_J h s 6) (f_common (cq_J h w 0) (cq_J h e 9))) → cw Y mi_X4_plan K 130 [some (.inr (.inr (some a))), some (.inr (.inr (some s))), some (.inr (.inr (some e))), lv3, lv4, lv5] [] g 0 0 := by
      intro g lv3 lv4 lv5 G kg gi gb g6 g5
      have gs : cq_s g a = 3 := kg.s hs
      have gA : cq_A g a 0 = some b := by rw [kg.2.2.2.1]; exact eb
      refine bx_X4_plan_130 hY (pf2_ok hY) ?_
      simp only [wp_iconst, wp_bipush, wp_sipush, wp_ldc, wp_ldc2_w, wp_lconst0, wp_lconst1, wp_aconst_null, wp_iload_0, wp_istore_0, wp_iload_1, wp_istore_1, wp_iload_2, wp_istore_2, wp_iload_3, wp_istore_3, wp_iload, wp_istore, wp_lload_0, wp_lstore_0, wp_lload_1, wp_lstore_1, wp_lload_2, wp_lstore_2, wp_lload_3, wp_lstore_3, wp_lload, wp_lstore, wp_aload_0, wp_astore_0, wp_aload_1, wp_astore_1, wp_aload_2, wp_astore_2, wp_aload_3, wp_astore_3, wp_aload, wp_astore, wp_iinc, wp_iadd, wp_isub, wp_imul, wp_iand, wp_ior, wp_ixor, wp_ishl, wp_ishr, wp_iushr, wp_irem, wp_ladd, wp_lsub, wp_lmul, wp_land, wp_lor, wp_lxor, wp_lshl, wp_lshr, wp_lushr, wp_lrem, wp_lcmp, wp_i2l, wp_l2i, wp_dupI, wp_dupA, wp_dup2J, wp_dup2IA, wp_popI, wp_popA, wp_pop2, wp_goto, wp_if_eq, wp_icmp_eq, wp_if_ne, wp_icmp_ne, wp_if_lt, wp_icmp_lt, wp_if_ge, wp_icmp_ge, wp_if_gt, wp_icmp_gt, wp_if_le, wp_icmp_le, wp_ifnull, wp_ifnonnull, wp_acmp_eq, wp_acmp_ne, wp_tableswitch, wp_get0, wp_put0, wp_get1, wp_put1, wp_get2, wp_put2, wp_get3, wp_put3, wp_new, wp_newarray, wp_anewarray, wp_alen, wp_iaload, wp_laload, wp_baload, wp_aaload, wp_iastore, wp_lastore, wp_bastore, wp_aastore, wp_return, wp_ireturnI, wp_ireturnZ, wp_lreturn, wp_areturnO, wp_areturnA, wp_max, wp_min, wp_obj, wp_virt, wp_nil, ld_I0, ld_Is, ld_J0, ld_Js, ld_A0, ld_As, ha_0, ha_s, cx_put1, cx_put2, cx_dl, cx_tgt, true_and, and_true, Nat.reduceAdd, Nat.reduceSub, Int.reduceAdd, Int.reduceNeg, Int.reduceToNat, Int.reduceSub, Int.cast_ofNat_Int, List.take_succ_cons, List.take_zero, List.drop_succ_cons, List.drop_zero, List.take_nil, List.drop_nil, Option.toList_some, Option.toList_none, List.cons_append, List.nil_append, wp_spec, ne_eq, Nat.reduceEqDiff, not_false_eq_true, true_or, or_true, gs, gi, p3', p4']
      refine cl_X4_step (Nat.le_of_ble_eq_true rfl) gs (Nat.le_refl _) (Nat.le_refl _) (e_X4_step hY G gs gA (by omega) (fun g4 G4 q4 => ?_))
      rw [g6, gb] at q4
      have k4 : ox a b h g4 := by rw [q4]; exact kg.rJ.sJ
      have gs4 : cq_s g4 a = 3 := k4.s hs
      have I4 : cq_I g4 a = cq_I g3 a := by rw [q4]; exact gi
      have c4 : cq_J g4 a 6 = nxI (cNew t (cq_I h e 11) (cq_I h s 17)).toNat ch := by rw [q4, mm_sJ, if_pos ⟨rfl, rfl⟩]
      have c5 : cq_J g4 a 5 = cq_J g a 5 := by rw [q4, mm_sJ, if_neg (fun e => absurd e.2 (by decide)), rr_J, if_neg nab]
      have B4 : ∀ i, cq_J g4 b i = stF (cq_J g3 b) (cOld t (cq_A h s 11) (cq_I h e 10) (cq_I h s 17)) (cNew t (cq_I h e 11) (cq_I h s 17)) ch i := fun i => by rw [q4, mm_sJ, if_neg (fun e => nba e.1), rr_J, if_pos rfl]
      clear q4
      have k1 : ∀ u, g_letterKey u = lkC u := fun u => by unfold g_letterKey lkC f_key; rfl
      have k2 : ∀ u, g_nextOf u = nx1 u := fun u => by unfold g_nextOf nx1 f_key; rfl
      refine bx_X4_plan_142 hY (pf2_ok hY) ?_
      simp only [wp_iconst, wp_bipush, wp_sipush, wp_ldc, wp_ldc2_w, wp_lconst0, wp_lconst1, wp_aconst_null, wp_iload_0, wp_istore_0, wp_iload_1, wp_istore_1, wp_iload_2, wp_istore_2, wp_iload_3, wp_istore_3, wp_iload, wp_istore, wp_lload_0, wp_lstore_0, wp_lload_1, wp_lstore_1, wp_lload_2, wp_lstore_2, wp_lload_3, wp_lstore_3, wp_lload, wp_lstore, wp_aload_0, wp_astore_0, wp_aload_1, wp_astore_1, wp_aload_2, wp_astore_2, wp_aload_3, wp_astore_3, wp_aload, wp_astore, wp_iinc, wp_iadd, wp_isub, wp_imul, wp_iand, wp_ior, wp_ixor, wp_ishl, wp_ishr, wp_iushr, wp_irem, wp_ladd, wp_lsub, wp_lmul, wp_land, wp_lor, wp_lxor, wp_lshl, wp_lshr, wp_lushr, wp_lrem, wp_lcmp, wp_i2l, wp_l2i, wp_dupI, wp_dupA, wp_dup2J, wp_dup2IA, wp_popI, wp_popA, wp_pop2, wp_goto, wp_if_eq, wp_icmp_eq, wp_if_ne, wp_icmp_ne, wp_if_lt, wp_icmp_lt, wp_if_ge, wp_icmp_ge, wp_if_gt, wp_icmp_gt, wp_if_le, wp_icmp_le, wp_ifnull, wp_ifnonnull, wp_acmp_eq, wp_acmp_ne, wp_tableswitch, wp_get0, wp_put0, wp_get1, wp_put1, wp_get2, wp_put2, wp_get3, wp_put3, wp_new, wp_newarray, wp_anewarray, wp_alen, wp_iaload, wp_laload, wp_baload, wp_aaload, wp_iastore, wp_lastore, wp_bastore, wp_aastore, wp_return, wp_ireturnI, wp_ireturnZ, wp_lreturn, wp_areturnO, wp_areturnA, wp_max, wp_min, wp_obj, wp_virt, wp_nil, ld_I0, ld_Is, ld_J0, ld_Js, ld_A0, ld_As, ha_0, ha_s, cx_put1, cx_put2, cx_dl, cx_tgt, true_and, and_true, Nat.reduceAdd, Nat.reduceSub, Int.reduceAdd, Int.reduceNeg, Int.reduceToNat, Int.reduceSub, Int.cast_ofNat_Int, List.take_succ_cons, List.take_zero, List.drop_succ_cons, List.drop_zero, List.take_nil, List.drop_nil, Option.toList_some, Option.toList_none, List.cons_append, List.nil_append, wp_spec, ne_eq, Nat.reduceEqDiff, not_false_eq_true, true_or, or_true, wf_X3_mix, wf_X3_key, wf_X3_times, wf_X3_timesModuloQ, wf_X3_power, wf_X3_rest, wf_X3_secretOf, wf_X3_sealSum, wf_X3_sum, wf_X3_letterKey, wf_X3_nextOf, wf_X3_isOpen, wf_X3_veil, wf_X3_sealIsRight, cx_sz, cx_c2, cond_true, cond_false, Nat.reduceLeDiff, gs4, mm_sI, mm_sJ, mm_sA, mm_IJ, mm_IA, mm_JI, mm_JA, mm_AI, mm_AJ, mm_ssI, mm_ssJ, mm_ssA, mm_zI, mm_zJ, mm_zA, mm_nI, mm_nJ, mm_nA, Nat.left_eq_add, Nat.add_eq_left, Nat.add_left_cancel_iff, Nat.reduceEqDiff, Int.reduceEq, false_and, and_false, if_false, if_true, and_self, true_and, true_or, or_true, false_or, or_false, k1, k2, c4]
      rw [← hkey]
      have G5 := (G4.sJ (a := a) (j := 7) (v := key) gs4 (own_9 (by decide))).sJ (a := a) (j := 6) (v := nx1 (nxI (cNew t (cq_I h e 11) (cq_I h s 17)).toNat ch)) gs4 (own_9 (by decide))
      have k5 : ox a b h (cq_sJ (cq_sJ g4 a 7 key) a 6 (nx1 (nxI (cNew t (cq_I h e 11) (cq_I h s 17)).toNat ch))) := k4.sJ.sJ
      have K7 : cq_J (cq_sJ (cq_sJ g4 a 7 key) a 6 (nx1 (nxI (cNew t (cq_I h e 11) (cq_I h s 17)).toNat ch))) a 7 = key := by simp only [mm_sI, mm_sJ, mm_sA, mm_IJ, mm_IA, mm_JI, mm_JA, mm_AI, mm_AJ, mm_ssI, mm_ssJ, mm_ssA, mm_zI, mm_zJ, mm_zA, mm_nI, mm_nJ, mm_nA, Nat.left_eq_add, Nat.add_eq_left, Nat.add_left_cancel_iff, Nat.reduceEqDiff, Int.reduceEq, false_and, and_false, if_false, if_true, and_self, true_and, true_or, or_true, false_or, or_false]
      refine j164 _ _ _ _ G5 k5 (fun tg => ?_) (fun tg => ?_)
      · rw [K7] at tg
        refine hOK kf1 ok tg _ G5 k5 ?_ ?_ ?_ ?_ (fun w1 => ?_) ?_ K7 (fun i i0 i1 => ?_) (fun i i0 i1 => ?_)
        · simp only [mm_sI, mm_sJ, mm_sA, mm_IJ, mm_IA, mm_JI, mm_JA, mm_AI, mm_AJ, mm_ssI, mm_ssJ, mm_ssA, mm_zI, mm_zJ, mm_zA, mm_nI, mm_nJ, mm_nA]; rw [I4]; exact p1'
        · simp only [mm_sI, mm_sJ, mm_sA, mm_IJ, mm_IA, mm_JI, mm_JA, mm_AI, mm_AJ, mm_ssI, mm_ssJ, mm_ssA, mm_zI, mm_zJ, mm_zA, mm_nI, mm_nJ, mm_nA]; rw [I4]; exact p2'
        · simp only [mm_sI, mm_sJ, mm_sA, mm_IJ, mm_IA, mm_JI, mm_JA, mm_AI, mm_AJ, mm_ssI, mm_ssJ, mm_ssA, mm_zI, mm_zJ, mm_zA, mm_nI, mm_nJ, mm_nA]; rw [I4]; exact p3'
        · simp only [mm_sI, mm_sJ, mm_sA, mm_IJ, mm_IA, mm_JI, mm_JA, mm_AI, mm_AJ, mm_ssI, mm_ssJ, mm_ssA, mm_zI, mm_zJ, mm_zA, mm_nI, mm_nJ, mm_nA]; rw [I4]; exact p4'
        · simp only [mm_sI, mm_sJ, mm_sA, mm_IJ, mm_IA, mm_JI, mm_JA, mm_AI, mm_AJ, mm_ssI, mm_ssJ, mm_ssA, mm_zI, mm_zJ, mm_zA, mm_nI, mm_nJ, mm_nA, Nat.left_eq_add, Nat.add_eq_left, Nat.add_left_cancel_iff, Nat.reduceEqDiff, Int.reduceEq, false_and, and_false, if_false, if_true, and_self, true_and, true_or, or_true, false_or, or_false]; rw [c5]; exact g5 w1
        · simp only [mm_sI, mm_sJ, mm_sA, mm_IJ, mm_IA, mm_JI, mm_JA, mm_AI, mm_AJ, mm_ssI, mm_ssJ, mm_ssA, mm_zI, mm_zJ, mm_zA, mm_nI, mm_nJ, mm_nA, Nat.left_eq_add, Nat.add_eq_left, Nat.add_left_cancel_iff, Nat.reduceEqDiff, Int.reduceEq, false_and, and_false, if_false, if_true, and_self, true_and, true_or, or_true, false_or, or_false]; rw [nxI_s]
        · simp only [mm_sI, mm_sJ, mm_sA, mm_IJ, mm_IA, mm_JI, mm_JA, mm_AI, mm_AJ, mm_ssI, mm_ssJ, mm_ssA, mm_zI, mm_zJ, mm_zA, mm_nI, mm_nJ, mm_nA, nba, Nat.left_eq_add, Nat.add_eq_left, Nat.add_left_cancel_iff, Nat.reduceEqDiff, Int.reduceEq, false_and, and_false, if_false, if_true, and_self, true_and, true_or, or_true, false_or, or_false]
          rw [B4]
          unfold stF
          rw [if_neg (by omega)]
          exact J3 i i0 i1
        · simp only [mm_sI, mm_sJ, mm_sA, mm_IJ, mm_IA, mm_JI, mm_JA, mm_AI, mm_AJ, mm_ssI, mm_ssJ, mm_ssA, mm_zI, mm_zJ, mm_zA, mm_nI, mm_nJ, mm_nA, nba, Nat.left_eq_add, Nat.add_eq_left, Nat.add_left_cancel_iff, Nat.reduceEqDiff, Int.reduceEq, false_and, and_false, if_false, if_true, and_self, true_and, true_or, or_true, false_or, or_false]
          rw [B4]
          unfold stF
          rw [if_pos (by omega)]
          have : cOld t (cq_A h s 11) (cq_I h e 10) (cq_I h s 17) + i - cOld t (cq_A h s 11) (cq_I h e 10) (cq_I h s 17) = i := by omega
          rw [this]
      · rw [K7] at tg
        refine hF 4 _ (by omega) (by omega) G5 k5 (fun p => ?_)
        rcases p with p | p
        · omega
        · exact tg p.2.2
    refine bx_X4_plan_79 hY (pf2_ok hY) ?_
    simp only [wp_iconst, wp_bipush, wp_sipush, wp_ldc, wp_ldc2_w, wp_lconst0, wp_lconst1, wp_aconst_null, wp_iload_0, wp_istore_0, wp_iload_1, wp_istore_1, wp_iload_2, wp_istore_2, wp_iload_3, wp_istore_3, wp_iload, wp_istore, wp_lload_0, wp_lstore_0, wp_lload_1, wp_lstore_1, wp_lload_2, wp_lstore_2, wp_lload_3, wp_lstore_3, wp_lload, wp_lstore, wp_aload_0, wp_astore_0, wp_aload_1, wp_astore_1, wp_aload_2, wp_astore_2, wp_aload_3, wp_astore_3, wp_aload, wp_astore, wp_iinc, wp_iadd, wp_isub, wp_imul, wp_iand, wp_ior, wp_ixor, wp_ishl, wp_ishr, wp_iushr, wp_irem, wp_ladd, wp_lsub, wp_lmul, wp_land, wp_lor, wp_lxor, wp_lshl, wp_lshr, wp_lushr, wp_lrem, wp_lcmp, wp_i2l, wp_l2i, wp_dupI, wp_dupA, wp_dup2J, wp_dup2IA, wp_popI, wp_popA, wp_pop2, wp_goto, wp_if_eq, wp_icmp_eq, wp_if_ne, wp_icmp_ne, wp_if_lt, wp_icmp_lt, wp_if_ge, wp_icmp_ge, wp_if_gt, wp_icmp_gt, wp_if_le, wp_icmp_le, wp_ifnull, wp_ifnonnull, wp_acmp_eq, wp_acmp_ne, wp_tableswitch, wp_get0, wp_put0, wp_get1, wp_put1, wp_get2, wp_put2, wp_get3, wp_put3, wp_new, wp_newarray, wp_anewarray, wp_alen, wp_iaload, wp_laload, wp_baload, wp_aaload, wp_iastore, wp_lastore, wp_bastore, wp_aastore, wp_return, wp_ireturnI, wp_ireturnZ, wp_lreturn, wp_areturnO, wp_areturnA, wp_max, wp_min, wp_obj, wp_virt, wp_nil, ld_I0, ld_Is, ld_J0, ld_Js, ld_A0, ld_As, ha_0, ha_s, cx_put1, cx_put2, cx_dl, cx_tgt, true_and, and_true, Nat.reduceAdd, Nat.reduceSub, Int.reduceAdd, Int.reduceNeg, Int.reduceToNat, Int.reduceSub, Int.cast_ofNat_Int, List.take_succ_cons, List.take_zero, List.drop_succ_cons, List.drop_zero, List.take_nil, List.drop_nil, Option.toList_some, Option.toList_none, List.cons_append, List.nil_append, wp_spec, ne_eq, Nat.reduceEqDiff, not_false_eq_true, true_or, or_true, wf_X3_mix, wf_X3_key, wf_X3_times, wf_X3_timesModuloQ, wf_X3_power, wf_X3_rest, wf_X3_secretOf, wf_X3_sealSum, wf_X3_sum, wf_X3_letterKey, wf_X3_nextOf, wf_X3_isOpen, wf_X3_veil, wf_X3_sealIsRight, cx_sz, cx_c2, cond_true, cond_false, Nat.reduceLeDiff, gs3, gss3, gse3, ew3, gsw3, p2', js3, je3, jw3, mm_sI, mm_sJ, mm_sA, mm_IJ, mm_IA, mm_JI, mm_JA, mm_AI, mm_AJ, mm_ssI, mm_ssJ, mm_ssA, mm_zI, mm_zJ, mm_zA, mm_nI, mm_nJ, mm_nA, na, nab, ne, nwa, Nat.left_eq_add, Nat.add_eq_left, Nat.add_left_cancel_iff, Nat.reduceEqDiff, Int.reduceEq, false_and, and_false, if_false, if_true, and_self, true_and, true_or, or_true, false_or, or_false]
    rw [g_power_f]
    refine ⟨fun z => j130 _ _ _ _ G3 k3 rfl rfl ?_ (fun z1 => by omega), fun z => j130 _ _ _ _ ((G3.sJ gs3 (own_9 (by decide))).sJ gs3 (own_9 (by decide))) k3.sJ.sJ rfl ?_ ?_ (fun _ => ?_)⟩
    · have eo : cOld t (cq_A h s 11) (cq_I h e 10) (cq_I h s 17) = 0 := by unfold cOld; rw [if_neg (by omega)]
      rw [c3, eo, hch]
      unfold chC
      rw [if_neg (by omega)]
      exact nxI_0
    · funext r
      simp only [mm_sI, mm_sJ, mm_sA, mm_IJ, mm_IA, mm_JI, mm_JA, mm_AI, mm_AJ, mm_ssI, mm_ssJ, mm_ssA, mm_zI, mm_zJ, mm_zA, mm_nI, mm_nJ, mm_nA, nba, Nat.left_eq_add, Nat.add_eq_left, Nat.add_left_cancel_iff, Nat.reduceEqDiff, Int.reduceEq, false_and, and_false, if_false, if_true, and_self, true_and, true_or, or_true, false_or, or_false]
    · simp only [mm_sI, mm_sJ, mm_sA, mm_IJ, mm_IA, mm_JI, mm_JA, mm_AI, mm_AJ, mm_ssI, mm_ssJ, mm_ssA, mm_zI, mm_zJ, mm_zA, mm_nI, mm_nJ, mm_nA, Nat.left_eq_add, Nat.add_eq_left, Nat.add_left_cancel_iff, Nat.reduceEqDiff, Int.reduceEq, false_and, and_false, if_false, if_true, and_self, true_and, true_or, or_true, false_or, or_false]
      rw [hch]
      unfold chC
      rw [if_pos (by omega)]
    · simp only [mm_sI, mm_sJ, mm_sA, mm_IJ, mm_IA, mm_JI, mm_JA, mm_AI, mm_AJ, mm_ssI, mm_ssJ, mm_ssA, mm_zI, mm_zJ, mm_zA, mm_nI, mm_nJ, mm_nA, Nat.left_eq_add, Nat.add_eq_left, Nat.add_left_cancel_iff, Nat.reduceEqDiff, Int.reduceEq, false_and, and_false, if_false, if_true, and_self, true_and, true_or, or_true, false_or, or_false]
  · have kf0 : 0 ≤ kf := by omega
    have gsk1 : cq_s g1 k = 1 := k1'.s sk
    have e21 : cq_A g1 k 2 = some b2 := by rw [A1]; exact e2
    have jb1 : cq_J g1 b2 = cq_J h b2 := k1'.2.2.2.2.2 b2 (ns sb2 hs (by decide)) (ns sb2 sb (by decide))
    refine cl_X1_keyAt (Nat.le_of_ble_eq_true rfl) gsk1 (Nat.le_refl _) (Nat.le_refl _) (e_X1_keyAt hY G1 gsk1 e21 (by rw [ik1]; omega) ?_)
    rw [jb1]
    refine bx_X4_plan_43 hY (pf2_ok hY) ?_
    simp only [wp_iconst, wp_bipush, wp_sipush, wp_ldc, wp_ldc2_w, wp_lconst0, wp_lconst1, wp_aconst_null, wp_iload_0, wp_istore_0, wp_iload_1, wp_istore_1, wp_iload_2, wp_istore_2, wp_iload_3, wp_istore_3, wp_iload, wp_istore, wp_lload_0, wp_lstore_0, wp_lload_1, wp_lstore_1, wp_lload_2, wp_lstore_2, wp_lload_3, wp_lstore_3, wp_lload, wp_lstore, wp_aload_0, wp_astore_0, wp_aload_1, wp_astore_1, wp_aload_2, wp_astore_2, wp_aload_3, wp_astore_3, wp_aload, wp_astore, wp_iinc, wp_iadd, wp_isub, wp_imul, wp_iand, wp_ior, wp_ixor, wp_ishl, wp_ishr, wp_iushr, wp_irem, wp_ladd, wp_lsub, wp_lmul, wp_land, wp_lor, wp_lxor, wp_lshl, wp_lshr, wp_lushr, wp_lrem, wp_lcmp, wp_i2l, wp_l2i, wp_dupI, wp_dupA, wp_dup2J, wp_dup2IA, wp_popI, wp_popA, wp_pop2, wp_goto, wp_if_eq, wp_icmp_eq, wp_if_ne, wp_icmp_ne, wp_if_lt, wp_icmp_lt, wp_if_ge, wp_icmp_ge, wp_if_gt, wp_icmp_gt, wp_if_le, wp_icmp_le, wp_ifnull, wp_ifnonnull, wp_acmp_eq, wp_acmp_ne, wp_tableswitch, wp_get0, wp_put0, wp_get1, wp_put1, wp_get2, wp_put2, wp_get3, wp_put3, wp_new, wp_newarray, wp_anewarray, wp_alen, wp_iaload, wp_laload, wp_baload, wp_aaload, wp_iastore, wp_lastore, wp_bastore, wp_aastore, wp_return, wp_ireturnI, wp_ireturnZ, wp_lreturn, wp_areturnO, wp_areturnA, wp_max, wp_min, wp_obj, wp_virt, wp_nil, ld_I0, ld_Is, ld_J0, ld_Js, ld_A0, ld_As, ha_0, ha_s, cx_put1, cx_put2, cx_dl, cx_tgt, true_and, and_true, Nat.reduceAdd, Nat.reduceSub, Int.reduceAdd, Int.reduceNeg, Int.reduceToNat, Int.reduceSub, Int.cast_ofNat_Int, List.take_succ_cons, List.take_zero, List.drop_succ_cons, List.drop_zero, List.take_nil, List.drop_nil, Option.toList_some, Option.toList_none, List.cons_append, List.nil_append, wp_spec, ne_eq, Nat.reduceEqDiff, not_false_eq_true, true_or, or_true, gs1]
    have K7 : cq_J (cq_sJ g1 a 7 (cq_J h b2 kf)) a 7 = cq_J h b2 kf := by simp only [mm_sI, mm_sJ, mm_sA, mm_IJ, mm_IA, mm_JI, mm_JA, mm_AI, mm_AJ, mm_ssI, mm_ssJ, mm_ssA, mm_zI, mm_zJ, mm_zA, mm_nI, mm_nJ, mm_nA, Nat.left_eq_add, Nat.add_eq_left, Nat.add_left_cancel_iff, Nat.reduceEqDiff, Int.reduceEq, false_and, and_false, if_false, if_true, and_self, true_and, true_or, or_true, false_or, or_false]
    refine j164 _ _ _ _ (G1.sJ gs1 (own_9 (by decide))) k1'.sJ (fun tg => ?_) (fun tg => ?_)
    · rw [K7] at tg
      exact hKp kf0 (by omega) tg _ (G1.sJ gs1 (own_9 (by decide))) k1'.sJ i1' K7
    · rw [K7] at tg
      refine hF 4 _ (by omega) (by omega) (G1.sJ gs1 (own_9 (by decide))) k1'.sJ (fun p => ?_)
      rcases p with p | p
      · exact tg p.2
      · omega
end
/-! the class, exactly: an opening is carried out -/
/-- a row with so many more -/
def kpF {α : Type} (f : Int → α) (sz m : Int) (v : Int → α) (r : Int) : α := if sz ≤ r ∧ r < sz + m then v (r - sz) else f r
/-- so many KEPT keys more -/
def kpW (q : cx_Q) (k b0 b1 b2 : Nat) (sz m : Int) (o : Int64) (nr : Int) (key : Int → Int64) : cx_Q := cq_sI (cq_rJ (cq_rI (cq_rJ q b0 (kpF (cq_J q b0) sz m (fun _ => o))) b1 (kpF (cq_I q b1) sz m (fun i => nr + i))) b2 (kpF (cq_J q b2) sz m key)) k 4 (sz + m)
theorem kpF_s {α : Type} {f : Int → α} {sz m r : Int} {v : Int → α} (hm : 0 ≤ m) : kpF f sz (m + 1) v r = if r = sz + m then v m else kpF f sz m v r := by
  unfold kpF
  by_cases w : r = sz + m
  · rw [if_pos w, if_pos (by omega), w]
    have : sz + m - sz = m := by omega
    rw [this]
  · rw [if_neg w]
    by_cases w2 : sz ≤ r ∧ r < sz + m
    · rw [if_pos w2, if_pos (by omega)]
    · rw [if_neg w2, if_neg (by omega)]
theorem kpF_0 {α : Type} {f : Int → α} {sz : Int} {v : Int → α} : kpF f sz 0 v = f := by
  funext r
  unfold kpF
  rw [if_neg (by omega)]
section
variable {Y : cx_Y} {K : Option cx_V → cx_Q → Prop} {c : Nat} {n L Z : Int} {E : Nat → Option Int} {h0 : cx_Q} {X : List Nat} {h : cx_Q}
theorem kpW_qs {k b0 b1 b2 : Nat} {sz m : Int} {o : Int64} {nr : Int} {key : Int → Int64} : cq_s (kpW h k b0 b1 b2 sz m o nr key) = cq_s h := Eq.trans rfl rfl
theorem kpW_qA {k b0 b1 b2 : Nat} {sz m : Int} {o : Int64} {nr : Int} {key : Int → Int64} : cq_A (kpW h k b0 b1 b2 sz m o nr key) = cq_A h := Eq.trans rfl rfl
theorem kpW_I {k b0 b1 b2 d : Nat} {sz m : Int} {o : Int64} {nr : Int} {key : Int → Int64} (h1 : d ≠ k) (h2 : d ≠ b1) : cq_I (kpW h k b0 b1 b2 sz m o nr key) d = cq_I h d := by
  funext r
  unfold kpW
  rw [mm_sI, if_neg (fun e => h1 e.1), rr_IJ, rr_I, if_neg h2, rr_IJ]
theorem kpW_J {k b0 b1 b2 d : Nat} {sz m : Int} {o : Int64} {nr : Int} {key : Int → Int64} (h1 : d ≠ b0) (h2 : d ≠ b2) : cq_J (kpW h k b0 b1 b2 sz m o nr key) d = cq_J h d := by
  unfold kpW
  rw [mm_JI, rr_J, if_neg h2, rr_JI, rr_J, if_neg h1]
theorem kpW_4 {k b0 b1 b2 : Nat} {sz m : Int} {o : Int64} {nr : Int} {key : Int → Int64} : cq_I (kpW h k b0 b1 b2 sz m o nr key) k 4 = sz + m := by
  unfold kpW
  rw [mm_sI, if_pos ⟨rfl, rfl⟩]
theorem kpW_s {k b0 b1 b2 : Nat} {sz m : Int} {o : Int64} {nr : Int} {key : Int → Int64} (hm : 0 ≤ m) (n02 : b0 ≠ b2) (n1 : k ≠ b1) : cq_sI (cq_sJ (cq_sI (cq_sJ (kpW h k b0 b1 b2 sz m o nr key) b0 (sz + m) o) b1 (sz + m) (nr + m)) b2 (sz + m) (key m)) k 4 (sz + m + 1) = kpW h k b0 b1 b2 sz (m + 1) o nr key := by
  have es : sz + m + 1 = sz + (m + 1) := by omega
  refine qext rfl rfl rfl (fun q r => ?_) (fun q r => ?_) (fun q r => rfl)
  · unfold kpW
    simp only [mm_sI, mm_IJ, rr_I, rr_IJ]
    by_cases w : q = k ∧ r = 4
    · rw [if_pos w, if_pos w, es]
    · rw [if_neg w, if_neg w, if_neg w]
      by_cases w1 : q = b1
      · rw [if_pos w1, if_pos w1, kpF_s hm]
        by_cases w2 : r = sz + m
        · rw [if_pos ⟨w1, w2⟩, if_pos w2]
        · rw [if_neg (fun e => w2 e.2), if_neg w2]
      · rw [if_neg (fun e => w1 e.1), if_neg w1, if_neg w1]
  · unfold kpW
    simp only [mm_sJ, mm_JI, rr_J, rr_JI]
    by_cases w2 : q = b2
    · rw [if_pos w2, if_pos w2, kpF_s hm]
      by_cases wk : r = sz + m
      · rw [if_pos ⟨w2, wk⟩, if_pos wk]
      · rw [if_neg (fun e => wk e.2), if_neg wk, if_neg (fun e => n02 (e.1.symm.trans w2))]
    · rw [if_neg (fun e => w2 e.1), if_neg w2, if_neg w2]
      by_cases w0 : q = b0
      · rw [if_pos w0, if_pos w0, kpF_s hm]
        by_cases wk : r = sz + m
        · rw [if_pos ⟨w0, wk⟩, if_pos wk]
        · rw [if_neg (fun e => wk e.2), if_neg wk]
      · rw [if_neg (fun e => w0 e.1), if_neg w0, if_neg w0]
theorem kpW_0 {k b0 b1 b2 : Nat} {sz : Int} {o : Int64} {nr : Int} {key : Int → Int64} (e : sz = cq_I h k 4) : kpW h k b0 b1 b2 sz 0 o nr key = h := by
  unfold kpW
  rw [kpF_0, kpF_0, kpF_0]
  refine qext rfl rfl rfl (fun q r => ?_) (fun q r => ?_) (fun q r => rfl)
  · simp only [mm_sI, rr_IJ, rr_I]
    split
    · rename_i w; rw [w.1, w.2, e]; omega
    · split
      · rename_i w; rw [w]
      · rfl
  · simp only [mm_JI, rr_J, rr_JI]
    split
    · rename_i w; rw [w]
    · split
      · rename_i w; rw [w]
      · rfl
theorem ev.ckp {m m' : cx_Q} (p : ev m m') {k b0 b1 b2 : Nat} {sz mm : Int} {o : Int64} {nr : Int} {key : Int → Int64} (s0 : cq_s m b0 = 171) (s1 : cq_s m b1 = 172) (s2 : cq_s m b2 = 173) : ev (kpW m k b0 b1 b2 sz mm o nr key) (kpW m' k b0 b1 b2 sz mm o nr key) := by
  unfold kpW
  rw [p.J s0 (by decide), p.I s1 rfl, p.J s2 (by decide)]
  (repeat' (first | with_reducible assumption | with_reducible exact ev.refl | with_reducible refine ev.cI ?_ | with_reducible refine ev.cJ ?_ | with_reducible refine ev.cA ?_ | with_reducible refine ev.rI ?_ | with_reducible refine ev.rJ ?_ | with_reducible refine ev.rA ?_))
theorem e_X4_keep (hY : cY Y) {a b s k b0 b1 b2 : Nat} {f m : Int} (H : CI c n L Z E h0 [] h) (hs : cq_s h a = 3) (hss : cq_s h s = 7) (eb : cq_A h a 0 = some b) (ek : cq_A h s 19 = some k) (e0 : cq_A h k 0 = some b0) (e1 : cq_A h k 1 = some b1) (e2 : cq_A h k 2 = some b2) (hf : 0 ≤ f ∧ 0 ≤ m ∧ f + m ≤ 10) (hz : cq_I h k 4 + m ≤ 20) (hK : ∀ g, CI c n L Z E h0 [] g → ev (kpW h k b0 b1 b2 (cq_I h k 4) m (cq_J h s 13) (cq_I h s 17) (fun i => cq_J h b (f + i))) g → K none g) : cw Y mi_X4_keep K 0 [some (.inr (.inr (some a))), some (.inr (.inr (some s))), some (.inl f), some (.inl m), none] [] h 0 0 := by
  have sk : cq_s h k = 1 := H.ta hss (own_9 (by decide)) ek
  have sb : cq_s h b = 175 := H.ta hs (own_9 (by decide)) eb
  have sb0 : cq_s h b0 = 171 := H.ta sk (own_9 (by decide)) e0
  have sb1 : cq_s h b1 = 172 := H.ta sk (own_9 (by decide)) e1
  have sb2 : cq_s h b2 = 173 := H.ta sk (own_9 (by decide)) e2
  have ik := H.i1_4 sk
  have i17 := H.i7_17 hss
  have n02 : b0 ≠ b2 := ns sb0 sb2 (by decide)
  have n1 : k ≠ b1 := ns sk sb1 (by decide)
  have loop : ∀ (r : Nat) (i : Int) (g : cx_Q), 0 ≤ i → i + r = m → CI c n L Z E h0 [] g → ev (kpW h k b0 b1 b2 (cq_I h k 4) i (cq_J h s 13) (cq_I h s 17) (fun i => cq_J h b (f + i))) g → cw Y mi_X4_keep K 3 [some (.inr (.inr (some a))), some (.inr (.inr (some s))), some (.inl f), some (.inl m), some (.inl i)] [] g 0 0 := by
    intro r
    induction r with
    | zero =>
      intro i g h1 h2 G eg
      refine bx_X4_keep_3 hY (pf2_ok hY) ?_
      simp only [wp_iconst, wp_bipush, wp_sipush, wp_ldc, wp_ldc2_w, wp_lconst0, wp_lconst1, wp_aconst_null, wp_iload_0, wp_istore_0, wp_iload_1, wp_istore_1, wp_iload_2, wp_istore_2, wp_iload_3, wp_istore_3, wp_iload, wp_istore, wp_lload_0, wp_lstore_0, wp_lload_1, wp_lstore_1, wp_lload_2, wp_lstore_2, wp_lload_3, wp_lstore_3, wp_lload, wp_lstore, wp_aload_0, wp_astore_0, wp_aload_1, wp_astore_1, wp_aload_2, wp_astore_2, wp_aload_3, wp_astore_3, wp_aload, wp_astore, wp_iinc, wp_iadd, wp_isub, wp_imul, wp_iand, wp_ior, wp_ixor, wp_ishl, wp_ishr, wp_iushr, wp_irem, wp_ladd, wp_lsub, wp_lmul, wp_land, wp_lor, wp_lxor, wp_lshl, wp_lshr, wp_lushr, wp_lrem, wp_lcmp, wp_i2l, wp_l2i, wp_dupI, wp_dupA, wp_dup2J, wp_dup2IA, wp_popI, wp_popA, wp_pop2, wp_goto, wp_if_eq, wp_icmp_eq, wp_if_ne, wp_icmp_ne, wp_if_lt, wp_icmp_lt, wp_if_ge, wp_icmp_ge, wp_if_gt, wp_icmp_gt, wp_if_le, wp_icmp_le, wp_ifnull, wp_ifnonnull, wp_acmp_eq, wp_acmp_ne, wp_tableswitch, wp_get0, wp_put0, wp_get1, wp_put1, wp_get2, wp_put2, wp_get3, wp_put3, wp_new, wp_newarray, wp_anewarray, wp_alen, wp_iaload, wp_laload, wp_baload, wp_aaload, wp_iastore, wp_lastore, wp_bastore, wp_aastore, wp_return, wp_ireturnI, wp_ireturnZ, wp_lreturn, wp_areturnO, wp_areturnA, wp_max, wp_min, wp_obj, wp_virt, wp_nil, ld_I0, ld_Is, ld_J0, ld_Js, ld_A0, ld_As, ha_0, ha_s, cx_put1, cx_put2, cx_dl, cx_tgt, true_and, and_true, Nat.reduceAdd, Nat.reduceSub, Int.reduceAdd, Int.reduceNeg, Int.reduceToNat, Int.reduceSub, Int.cast_ofNat_Int, List.take_succ_cons, List.take_zero, List.drop_succ_cons, List.drop_zero, List.take_nil, List.drop_nil, Option.toList_some, Option.toList_none, List.cons_append, List.nil_append, wp_spec, ne_eq, Nat.reduceEqDiff, not_false_eq_true, true_or, or_true]
      refine ⟨fun _ => ?_, fun q => absurd q (by omega)⟩
      refine bx_X4_keep_58 hY (pf2_ok hY) ?_
      simp only [wp_iconst, wp_bipush, wp_sipush, wp_ldc, wp_ldc2_w, wp_lconst0, wp_lconst1, wp_aconst_null, wp_iload_0, wp_istore_0, wp_iload_1, wp_istore_1, wp_iload_2, wp_istore_2, wp_iload_3, wp_istore_3, wp_iload, wp_istore, wp_lload_0, wp_lstore_0, wp_lload_1, wp_lstore_1, wp_lload_2, wp_lstore_2, wp_lload_3, wp_lstore_3, wp_lload, wp_lstore, wp_aload_0, wp_astore_0, wp_aload_1, wp_astore_1, wp_aload_2, wp_astore_2, wp_aload_3, wp_astore_3, wp_aload, wp_astore, wp_iinc, wp_iadd, wp_isub, wp_imul, wp_iand, wp_ior, wp_ixor, wp_ishl, wp_ishr, wp_iushr, wp_irem, wp_ladd, wp_lsub, wp_lmul, wp_land, wp_lor, wp_lxor, wp_lshl, wp_lshr, wp_lushr, wp_lrem, wp_lcmp, wp_i2l, wp_l2i, wp_dupI, wp_dupA, wp_dup2J, wp_dup2IA, wp_popI, wp_popA, wp_pop2, wp_goto, wp_if_eq, wp_icmp_eq, wp_if_ne, wp_icmp_ne, wp_if_lt, wp_icmp_lt, wp_if_ge, wp_icmp_ge, wp_if_gt, wp_icmp_gt, wp_if_le, wp_icmp_le, wp_ifnull, wp_ifnonnull, wp_acmp_eq, wp_acmp_ne, wp_tableswitch, wp_get0, wp_put0, wp_get1, wp_put1, wp_get2, wp_put2, wp_get3, wp_put3, wp_new, wp_newarray, wp_anewarray, wp_alen, wp_iaload, wp_laload, wp_baload, wp_aaload, wp_iastore, wp_lastore, wp_bastore, wp_aastore, wp_return, wp_ireturnI, wp_ireturnZ, wp_lreturn, wp_areturnO, wp_areturnA, wp_max, wp_min, wp_obj, wp_virt, wp_nil, ld_I0, ld_Is, ld_J0, ld_Js, ld_A0, ld_As, ha_0, ha_s, cx_put1, cx_put2, cx_dl, cx_tgt, true_and, and_true, Nat.reduceAdd, Nat.reduceSub, Int.reduceAdd, Int.reduceNeg, Int.reduceToNat, Int.reduceSub, Int.cast_ofNat_Int, List.take_succ_cons, List.take_zero, List.drop_succ_cons, List.drop_zero, List.take_nil, List.drop_nil, Option.toList_some, Option.toList_none, List.cons_append, List.nil_append, wp_spec, ne_eq, Nat.reduceEqDiff, not_false_eq_true, true_or, or_true]
      have e : i = m := by omega
      rw [e] at eg
      exact hK g G eg
    | succ r ih =>
      intro i g h1 h2 G eg
      have gs : cq_s g a = 3 := eg.s (by rw [kpW_qs]; exact hs) (by decide)
      have gss : cq_s g s = 7 := eg.s (by rw [kpW_qs]; exact hss) (by decide)
      have gsb : cq_s g b = 175 := eg.s (by rw [kpW_qs]; exact sb) (by decide)
      have gz : cq_z g b = 10 := G.tz gsb
      have gsk : cq_s g k = 1 := eg.s (by rw [kpW_qs]; exact sk) (by decide)
      have gb : cq_A g a 0 = some b := by rw [eg.A (k0 := 3) (by rw [kpW_qs]; exact hs) rfl, kpW_qA]; exact eb
      have gk : cq_A g s 19 = some k := by rw [eg.A (k0 := 7) (by rw [kpW_qs]; exact hss) rfl, kpW_qA]; exact ek
      have gkA : cq_A g k = cq_A h k := by rw [eg.A (k0 := 1) (by rw [kpW_qs]; exact sk) rfl, kpW_qA]
      have g17 : cq_I g s 17 = cq_I h s 17 := by rw [eg.I (k0 := 7) (by rw [kpW_qs]; exact hss) rfl, kpW_I (ns hss sk (by decide)) (ns hss sb1 (by decide))]
      have g13 : cq_J g s 13 = cq_J h s 13 := by rw [eg.J (k0 := 7) (by rw [kpW_qs]; exact hss) (by decide), kpW_J (ns hss sb0 (by decide)) (ns hss sb2 (by decide))]
      have gJb : cq_J g b (f + i) = cq_J h b (f + i) := by rw [eg.J (k0 := 175) (by rw [kpW_qs]; exact sb) (by decide), kpW_J (ns sb sb0 (by decide)) (ns sb sb2 (by decide))]
      have g4 : cq_I g k 4 = cq_I h k 4 + i := by rw [eg.I (k0 := 1) (by rw [kpW_qs]; exact sk) rfl, kpW_4]
      refine bx_X4_keep_3 hY (pf2_ok hY) ?_
      simp only [wp_iconst, wp_bipush, wp_sipush, wp_ldc, wp_ldc2_w, wp_lconst0, wp_lconst1, wp_aconst_null, wp_iload_0, wp_istore_0, wp_iload_1, wp_istore_1, wp_iload_2, wp_istore_2, wp_iload_3, wp_istore_3, wp_iload, wp_istore, wp_lload_0, wp_lstore_0, wp_lload_1, wp_lstore_1, wp_lload_2, wp_lstore_2, wp_lload_3, wp_lstore_3, wp_lload, wp_lstore, wp_aload_0, wp_astore_0, wp_aload_1, wp_astore_1, wp_aload_2, wp_astore_2, wp_aload_3, wp_astore_3, wp_aload, wp_astore, wp_iinc, wp_iadd, wp_isub, wp_imul, wp_iand, wp_ior, wp_ixor, wp_ishl, wp_ishr, wp_iushr, wp_irem, wp_ladd, wp_lsub, wp_lmul, wp_land, wp_lor, wp_lxor, wp_lshl, wp_lshr, wp_lushr, wp_lrem, wp_lcmp, wp_i2l, wp_l2i, wp_dupI, wp_dupA, wp_dup2J, wp_dup2IA, wp_popI, wp_popA, wp_pop2, wp_goto, wp_if_eq, wp_icmp_eq, wp_if_ne, wp_icmp_ne, wp_if_lt, wp_icmp_lt, wp_if_ge, wp_icmp_ge, wp_if_gt, wp_icmp_gt, wp_if_le, wp_icmp_le, wp_ifnull, wp_ifnonnull, wp_acmp_eq, wp_acmp_ne, wp_tableswitch, wp_get0, wp_put0, wp_get1, wp_put1, wp_get2, wp_put2, wp_get3, wp_put3, wp_new, wp_newarray, wp_anewarray, wp_alen, wp_iaload, wp_laload, wp_baload, wp_aaload, wp_iastore, wp_lastore, wp_bastore, wp_aastore, wp_return, wp_ireturnI, wp_ireturnZ, wp_lreturn, wp_areturnO, wp_areturnA, wp_max, wp_min, wp_obj, wp_virt, wp_nil, ld_I0, ld_Is, ld_J0, ld_Js, ld_A0, ld_As, ha_0, ha_s, cx_put1, cx_put2, cx_dl, cx_tgt, true_and, and_true, Nat.reduceAdd, Nat.reduceSub, Int.reduceAdd, Int.reduceNeg, Int.reduceToNat, Int.reduceSub, Int.cast_ofNat_Int, List.take_succ_cons, List.take_zero, List.drop_succ_cons, List.drop_zero, List.take_nil, List.drop_nil, Option.toList_some, Option.toList_none, List.cons_append, List.nil_append, wp_spec, ne_eq, Nat.reduceEqDiff, not_false_eq_true, true_or, or_true, gs, gss, gb, gsb, gz, gk, ra_175, cx_rg, g17, g13, gJb]
      refine ⟨fun q => absurd q (by omega), fun _ => ⟨by omega, by omega, fun q => absurd q (by omega), fun q => ?_⟩⟩
      refine ⟨by omega, by omega, by omega, ?_⟩
      refine cl_X1_keep (Nat.le_of_ble_eq_true rfl) gsk (Nat.le_refl _) (Nat.le_refl _) (e_X1_keep hY G List.not_mem_nil gsk (by rw [gkA]; exact e0) (by rw [gkA]; exact e1) (by rw [gkA]; exact e2) (fun b' q' => G.ta (j := 11) gss (own_9 (by decide)) q') (by omega) (fun g2 G2 k2 => ?_))
      rw [g4] at k2
      refine bx_X4_keep_52 hY (pf2_ok hY) ?_
      simp only [wp_iconst, wp_bipush, wp_sipush, wp_ldc, wp_ldc2_w, wp_lconst0, wp_lconst1, wp_aconst_null, wp_iload_0, wp_istore_0, wp_iload_1, wp_istore_1, wp_iload_2, wp_istore_2, wp_iload_3, wp_istore_3, wp_iload, wp_istore, wp_lload_0, wp_lstore_0, wp_lload_1, wp_lstore_1, wp_lload_2, wp_lstore_2, wp_lload_3, wp_lstore_3, wp_lload, wp_lstore, wp_aload_0, wp_astore_0, wp_aload_1, wp_astore_1, wp_aload_2, wp_astore_2, wp_aload_3, wp_astore_3, wp_aload, wp_astore, wp_iinc, wp_iadd, wp_isub, wp_imul, wp_iand, wp_ior, wp_ixor, wp_ishl, wp_ishr, wp_iushr, wp_irem, wp_ladd, wp_lsub, wp_lmul, wp_land, wp_lor, wp_lxor, wp_lshl, wp_lshr, wp_lushr, wp_lrem, wp_lcmp, wp_i2l, wp_l2i, wp_dupI, wp_dupA, wp_dup2J, wp_dup2IA, wp_popI, wp_popA, wp_pop2, wp_goto, wp_if_eq, wp_icmp_eq, wp_if_ne, wp_icmp_ne, wp_if_lt, wp_icmp_lt, wp_if_ge, wp_icmp_ge, wp_if_gt, wp_icmp_gt, wp_if_le, wp_icmp_le, wp_ifnull, wp_ifnonnull, wp_acmp_eq, wp_acmp_ne, wp_tableswitch, wp_get0, wp_put0, wp_get1, wp_put1, wp_get2, wp_put2, wp_get3, wp_put3, wp_new, wp_newarray, wp_anewarray, wp_alen, wp_iaload, wp_laload, wp_baload, wp_aaload, wp_iastore, wp_lastore, wp_bastore, wp_aastore, wp_return, wp_ireturnI, wp_ireturnZ, wp_lreturn, wp_areturnO, wp_areturnA, wp_max, wp_min, wp_obj, wp_virt, wp_nil, ld_I0, ld_Is, ld_J0, ld_Js, ld_A0, ld_As, ha_0, ha_s, cx_put1, cx_put2, cx_dl, cx_tgt, true_and, and_true, Nat.reduceAdd, Nat.reduceSub, Int.reduceAdd, Int.reduceNeg, Int.reduceToNat, Int.reduceSub, Int.cast_ofNat_Int, List.take_succ_cons, List.take_zero, List.drop_succ_cons, List.drop_zero, List.take_nil, List.drop_nil, Option.toList_some, Option.toList_none, List.cons_append, List.nil_append, wp_spec, ne_eq, Nat.reduceEqDiff, not_false_eq_true, true_or, or_true, cx_rg]
      refine ⟨by omega, ih (i + 1) g2 (by omega) (by omega) G2 ?_⟩
      rw [← kpW_s h1 n02 n1]
      refine ev.trans ?_ k2
      (repeat' (first | with_reducible assumption | with_reducible exact ev.refl | with_reducible refine ev.cI ?_ | with_reducible refine ev.cJ ?_ | with_reducible refine ev.cA ?_ | with_reducible refine ev.rI ?_ | with_reducible refine ev.rJ ?_ | with_reducible refine ev.rA ?_))
  refine bx_X4_keep_0 hY (pf2_ok hY) ?_
  simp only [wp_iconst, wp_bipush, wp_sipush, wp_ldc, wp_ldc2_w, wp_lconst0, wp_lconst1, wp_aconst_null, wp_iload_0, wp_istore_0, wp_iload_1, wp_istore_1, wp_iload_2, wp_istore_2, wp_iload_3, wp_istore_3, wp_iload, wp_istore, wp_lload_0, wp_lstore_0, wp_lload_1, wp_lstore_1, wp_lload_2, wp_lstore_2, wp_lload_3, wp_lstore_3, wp_lload, wp_lstore, wp_aload_0, wp_astore_0, wp_aload_1, wp_astore_1, wp_aload_2, wp_astore_2, wp_aload_3, wp_astore_3, wp_aload, wp_astore, wp_iinc, wp_iadd, wp_isub, wp_imul, wp_iand, wp_ior, wp_ixor, wp_ishl, wp_ishr, wp_iushr, wp_irem, wp_ladd, wp_lsub, wp_lmul, wp_land, wp_lor, wp_lxor, wp_lshl, wp_lshr, wp_lushr, wp_lrem, wp_lcmp, wp_i2l, wp_l2i, wp_dupI, wp_dupA, wp_dup2J, wp_dup2IA, wp_popI, wp_popA, wp_pop2, wp_goto, wp_if_eq, wp_icmp_eq, wp_if_ne, wp_icmp_ne, wp_if_lt, wp_icmp_lt, wp_if_ge, wp_icmp_ge, wp_if_gt, wp_icmp_gt, wp_if_le, wp_icmp_le, wp_ifnull, wp_ifnonnull, wp_acmp_eq, wp_acmp_ne, wp_tableswitch, wp_get0, wp_put0, wp_get1, wp_put1, wp_get2, wp_put2, wp_get3, wp_put3, wp_new, wp_newarray, wp_anewarray, wp_alen, wp_iaload, wp_laload, wp_baload, wp_aaload, wp_iastore, wp_lastore, wp_bastore, wp_aastore, wp_return, wp_ireturnI, wp_ireturnZ, wp_lreturn, wp_areturnO, wp_areturnA, wp_max, wp_min, wp_obj, wp_virt, wp_nil, ld_I0, ld_Is, ld_J0, ld_Js, ld_A0, ld_As, ha_0, ha_s, cx_put1, cx_put2, cx_dl, cx_tgt, true_and, and_true, Nat.reduceAdd, Nat.reduceSub, Int.reduceAdd, Int.reduceNeg, Int.reduceToNat, Int.reduceSub, Int.cast_ofNat_Int, List.take_succ_cons, List.take_zero, List.drop_succ_cons, List.drop_zero, List.take_nil, List.drop_nil, Option.toList_some, Option.toList_none, List.cons_append, List.nil_append, wp_spec, ne_eq, Nat.reduceEqDiff, not_false_eq_true, true_or, or_true]
  refine loop m.toNat 0 h (by omega) (by omega) H ?_
  rw [kpW_0 rfl]
  exact ev.refl
end
/-! the class, exactly: an opening is carried out -/
/-- behind the KEPT keys: the chain goes on -/
def coR (m : cx_Q) (s : Nat) (v : Int64) (i : Int) : cx_Q := cq_sI (cq_sJ m s 10 v) s 17 i
/-- a draw -/
def coD (m : cx_Q) (p t : Nat) (d : Int) : cx_Q := cq_sA (cq_sI m p 1 (d + 1)) p 2 (some t)
section
variable {Y : cx_Y} {K : Option cx_V → cx_Q → Prop} {c : Nat} {n L Z : Int} {E : Nat → Option Int} {h0 : cx_Q} {X : List Nat} {h : cx_Q}
theorem trW_s {m : cx_Q} {a q : Nat} {s : Int} {u v : Int64} {o : Option Nat} : cq_s (trW m a q s u v o) = cq_s m := Eq.trans rfl rfl
theorem tsW_s {m : cx_Q} {a t q : Nat} {r x : Int64} : cq_s (tsW m a t q r x) = cq_s m := Eq.trans rfl rfl
theorem coD_s {m : cx_Q} {p t : Nat} {d : Int} : cq_s (coD m p t d) = cq_s m := Eq.trans rfl rfl
theorem coD_J {m : cx_Q} {p t : Nat} {d : Int} : cq_J (coD m p t d) = cq_J m := Eq.trans rfl rfl
theorem coR_s {m : cx_Q} {s : Nat} {v : Int64} {i : Int} : cq_s (coR m s v i) = cq_s m := Eq.trans rfl rfl
theorem ev.cco {m m' : cx_Q} (p : ev m m') {s : Nat} {v : Int64} {i : Int} : ev (coR m s v i) (coR m' s v i) := by
  unfold coR
  (repeat' (first | with_reducible assumption | with_reducible exact ev.refl | with_reducible refine ev.cI ?_ | with_reducible refine ev.cJ ?_ | with_reducible refine ev.cA ?_ | with_reducible refine ev.rI ?_ | with_reducible refine ev.rJ ?_ | with_reducible refine ev.rA ?_))
theorem ev.cdr {m m' : cx_Q} (q : ev m m') {p t : Nat} {d : Int} : ev (coD m p t d) (coD m' p t d) := by
  unfold coD
  (repeat' (first | with_reducible assumption | with_reducible exact ev.refl | with_reducible refine ev.cI ?_ | with_reducible refine ev.cJ ?_ | with_reducible refine ev.cA ?_ | with_reducible refine ev.rI ?_ | with_reducible refine ev.rJ ?_ | with_reducible refine ev.rA ?_))
theorem e_X4_carryOut (hY : cY Y) {a b s e p k b0 b1 b2 : Nat} {o : Option Nat} (H : CI c n L Z E h0 [] h) (hZ : Z ≤ 1000000) (hs : cq_s h a = 3) (hss : cq_s h s = 7) (hse : cq_s h e = 0) (hsp : cq_s h p = 4) (ho : ∀ b, o = some b → cq_s h b = 6) (eb : cq_A h a 0 = some b) (ek : cq_A h s 19 = some k) (e0 : cq_A h k 0 = some b0) (e1 : cq_A h k 1 = some b1) (e2 : cq_A h k 2 = some b2)
    (hr : cq_I h a 1 = -1 → 0 ≤ cq_I h a 3 ∧ 0 ≤ cq_I h a 4 ∧ cq_I h a 3 + cq_I h a 4 ≤ 10 ∧ cq_I h k 4 + (cq_I h a 3 + cq_I h a 4) ≤ 20) (hm : cq_I h a 1 = -1 ∨ (0 ≤ cq_I h a 1 ∧ cq_I h a 1 < cq_I h k 4)) (h2 : cq_I h a 1 = -1 → cq_I h a 2 = 0 ∨ cq_I h a 2 = 1)
    (hKp : 0 ≤ cq_I h a 1 → ∀ g, CI c n L (Z + 1) E h0 [] g → ev (kdr (cq_sI h s 5 0) k b0 b1 b2 (cq_I h a 1) (cq_I h k 4 - 1) (cq_I h k 4 - 1)) g → K none g)
    (hN : cq_I h a 1 = -1 → cq_I h a 2 = 0 → ∀ g, CI c n L (Z + 1) E h0 [] g → ev (coR (kpW (kpW (cq_sI h s 5 0) k b0 b1 b2 (cq_I h k 4) (cq_I h a 3) (cq_J h s 13) (cq_I h s 17) (fun i => cq_J h b i)) k b0 b1 b2 (cq_I h k 4 + cq_I h a 3) (cq_I h a 4) (cq_J h s 13) (cq_I h s 17) (fun i => cq_J h b (cq_I h a 3 + i))) s (cq_J h a 6) (cq_I h e 11 + 1)) g → K none g)
    (hT : cq_I h a 1 = -1 → cq_I h a 2 = 1 → ∀ g q q2 t, CI c n L (Z + 1) E h0 [] g → ev (tsW (coD (coR (kpW (trW (kpW (cq_sI h s 5 0) k b0 b1 b2 (cq_I h k 4) (cq_I h a 3) (cq_J h s 13) (cq_I h s 17) (fun i => cq_J h b i)) s q (cq_I h s 16) (cq_J h e 9) (cq_J h a 5) o) k b0 b1 b2 (cq_I h k 4 + cq_I h a 3) (cq_I h a 4) (cq_J h e 9) 0 (fun i => cq_J h b (cq_I h a 3 + i))) s (cq_J h a 6) (cq_I h e 11 + 1)) p t (cq_I h p 1)) s t q2 (cq_J h a 5) (f_common (dV (cq_J h p 0) (cq_I h p 1)) (cq_J h e 9))) g → cq_s h t = 99 → cq_s g t = 6 → cq_J g t 0 = dV (cq_J h p 0) (cq_I h p 1) → cq_J g t 1 = dO (cq_J h p 0) (cq_I h p 1) → K none g) : cw Y mi_X4_carryOut K 0 [some (.inr (.inr (some a))), some (.inr (.inr (some s))), some (.inr (.inr (some e))), some (.inr (.inr (some p))), some (.inr (.inr o))] [] h 7 182 := by
  have sk : cq_s h k = 1 := H.ta hss (own_9 (by decide)) ek
  have sb : cq_s h b = 175 := H.ta hs (own_9 (by decide)) eb
  have sb0 : cq_s h b0 = 171 := H.ta sk (own_9 (by decide)) e0
  have sb1 : cq_s h b1 = 172 := H.ta sk (own_9 (by decide)) e1
  have sb2 : cq_s h b2 = 173 := H.ta sk (own_9 (by decide)) e2
  have na : ¬ a = s := ns hs hss (by decide)
  have nks : ¬ k = s := ns sk hss (by decide)
  have nes : ¬ e = s := ns hse hss (by decide)
  have nps : ¬ p = s := ns hsp hss (by decide)
  have ik := H.i1_4 sk
  have e11 := H.i0_11 hse
  have H1 := H.sI (a := s) (j := 5) (v := 0) hss (own_9 (by decide)) True.intro rfl
  -- from the second keeping on
  have j55 : ∀ (W g : cx_Q) (bc bs : Nat) (o' : Int64) (nr' : Int), 4 ≤ bc → 93 ≤ bs → CI c n L Z E h0 [] g → ev W g → cq_s W = cq_s h → cq_I h a 1 = -1 → cq_A g s 19 = some k → cq_A g k = cq_A h k → cq_I g a = cq_I h a → cq_J g a = cq_J h a → cq_J g b = cq_J h b → cq_A g a = cq_A h a → cq_I g e = cq_I h e → cq_I g p = cq_I h p → cq_J g p = cq_J h p → cq_I g k 4 = cq_I h k 4 + cq_I h a 3 → cq_J g s 13 = o' → cq_I g s 17 = nr' → (cq_I h a 2 = 1 → cq_J g s 6 = cq_J h a 5) → (cq_I h a 2 = 0 → ∀ g', CI c n L (Z + 1) E h0 [] g' → ev (coR (kpW W k b0 b1 b2 (cq_I h k 4 + cq_I h a 3) (cq_I h a 4) o' nr' (fun i => cq_J h b (cq_I h a 3 + i))) s (cq_J h a 6) (cq_I h e 11 + 1)) g' → K none g') → (cq_I h a 2 = 1 → ∀ g' q2 t, CI c n L (Z + 1) E h0 [] g' → ev (tsW (coD (coR (kpW W k b0 b1 b2 (cq_I h k 4 + cq_I h a 3) (cq_I h a 4) o' nr' (fun i => cq_J h b (cq_I h a 3 + i))) s (cq_J h a 6) (cq_I h e 11 + 1)) p t (cq_I h p 1)) s t q2 (cq_J h a 5) (f_common (dV (cq_J h p 0) (cq_I h p 1)) o')) g' → g.1 ≤ t → cq_s g' t = 6 → cq_J g' t 0 = dV (cq_J h p 0) (cq_I h p 1) → cq_J g' t 1 = dO (cq_J h p 0) (cq_I h p 1) → K none g') → cw Y mi_X4_carryOut K 55 [some (.inr (.inr (some a))), some (.inr (.inr (some s))), some (.inr (.inr (some e))), some (.inr (.inr (some p))), some (.inr (.inr o))] [] g bc bs := by
    intro W g bc bs o' nr' hbc hbs G eg Ws hm1 gk gkA gIa gJa gJb gAa gIe gIp gJp g4 g13 g17 g6 kN kT
    refine cw_room hbc hbs ?_
    have hr' := hr hm1
    have gs : cq_s g a = 3 := eg.s (by rw [Ws]; exact hs) (by decide)
    have gss : cq_s g s = 7 := eg.s (by rw [Ws]; exact hss) (by decide)
    have gse : cq_s g e = 0 := eg.s (by rw [Ws]; exact hse) (by decide)
    have gsp : cq_s g p = 4 := eg.s (by rw [Ws]; exact hsp) (by decide)
    have gsk : cq_s g k = 1 := eg.s (by rw [Ws]; exact sk) (by decide)
    have gsb : cq_s g b = 175 := eg.s (by rw [Ws]; exact sb) (by decide)
    have gs0 : cq_s g b0 = 171 := eg.s (by rw [Ws]; exact sb0) (by decide)
    have gs1 : cq_s g b1 = 172 := eg.s (by rw [Ws]; exact sb1) (by decide)
    have gs2 : cq_s g b2 = 173 := eg.s (by rw [Ws]; exact sb2) (by decide)
    refine bx_X4_carryOut_55 hY (pf2_ok hY) ?_
    simp only [wp_iconst, wp_bipush, wp_sipush, wp_ldc, wp_ldc2_w, wp_lconst0, wp_lconst1, wp_aconst_null, wp_iload_0, wp_istore_0, wp_iload_1, wp_istore_1, wp_iload_2, wp_istore_2, wp_iload_3, wp_istore_3, wp_iload, wp_istore, wp_lload_0, wp_lstore_0, wp_lload_1, wp_lstore_1, wp_lload_2, wp_lstore_2, wp_lload_3, wp_lstore_3, wp_lload, wp_lstore, wp_aload_0, wp_astore_0, wp_aload_1, wp_astore_1, wp_aload_2, wp_astore_2, wp_aload_3, wp_astore_3, wp_aload, wp_astore, wp_iinc, wp_iadd, wp_isub, wp_imul, wp_iand, wp_ior, wp_ixor, wp_ishl, wp_ishr, wp_iushr, wp_irem, wp_ladd, wp_lsub, wp_lmul, wp_land, wp_lor, wp_lxor, wp_lshl, wp_lshr, wp_lushr, wp_lrem, wp_lcmp, wp_i2l, wp_l2i, wp_dupI, wp_dupA, wp_dup2J, wp_dup2IA, wp_popI, wp_popA, wp_pop2, wp_goto, wp_if_eq, wp_icmp_eq, wp_if_ne, wp_icmp_ne, wp_if_lt, wp_icmp_lt, wp_if_ge, wp_icmp_ge, wp_if_gt, wp_icmp_gt, wp_if_le, wp_icmp_le, wp_ifnull, wp_ifnonnull, wp_acmp_eq, wp_acmp_ne, wp_tableswitch, wp_get0, wp_put0, wp_get1, wp_put1, wp_get2, wp_put2, wp_get3, wp_put3, wp_new, wp_newarray, wp_anewarray, wp_alen, wp_iaload, wp_laload, wp_baload, wp_aaload, wp_iastore, wp_lastore, wp_bastore, wp_aastore, wp_return, wp_ireturnI, wp_ireturnZ, wp_lreturn, wp_areturnO, wp_areturnA, wp_max, wp_min, wp_obj, wp_virt, wp_nil, ld_I0, ld_Is, ld_J0, ld_Js, ld_A0, ld_As, ha_0, ha_s, cx_put1, cx_put2, cx_dl, cx_tgt, true_and, and_true, Nat.reduceAdd, Nat.reduceSub, Int.reduceAdd, Int.reduceNeg, Int.reduceToNat, Int.reduceSub, Int.cast_ofNat_Int, List.take_succ_cons, List.take_zero, List.drop_succ_cons, List.drop_zero, List.take_nil, List.drop_nil, Option.toList_some, Option.toList_none, List.cons_append, List.nil_append, wp_spec, ne_eq, Nat.reduceEqDiff, not_false_eq_true, true_or, or_true, gs, gIa]
    refine cl_X4_keep (Nat.le_of_ble_eq_true rfl) gs (by omega) (by omega) (e_X4_keep hY G gs gss (by rw [gAa]; exact eb) gk (by rw [gkA]; exact e0) (by rw [gkA]; exact e1) (by rw [gkA]; exact e2) (by omega) (by rw [g4]; omega) (fun g2 G2 k2 => ?_))
    rw [g4, g13, g17, gJb] at k2
    have s2 : ∀ {d q : Nat}, cq_s g d = q → q ≠ 99 → cq_s g2 d = q := fun {d q} w w2 => k2.s (by rw [kpW_qs]; exact w) w2
    have gs2' : cq_s g2 a = 3 := s2 gs (by decide)
    have gss2 : cq_s g2 s = 7 := s2 gss (by decide)
    have gse2 : cq_s g2 e = 0 := s2 gse (by decide)
    have gsp2 : cq_s g2 p = 4 := s2 gsp (by decide)
    have Ia2 : cq_I g2 a = cq_I h a := by rw [k2.I (k0 := 3) (by rw [kpW_qs]; exact gs) rfl, kpW_I (ns gs gsk (by decide)) (ns gs gs1 (by decide)), gIa]
    have Ja2 : cq_J g2 a = cq_J h a := by rw [k2.J (k0 := 3) (by rw [kpW_qs]; exact gs) (by decide), kpW_J (ns gs gs0 (by decide)) (ns gs gs2 (by decide)), gJa]
    have Ie2 : cq_I g2 e = cq_I h e := by rw [k2.I (k0 := 0) (by rw [kpW_qs]; exact gse) rfl, kpW_I (ns gse gsk (by decide)) (ns gse gs1 (by decide)), gIe]
    have Ip2 : cq_I g2 p = cq_I h p := by rw [k2.I (k0 := 4) (by rw [kpW_qs]; exact gsp) rfl, kpW_I (ns gsp gsk (by decide)) (ns gsp gs1 (by decide)), gIp]
    have Jp2 : cq_J g2 p = cq_J h p := by rw [k2.J (k0 := 4) (by rw [kpW_qs]; exact gsp) (by decide), kpW_J (ns gsp gs0 (by decide)) (ns gsp gs2 (by decide)), gJp]
    have Js2 : cq_J g2 s = cq_J g s := by rw [k2.J (k0 := 7) (by rw [kpW_qs]; exact gss) (by decide), kpW_J (ns gss gs0 (by decide)) (ns gss gs2 (by decide))]
    have kk : ev (coR (kpW W k b0 b1 b2 (cq_I h k 4 + cq_I h a 3) (cq_I h a 4) o' nr' (fun i => cq_J h b (cq_I h a 3 + i))) s (cq_J h a 6) (cq_I h e 11 + 1)) (coR g2 s (cq_J h a 6) (cq_I h e 11 + 1)) := ((eg.ckp (by rw [Ws]; exact sb0) (by rw [Ws]; exact sb1) (by rw [Ws]; exact sb2)).trans k2).cco
    have le2 : g.1 ≤ g2.1 := k2.1
    clear k2
    have G3 : CI c n L Z E h0 [] (coR g2 s (cq_J h a 6) (cq_I h e 11 + 1)) := (G2.sJ (a := s) (j := 10) (v := cq_J h a 6) gss2 (own_9 (by decide))).sI (a := s) (j := 17) (v := cq_I h e 11 + 1) gss2 (own_9 (by decide)) ⟨by omega, by omega⟩ rfl
    refine bx_X4_carryOut_68 hY (pf2_ok hY) ?_
    simp only [wp_iconst, wp_bipush, wp_sipush, wp_ldc, wp_ldc2_w, wp_lconst0, wp_lconst1, wp_aconst_null, wp_iload_0, wp_istore_0, wp_iload_1, wp_istore_1, wp_iload_2, wp_istore_2, wp_iload_3, wp_istore_3, wp_iload, wp_istore, wp_lload_0, wp_lstore_0, wp_lload_1, wp_lstore_1, wp_lload_2, wp_lstore_2, wp_lload_3, wp_lstore_3, wp_lload, wp_lstore, wp_aload_0, wp_astore_0, wp_aload_1, wp_astore_1, wp_aload_2, wp_astore_2, wp_aload_3, wp_astore_3, wp_aload, wp_astore, wp_iinc, wp_iadd, wp_isub, wp_imul, wp_iand, wp_ior, wp_ixor, wp_ishl, wp_ishr, wp_iushr, wp_irem, wp_ladd, wp_lsub, wp_lmul, wp_land, wp_lor, wp_lxor, wp_lshl, wp_lshr, wp_lushr, wp_lrem, wp_lcmp, wp_i2l, wp_l2i, wp_dupI, wp_dupA, wp_dup2J, wp_dup2IA, wp_popI, wp_popA, wp_pop2, wp_goto, wp_if_eq, wp_icmp_eq, wp_if_ne, wp_icmp_ne, wp_if_lt, wp_icmp_lt, wp_if_ge, wp_icmp_ge, wp_if_gt, wp_icmp_gt, wp_if_le, wp_icmp_le, wp_ifnull, wp_ifnonnull, wp_acmp_eq, wp_acmp_ne, wp_tableswitch, wp_get0, wp_put0, wp_get1, wp_put1, wp_get2, wp_put2, wp_get3, wp_put3, wp_new, wp_newarray, wp_anewarray, wp_alen, wp_iaload, wp_laload, wp_baload, wp_aaload, wp_iastore, wp_lastore, wp_bastore, wp_aastore, wp_return, wp_ireturnI, wp_ireturnZ, wp_lreturn, wp_areturnO, wp_areturnA, wp_max, wp_min, wp_obj, wp_virt, wp_nil, ld_I0, ld_Is, ld_J0, ld_Js, ld_A0, ld_As, ha_0, ha_s, cx_put1, cx_put2, cx_dl, cx_tgt, true_and, and_true, Nat.reduceAdd, Nat.reduceSub, Int.reduceAdd, Int.reduceNeg, Int.reduceToNat, Int.reduceSub, Int.cast_ofNat_Int, List.take_succ_cons, List.take_zero, List.drop_succ_cons, List.drop_zero, List.take_nil, List.drop_nil, Option.toList_some, Option.toList_none, List.cons_append, List.nil_append, wp_spec, ne_eq, Nat.reduceEqDiff, not_false_eq_true, true_or, or_true, gs2', gss2, gse2, na, Ia2, Ja2, Ie2, nes, mm_sI, mm_sJ, mm_sA, mm_IJ, mm_IA, mm_JI, mm_JA, mm_AI, mm_AJ, mm_ssI, mm_ssJ, mm_ssA, mm_zI, mm_zJ, mm_zA, mm_nI, mm_nJ, mm_nA, Nat.left_eq_add, Nat.add_eq_left, Nat.add_left_cancel_iff, Nat.reduceEqDiff, Int.reduceEq, false_and, and_false, if_false, if_true, and_self, true_and, true_or, or_true, false_or, or_false, cx_rg]
    refine ⟨by omega, ?_⟩
    have ec : cq_sI (cq_sJ g2 s 10 (cq_J h a 6)) s 17 (cq_I h e 11 + 1) = coR g2 s (cq_J h a 6) (cq_I h e 11 + 1) := rfl
    rw [ec]
    have Ip3 : cq_I (coR g2 s (cq_J h a 6) (cq_I h e 11 + 1)) p = cq_I h p := by
      rw [← Ip2]
      funext r
      unfold coR
      rw [mm_sI, if_neg (fun e => nps e.1), mm_IJ]
    have Jp3 : cq_J (coR g2 s (cq_J h a 6) (cq_I h e 11 + 1)) p = cq_J h p := by
      rw [← Jp2]
      funext r
      unfold coR
      rw [mm_JI, mm_sJ, if_neg (fun e => nps e.1)]
    have Js3 : cq_J (coR g2 s (cq_J h a 6) (cq_I h e 11 + 1)) s 6 = cq_J g s 6 := by
      unfold coR
      rw [mm_JI, mm_sJ, if_neg (fun e => absurd e.2 (by decide)), Js2]
    have Js4 : cq_J (coR g2 s (cq_J h a 6) (cq_I h e 11 + 1)) s 13 = o' := by
      unfold coR
      rw [mm_JI, mm_sJ, if_neg (fun e => absurd e.2 (by decide)), Js2]
      exact g13
    have ss3 : cq_s (coR g2 s (cq_J h a 6) (cq_I h e 11 + 1)) s = 7 := by rw [coR_s]; exact gss2
    have sp3 : cq_s (coR g2 s (cq_J h a 6) (cq_I h e 11 + 1)) p = 4 := by rw [coR_s]; exact gsp2
    have l3 : g.1 ≤ (coR g2 s (cq_J h a 6) (cq_I h e 11 + 1)).1 := le2
    generalize coR g2 s (cq_J h a 6) (cq_I h e 11 + 1) = g3 at G3 kk Ip3 Jp3 Js3 Js4 ss3 sp3 l3 ⊢
    refine ⟨fun q => ?_, fun q => ?_⟩
    · refine bx_X4_carryOut_101 hY (pf2_ok hY) ?_
      simp only [wp_iconst, wp_bipush, wp_sipush, wp_ldc, wp_ldc2_w, wp_lconst0, wp_lconst1, wp_aconst_null, wp_iload_0, wp_istore_0, wp_iload_1, wp_istore_1, wp_iload_2, wp_istore_2, wp_iload_3, wp_istore_3, wp_iload, wp_istore, wp_lload_0, wp_lstore_0, wp_lload_1, wp_lstore_1, wp_lload_2, wp_lstore_2, wp_lload_3, wp_lstore_3, wp_lload, wp_lstore, wp_aload_0, wp_astore_0, wp_aload_1, wp_astore_1, wp_aload_2, wp_astore_2, wp_aload_3, wp_astore_3, wp_aload, wp_astore, wp_iinc, wp_iadd, wp_isub, wp_imul, wp_iand, wp_ior, wp_ixor, wp_ishl, wp_ishr, wp_iushr, wp_irem, wp_ladd, wp_lsub, wp_lmul, wp_land, wp_lor, wp_lxor, wp_lshl, wp_lshr, wp_lushr, wp_lrem, wp_lcmp, wp_i2l, wp_l2i, wp_dupI, wp_dupA, wp_dup2J, wp_dup2IA, wp_popI, wp_popA, wp_pop2, wp_goto, wp_if_eq, wp_icmp_eq, wp_if_ne, wp_icmp_ne, wp_if_lt, wp_icmp_lt, wp_if_ge, wp_icmp_ge, wp_if_gt, wp_icmp_gt, wp_if_le, wp_icmp_le, wp_ifnull, wp_ifnonnull, wp_acmp_eq, wp_acmp_ne, wp_tableswitch, wp_get0, wp_put0, wp_get1, wp_put1, wp_get2, wp_put2, wp_get3, wp_put3, wp_new, wp_newarray, wp_anewarray, wp_alen, wp_iaload, wp_laload, wp_baload, wp_aaload, wp_iastore, wp_lastore, wp_bastore, wp_aastore, wp_return, wp_ireturnI, wp_ireturnZ, wp_lreturn, wp_areturnO, wp_areturnA, wp_max, wp_min, wp_obj, wp_virt, wp_nil, ld_I0, ld_Is, ld_J0, ld_Js, ld_A0, ld_As, ha_0, ha_s, cx_put1, cx_put2, cx_dl, cx_tgt, true_and, and_true, Nat.reduceAdd, Nat.reduceSub, Int.reduceAdd, Int.reduceNeg, Int.reduceToNat, Int.reduceSub, Int.cast_ofNat_Int, List.take_succ_cons, List.take_zero, List.drop_succ_cons, List.drop_zero, List.take_nil, List.drop_nil, Option.toList_some, Option.toList_none, List.cons_append, List.nil_append, wp_spec, ne_eq, Nat.reduceEqDiff, not_false_eq_true, true_or, or_true]
      exact kN (by omega) _ (G3.up (by omega)) kk
    · have t1 : cq_I h a 2 = 1 := by omega
      refine cl_X5_drawSecret (Nat.le_of_ble_eq_true rfl) sp3 (by omega) (by omega) (e_X5_drawSecret hY G3 sp3 hZ (fun g4' G4 k4 st v1 v2 => ?_))
      rw [Ip3] at k4
      rw [Ip3, Jp3] at v1 v2
      have k4' : ev (coD g3 p g3.1 (cq_I h p 1)) g4' := k4
      clear k4
      have q4 : cq_s (coD g3 p g3.1 (cq_I h p 1)) = cq_s g3 := coD_s
      have ss4 : cq_s g4' s = 7 := k4'.s (by rw [q4]; exact ss3) (by decide)
      have J4 : cq_J g4' s = cq_J g3 s := by
        rw [k4'.J (k0 := 7) (by rw [q4]; exact ss3) (by decide), coD_J]
      refine bx_X4_carryOut_98 hY (pf2_ok hY) ?_
      simp only [wp_iconst, wp_bipush, wp_sipush, wp_ldc, wp_ldc2_w, wp_lconst0, wp_lconst1, wp_aconst_null, wp_iload_0, wp_istore_0, wp_iload_1, wp_istore_1, wp_iload_2, wp_istore_2, wp_iload_3, wp_istore_3, wp_iload, wp_istore, wp_lload_0, wp_lstore_0, wp_lload_1, wp_lstore_1, wp_lload_2, wp_lstore_2, wp_lload_3, wp_lstore_3, wp_lload, wp_lstore, wp_aload_0, wp_astore_0, wp_aload_1, wp_astore_1, wp_aload_2, wp_astore_2, wp_aload_3, wp_astore_3, wp_aload, wp_astore, wp_iinc, wp_iadd, wp_isub, wp_imul, wp_iand, wp_ior, wp_ixor, wp_ishl, wp_ishr, wp_iushr, wp_irem, wp_ladd, wp_lsub, wp_lmul, wp_land, wp_lor, wp_lxor, wp_lshl, wp_lshr, wp_lushr, wp_lrem, wp_lcmp, wp_i2l, wp_l2i, wp_dupI, wp_dupA, wp_dup2J, wp_dup2IA, wp_popI, wp_popA, wp_pop2, wp_goto, wp_if_eq, wp_icmp_eq, wp_if_ne, wp_icmp_ne, wp_if_lt, wp_icmp_lt, wp_if_ge, wp_icmp_ge, wp_if_gt, wp_icmp_gt, wp_if_le, wp_icmp_le, wp_ifnull, wp_ifnonnull, wp_acmp_eq, wp_acmp_ne, wp_tableswitch, wp_get0, wp_put0, wp_get1, wp_put1, wp_get2, wp_put2, wp_get3, wp_put3, wp_new, wp_newarray, wp_anewarray, wp_alen, wp_iaload, wp_laload, wp_baload, wp_aaload, wp_iastore, wp_lastore, wp_bastore, wp_aastore, wp_return, wp_ireturnI, wp_ireturnZ, wp_lreturn, wp_areturnO, wp_areturnA, wp_max, wp_min, wp_obj, wp_virt, wp_nil, ld_I0, ld_Is, ld_J0, ld_Js, ld_A0, ld_As, ha_0, ha_s, cx_put1, cx_put2, cx_dl, cx_tgt, true_and, and_true, Nat.reduceAdd, Nat.reduceSub, Int.reduceAdd, Int.reduceNeg, Int.reduceToNat, Int.reduceSub, Int.cast_ofNat_Int, List.take_succ_cons, List.take_zero, List.drop_succ_cons, List.drop_zero, List.take_nil, List.drop_nil, Option.toList_some, Option.toList_none, List.cons_append, List.nil_append, wp_spec, ne_eq, Nat.reduceEqDiff, not_false_eq_true, true_or, or_true]
      refine cl_X8_turnSending (Nat.le_of_ble_eq_true rfl) ss4 (by omega) (by omega) (e_X8_turnSending hY G4 ss4 st (fun g5 q5 G5 k5 => ?_))
      rw [v1, J4, Js3, Js4, g6 t1] at k5
      have nts : ¬ g3.1 = s := ns st ss4 (by decide)
      have st5 : cq_s (tsW g4' s g3.1 q5 (cq_J h a 5) (f_common (dV (cq_J h p 0) (cq_I h p 1)) o')) g3.1 = 6 := by rw [tsW_s]; exact st
      have J5 : cq_J g5 g3.1 = cq_J g4' g3.1 := by
        rw [k5.J (k0 := 6) st5 (by decide)]
        funext r
        unfold tsW
        simp only [nts, mm_sI, mm_sJ, mm_sA, mm_IJ, mm_IA, mm_JI, mm_JA, mm_AI, mm_AJ, mm_ssI, mm_ssJ, mm_ssA, mm_zI, mm_zJ, mm_zA, mm_nI, mm_nJ, mm_nA, Nat.left_eq_add, Nat.add_eq_left, Nat.add_left_cancel_iff, Nat.reduceEqDiff, Int.reduceEq, false_and, and_false, if_false, if_true, and_self, true_and, true_or, or_true, false_or, or_false]
      refine bx_X4_carryOut_101 hY (pf2_ok hY) ?_
      simp only [wp_iconst, wp_bipush, wp_sipush, wp_ldc, wp_ldc2_w, wp_lconst0, wp_lconst1, wp_aconst_null, wp_iload_0, wp_istore_0, wp_iload_1, wp_istore_1, wp_iload_2, wp_istore_2, wp_iload_3, wp_istore_3, wp_iload, wp_istore, wp_lload_0, wp_lstore_0, wp_lload_1, wp_lstore_1, wp_lload_2, wp_lstore_2, wp_lload_3, wp_lstore_3, wp_lload, wp_lstore, wp_aload_0, wp_astore_0, wp_aload_1, wp_astore_1, wp_aload_2, wp_astore_2, wp_aload_3, wp_astore_3, wp_aload, wp_astore, wp_iinc, wp_iadd, wp_isub, wp_imul, wp_iand, wp_ior, wp_ixor, wp_ishl, wp_ishr, wp_iushr, wp_irem, wp_ladd, wp_lsub, wp_lmul, wp_land, wp_lor, wp_lxor, wp_lshl, wp_lshr, wp_lushr, wp_lrem, wp_lcmp, wp_i2l, wp_l2i, wp_dupI, wp_dupA, wp_dup2J, wp_dup2IA, wp_popI, wp_popA, wp_pop2, wp_goto, wp_if_eq, wp_icmp_eq, wp_if_ne, wp_icmp_ne, wp_if_lt, wp_icmp_lt, wp_if_ge, wp_icmp_ge, wp_if_gt, wp_icmp_gt, wp_if_le, wp_icmp_le, wp_ifnull, wp_ifnonnull, wp_acmp_eq, wp_acmp_ne, wp_tableswitch, wp_get0, wp_put0, wp_get1, wp_put1, wp_get2, wp_put2, wp_get3, wp_put3, wp_new, wp_newarray, wp_anewarray, wp_alen, wp_iaload, wp_laload, wp_baload, wp_aaload, wp_iastore, wp_lastore, wp_bastore, wp_aastore, wp_return, wp_ireturnI, wp_ireturnZ, wp_lreturn, wp_areturnO, wp_areturnA, wp_max, wp_min, wp_obj, wp_virt, wp_nil, ld_I0, ld_Is, ld_J0, ld_Js, ld_A0, ld_As, ha_0, ha_s, cx_put1, cx_put2, cx_dl, cx_tgt, true_and, and_true, Nat.reduceAdd, Nat.reduceSub, Int.reduceAdd, Int.reduceNeg, Int.reduceToNat, Int.reduceSub, Int.cast_ofNat_Int, List.take_succ_cons, List.take_zero, List.drop_succ_cons, List.drop_zero, List.take_nil, List.drop_nil, Option.toList_some, Option.toList_none, List.cons_append, List.nil_append, wp_spec, ne_eq, Nat.reduceEqDiff, not_false_eq_true, true_or, or_true]
      exact kT t1 g5 q5 g3.1 G5 ((((kk.cdr).trans k4').cts).trans k5) l3 (k5.s st5 (by decide)) (by rw [J5]; exact v1) (by rw [J5]; exact v2)
  refine bx_X4_carryOut_0 hY (pf2_ok hY) ?_
  simp only [wp_iconst, wp_bipush, wp_sipush, wp_ldc, wp_ldc2_w, wp_lconst0, wp_lconst1, wp_aconst_null, wp_iload_0, wp_istore_0, wp_iload_1, wp_istore_1, wp_iload_2, wp_istore_2, wp_iload_3, wp_istore_3, wp_iload, wp_istore, wp_lload_0, wp_lstore_0, wp_lload_1, wp_lstore_1, wp_lload_2, wp_lstore_2, wp_lload_3, wp_lstore_3, wp_lload, wp_lstore, wp_aload_0, wp_astore_0, wp_aload_1, wp_astore_1, wp_aload_2, wp_astore_2, wp_aload_3, wp_astore_3, wp_aload, wp_astore, wp_iinc, wp_iadd, wp_isub, wp_imul, wp_iand, wp_ior, wp_ixor, wp_ishl, wp_ishr, wp_iushr, wp_irem, wp_ladd, wp_lsub, wp_lmul, wp_land, wp_lor, wp_lxor, wp_lshl, wp_lshr, wp_lushr, wp_lrem, wp_lcmp, wp_i2l, wp_l2i, wp_dupI, wp_dupA, wp_dup2J, wp_dup2IA, wp_popI, wp_popA, wp_pop2, wp_goto, wp_if_eq, wp_icmp_eq, wp_if_ne, wp_icmp_ne, wp_if_lt, wp_icmp_lt, wp_if_ge, wp_icmp_ge, wp_if_gt, wp_icmp_gt, wp_if_le, wp_icmp_le, wp_ifnull, wp_ifnonnull, wp_acmp_eq, wp_acmp_ne, wp_tableswitch, wp_get0, wp_put0, wp_get1, wp_put1, wp_get2, wp_put2, wp_get3, wp_put3, wp_new, wp_newarray, wp_anewarray, wp_alen, wp_iaload, wp_laload, wp_baload, wp_aaload, wp_iastore, wp_lastore, wp_bastore, wp_aastore, wp_return, wp_ireturnI, wp_ireturnZ, wp_lreturn, wp_areturnO, wp_areturnA, wp_max, wp_min, wp_obj, wp_virt, wp_nil, ld_I0, ld_Is, ld_J0, ld_Js, ld_A0, ld_As, ha_0, ha_s, cx_put1, cx_put2, cx_dl, cx_tgt, true_and, and_true, Nat.reduceAdd, Nat.reduceSub, Int.reduceAdd, Int.reduceNeg, Int.reduceToNat, Int.reduceSub, Int.cast_ofNat_Int, List.take_succ_cons, List.take_zero, List.drop_succ_cons, List.drop_zero, List.take_nil, List.drop_nil, Option.toList_some, Option.toList_none, List.cons_append, List.nil_append, wp_spec, ne_eq, Nat.reduceEqDiff, not_false_eq_true, true_or, or_true, hs, hss, ek, na, mm_sI, mm_sJ, mm_sA, mm_IJ, mm_IA, mm_JI, mm_JA, mm_AI, mm_AJ, mm_ssI, mm_ssJ, mm_ssA, mm_zI, mm_zJ, mm_zA, mm_nI, mm_nJ, mm_nA, Nat.left_eq_add, Nat.add_eq_left, Nat.add_left_cancel_iff, Nat.reduceEqDiff, Int.reduceEq, false_and, and_false, if_false, if_true, and_self, true_and, true_or, or_true, false_or, or_false]
  (repeat' (with_reducible (first | refine And.intro ?_ ?_ | intro _)))
  all_goals (try omega)
  · rename_i q
    have hm1 : cq_I h a 1 = -1 := by omega
    have hr' := hr hm1
    have I1 : ∀ {d : Nat}, d ≠ s → cq_I (cq_sI h s 5 0) d = cq_I h d := fun {d} w => by funext r; rw [mm_sI, if_neg (fun e => w e.1)]
    have Is1 : ∀ j, j ≠ 5 → cq_I (cq_sI h s 5 0) s j = cq_I h s j := fun j w => by rw [mm_sI, if_neg (fun e => w e.2)]
    have gs1 : cq_s (cq_sI h s 5 0) a = 3 := hs
    refine bx_X4_carryOut_24 hY (pf2_ok hY) ?_
    simp only [wp_iconst, wp_bipush, wp_sipush, wp_ldc, wp_ldc2_w, wp_lconst0, wp_lconst1, wp_aconst_null, wp_iload_0, wp_istore_0, wp_iload_1, wp_istore_1, wp_iload_2, wp_istore_2, wp_iload_3, wp_istore_3, wp_iload, wp_istore, wp_lload_0, wp_lstore_0, wp_lload_1, wp_lstore_1, wp_lload_2, wp_lstore_2, wp_lload_3, wp_lstore_3, wp_lload, wp_lstore, wp_aload_0, wp_astore_0, wp_aload_1, wp_astore_1, wp_aload_2, wp_astore_2, wp_aload_3, wp_astore_3, wp_aload, wp_astore, wp_iinc, wp_iadd, wp_isub, wp_imul, wp_iand, wp_ior, wp_ixor, wp_ishl, wp_ishr, wp_iushr, wp_irem, wp_ladd, wp_lsub, wp_lmul, wp_land, wp_lor, wp_lxor, wp_lshl, wp_lshr, wp_lushr, wp_lrem, wp_lcmp, wp_i2l, wp_l2i, wp_dupI, wp_dupA, wp_dup2J, wp_dup2IA, wp_popI, wp_popA, wp_pop2, wp_goto, wp_if_eq, wp_icmp_eq, wp_if_ne, wp_icmp_ne, wp_if_lt, wp_icmp_lt, wp_if_ge, wp_icmp_ge, wp_if_gt, wp_icmp_gt, wp_if_le, wp_icmp_le, wp_ifnull, wp_ifnonnull, wp_acmp_eq, wp_acmp_ne, wp_tableswitch, wp_get0, wp_put0, wp_get1, wp_put1, wp_get2, wp_put2, wp_get3, wp_put3, wp_new, wp_newarray, wp_anewarray, wp_alen, wp_iaload, wp_laload, wp_baload, wp_aaload, wp_iastore, wp_lastore, wp_bastore, wp_aastore, wp_return, wp_ireturnI, wp_ireturnZ, wp_lreturn, wp_areturnO, wp_areturnA, wp_max, wp_min, wp_obj, wp_virt, wp_nil, ld_I0, ld_Is, ld_J0, ld_Js, ld_A0, ld_As, ha_0, ha_s, cx_put1, cx_put2, cx_dl, cx_tgt, true_and, and_true, Nat.reduceAdd, Nat.reduceSub, Int.reduceAdd, Int.reduceNeg, Int.reduceToNat, Int.reduceSub, Int.cast_ofNat_Int, List.take_succ_cons, List.take_zero, List.drop_succ_cons, List.drop_zero, List.take_nil, List.drop_nil, Option.toList_some, Option.toList_none, List.cons_append, List.nil_append, wp_spec, ne_eq, Nat.reduceEqDiff, not_false_eq_true, true_or, or_true, gs1]
    rw [I1 na]
    refine cl_X4_keep (Nat.le_of_ble_eq_true rfl) gs1 (by omega) (by omega) (e_X4_keep hY H1 gs1 hss eb ek e0 e1 e2 (by omega) (by rw [I1 nks]; omega) (fun g2 G2 k2 => ?_))
    have ef : (fun i => cq_J (cq_sI h s 5 0) b (0 + i)) = (fun i => cq_J h b i) := by funext i; rw [Int.zero_add]; rfl
    rw [I1 nks, ef, Is1 17 (by decide)] at k2
    have k2' : ev (kpW (cq_sI h s 5 0) k b0 b1 b2 (cq_I h k 4) (cq_I h a 3) (cq_J h s 13) (cq_I h s 17) (fun i => cq_J h b i)) g2 := k2
    clear k2
    have s1 : cq_s (cq_sI h s 5 0) = cq_s h := rfl
    have s2 : ∀ {d q : Nat}, cq_s h d = q → q ≠ 99 → cq_s g2 d = q := fun {d q} w w2 => k2'.s (by rw [kpW_qs]; exact w) w2
    have I2 : ∀ {d q : Nat}, cq_s h d = q → okI q = true → q ≠ 1 → q ≠ 172 → d ≠ s → cq_I g2 d = cq_I h d := fun {d q} w w2 w3 w4 w5 => by rw [k2'.I (k0 := q) (by rw [kpW_qs]; exact w) w2, kpW_I (ns w sk w3) (ns w sb1 w4), I1 w5]
    have J2 : ∀ {d q : Nat}, cq_s h d = q → q ≠ 99 → q ≠ 171 → q ≠ 173 → cq_J g2 d = cq_J h d := fun {d q} w w2 w3 w4 => by rw [k2'.J (k0 := q) (by rw [kpW_qs]; exact w) w2, kpW_J (ns w sb0 w3) (ns w sb2 w4)]; rfl
    have A2 : ∀ {d q : Nat}, cq_s h d = q → okA q = true → cq_A g2 d = cq_A h d := fun {d q} w w2 => by rw [k2'.A (k0 := q) (by rw [kpW_qs]; exact w) w2, kpW_qA]; rfl
    have g4 : cq_I g2 k 4 = cq_I h k 4 + cq_I h a 3 := by rw [k2'.I (k0 := 1) (by rw [kpW_qs]; exact sk) rfl, kpW_4]
    have Is2 : ∀ j, j ≠ 5 → cq_I g2 s j = cq_I h s j := fun j w => by rw [k2'.I (k0 := 7) (by rw [kpW_qs]; exact hss) rfl, kpW_I (ns hss sk (by decide)) (ns hss sb1 (by decide)), Is1 j w]
    have gs2 : cq_s g2 a = 3 := s2 hs (by decide)
    have gss2 : cq_s g2 s = 7 := s2 hss (by decide)
    have gse2 : cq_s g2 e = 0 := s2 hse (by decide)
    refine bx_X4_carryOut_34 hY (pf2_ok hY) ?_
    simp only [wp_iconst, wp_bipush, wp_sipush, wp_ldc, wp_ldc2_w, wp_lconst0, wp_lconst1, wp_aconst_null, wp_iload_0, wp_istore_0, wp_iload_1, wp_istore_1, wp_iload_2, wp_istore_2, wp_iload_3, wp_istore_3, wp_iload, wp_istore, wp_lload_0, wp_lstore_0, wp_lload_1, wp_lstore_1, wp_lload_2, wp_lstore_2, wp_lload_3, wp_lstore_3, wp_lload, wp_lstore, wp_aload_0, wp_astore_0, wp_aload_1, wp_astore_1, wp_aload_2, wp_astore_2, wp_aload_3, wp_astore_3, wp_aload, wp_astore, wp_iinc, wp_iadd, wp_isub, wp_imul, wp_iand, wp_ior, wp_ixor, wp_ishl, wp_ishr, wp_iushr, wp_irem, wp_ladd, wp_lsub, wp_lmul, wp_land, wp_lor, wp_lxor, wp_lshl, wp_lshr, wp_lushr, wp_lrem, wp_lcmp, wp_i2l, wp_l2i, wp_dupI, wp_dupA, wp_dup2J, wp_dup2IA, wp_popI, wp_popA, wp_pop2, wp_goto, wp_if_eq, wp_icmp_eq, wp_if_ne, wp_icmp_ne, wp_if_lt, wp_icmp_lt, wp_if_ge, wp_icmp_ge, wp_if_gt, wp_icmp_gt, wp_if_le, wp_icmp_le, wp_ifnull, wp_ifnonnull, wp_acmp_eq, wp_acmp_ne, wp_tableswitch, wp_get0, wp_put0, wp_get1, wp_put1, wp_get2, wp_put2, wp_get3, wp_put3, wp_new, wp_newarray, wp_anewarray, wp_alen, wp_iaload, wp_laload, wp_baload, wp_aaload, wp_iastore, wp_lastore, wp_bastore, wp_aastore, wp_return, wp_ireturnI, wp_ireturnZ, wp_lreturn, wp_areturnO, wp_areturnA, wp_max, wp_min, wp_obj, wp_virt, wp_nil, ld_I0, ld_Is, ld_J0, ld_Js, ld_A0, ld_As, ha_0, ha_s, cx_put1, cx_put2, cx_dl, cx_tgt, true_and, and_true, Nat.reduceAdd, Nat.reduceSub, Int.reduceAdd, Int.reduceNeg, Int.reduceToNat, Int.reduceSub, Int.cast_ofNat_Int, List.take_succ_cons, List.take_zero, List.drop_succ_cons, List.drop_zero, List.take_nil, List.drop_nil, Option.toList_some, Option.toList_none, List.cons_append, List.nil_append, wp_spec, ne_eq, Nat.reduceEqDiff, not_false_eq_true, true_or, or_true, gs2, gse2, I2 hs rfl (by decide) (by decide) na, J2 hse (by decide) (by decide) (by decide), J2 hs (by decide) (by decide) (by decide)]
    refine ⟨fun z => j55 _ g2 _ _ (cq_J h s 13) (cq_I h s 17) (by omega) (by omega) G2 k2' kpW_qs hm1 (by rw [A2 hss rfl]; exact ek) (A2 sk rfl) (I2 hs rfl (by decide) (by decide) na) (J2 hs (by decide) (by decide) (by decide)) (J2 sb (by decide) (by decide) (by decide)) (A2 hs rfl) (I2 hse rfl (by decide) (by decide) nes) (I2 hsp rfl (by decide) (by decide) nps) (J2 hsp (by decide) (by decide) (by decide)) g4 (by rw [J2 hss (by decide) (by decide) (by decide)]) (Is2 17 (by decide)) (fun w => by omega) (fun w => hN hm1 w) (fun w => by omega), fun z => ?_⟩
    have t1 : cq_I h a 2 = 1 := by omega
    refine cl_X8_turnReceiving (Nat.le_of_ble_eq_true rfl) gss2 (by omega) (by omega) (e_X8_turnReceiving hY G2 gss2 (fun b q => s2 (ho b q) (by decide)) (fun g3 q3 G3 k3 => ?_))
    rw [Is2 16 (by decide)] at k3
    have kt := k2'.ctr (a := s) (q := q3) (s := cq_I h s 16) (u := cq_J h e 9) (v := cq_J h a 5) (o := o)
    have kk := kt.trans k3
    clear kt
    have ts : cq_s (trW g2 s q3 (cq_I h s 16) (cq_J h e 9) (cq_J h a 5) o) = cq_s g2 := trW_s
    have tsW' : cq_s (trW (kpW (cq_sI h s 5 0) k b0 b1 b2 (cq_I h k 4) (cq_I h a 3) (cq_J h s 13) (cq_I h s 17) (fun i => cq_J h b i)) s q3 (cq_I h s 16) (cq_J h e 9) (cq_J h a 5) o) = cq_s h := by rw [trW_s, kpW_qs]; exact mm_ssI
    have tI : ∀ {d : Nat}, d ≠ s → cq_I (trW g2 s q3 (cq_I h s 16) (cq_J h e 9) (cq_J h a 5) o) d = cq_I g2 d := fun {d} w => by funext r; unfold trW; simp only [w, mm_sI, mm_sJ, mm_sA, mm_IJ, mm_IA, mm_JI, mm_JA, mm_AI, mm_AJ, mm_ssI, mm_ssJ, mm_ssA, mm_zI, mm_zJ, mm_zA, mm_nI, mm_nJ, mm_nA, Nat.left_eq_add, Nat.add_eq_left, Nat.add_left_cancel_iff, Nat.reduceEqDiff, Int.reduceEq, false_and, and_false, if_false, if_true, and_self, true_and, true_or, or_true, false_or, or_false]
    have tJ : ∀ {d : Nat}, d ≠ s → cq_J (trW g2 s q3 (cq_I h s 16) (cq_J h e 9) (cq_J h a 5) o) d = cq_J g2 d := fun {d} w => by funext r; unfold trW; simp only [w, mm_sI, mm_sJ, mm_sA, mm_IJ, mm_IA, mm_JI, mm_JA, mm_AI, mm_AJ, mm_ssI, mm_ssJ, mm_ssA, mm_zI, mm_zJ, mm_zA, mm_nI, mm_nJ, mm_nA, Nat.left_eq_add, Nat.add_eq_left, Nat.add_left_cancel_iff, Nat.reduceEqDiff, Int.reduceEq, false_and, and_false, if_false, if_true, and_self, true_and, true_or, or_true, false_or, or_false]
    have tA : ∀ {d : Nat}, d ≠ s → cq_A (trW g2 s q3 (cq_I h s 16) (cq_J h e 9) (cq_J h a 5) o) d = cq_A g2 d := fun {d} w => by funext r; unfold trW; simp only [w, mm_sI, mm_sJ, mm_sA, mm_IJ, mm_IA, mm_JI, mm_JA, mm_AI, mm_AJ, mm_ssI, mm_ssJ, mm_ssA, mm_zI, mm_zJ, mm_zA, mm_nI, mm_nJ, mm_nA, Nat.left_eq_add, Nat.add_eq_left, Nat.add_left_cancel_iff, Nat.reduceEqDiff, Int.reduceEq, false_and, and_false, if_false, if_true, and_self, true_and, true_or, or_true, false_or, or_false]
    have I3 : ∀ {d q : Nat}, cq_s g2 d = q → okI q = true → d ≠ s → cq_I g3 d = cq_I g2 d := fun {d q} w w2 w5 => by rw [k3.I (k0 := q) (by rw [ts]; exact w) w2, tI w5]
    have J3 : ∀ {d q : Nat}, cq_s g2 d = q → q ≠ 99 → d ≠ s → cq_J g3 d = cq_J g2 d := fun {d q} w w2 w5 => by rw [k3.J (k0 := q) (by rw [ts]; exact w) w2, tJ w5]
    have A3 : ∀ {d q : Nat}, cq_s g2 d = q → okA q = true → d ≠ s → cq_A g3 d = cq_A g2 d := fun {d q} w w2 w5 => by rw [k3.A (k0 := q) (by rw [ts]; exact w) w2, tA w5]
    have gsk2 : cq_s g2 k = 1 := s2 sk (by decide)
    have gsp2 : cq_s g2 p = 4 := s2 hsp (by decide)
    have gsb2 : cq_s g2 b = 175 := s2 sb (by decide)
    have nbs : ¬ b = s := ns sb hss (by decide)
    have a19 : cq_A g3 s 19 = some k := by
      rw [k3.A (k0 := 7) (by rw [ts]; exact gss2) rfl]
      unfold trW
      simp only [mm_sI, mm_sJ, mm_sA, mm_IJ, mm_IA, mm_JI, mm_JA, mm_AI, mm_AJ, mm_ssI, mm_ssJ, mm_ssA, mm_zI, mm_zJ, mm_zA, mm_nI, mm_nJ, mm_nA, Nat.left_eq_add, Nat.add_eq_left, Nat.add_left_cancel_iff, Nat.reduceEqDiff, Int.reduceEq, false_and, and_false, if_false, if_true, and_self, true_and, true_or, or_true, false_or, or_false]
      rw [A2 hss rfl]
      exact ek
    have j13 : cq_J g3 s 13 = cq_J h e 9 := by
      rw [k3.J (k0 := 7) (by rw [ts]; exact gss2) (by decide)]
      unfold trW
      simp only [mm_sI, mm_sJ, mm_sA, mm_IJ, mm_IA, mm_JI, mm_JA, mm_AI, mm_AJ, mm_ssI, mm_ssJ, mm_ssA, mm_zI, mm_zJ, mm_zA, mm_nI, mm_nJ, mm_nA, Nat.left_eq_add, Nat.add_eq_left, Nat.add_left_cancel_iff, Nat.reduceEqDiff, Int.reduceEq, false_and, and_false, if_false, if_true, and_self, true_and, true_or, or_true, false_or, or_false]
    have j6 : cq_J g3 s 6 = cq_J h a 5 := by
      rw [k3.J (k0 := 7) (by rw [ts]; exact gss2) (by decide)]
      unfold trW
      simp only [mm_sI, mm_sJ, mm_sA, mm_IJ, mm_IA, mm_JI, mm_JA, mm_AI, mm_AJ, mm_ssI, mm_ssJ, mm_ssA, mm_zI, mm_zJ, mm_zA, mm_nI, mm_nJ, mm_nA, Nat.left_eq_add, Nat.add_eq_left, Nat.add_left_cancel_iff, Nat.reduceEqDiff, Int.reduceEq, false_and, and_false, if_false, if_true, and_self, true_and, true_or, or_true, false_or, or_false]
    have i17 : cq_I g3 s 17 = 0 := by
      rw [k3.I (k0 := 7) (by rw [ts]; exact gss2) rfl]
      unfold trW
      simp only [mm_sI, mm_sJ, mm_sA, mm_IJ, mm_IA, mm_JI, mm_JA, mm_AI, mm_AJ, mm_ssI, mm_ssJ, mm_ssA, mm_zI, mm_zJ, mm_zA, mm_nI, mm_nJ, mm_nA, Nat.left_eq_add, Nat.add_eq_left, Nat.add_left_cancel_iff, Nat.reduceEqDiff, Int.reduceEq, false_and, and_false, if_false, if_true, and_self, true_and, true_or, or_true, false_or, or_false]
    have le3 : h.1 ≤ g3.1 := Nat.le_trans (Nat.le_trans (Nat.le_refl _) k2'.1) k3.1
    refine j55 _ g3 _ _ (cq_J h e 9) 0 (by omega) (by omega) G3 kk tsW' hm1 a19 (by rw [A3 gsk2 rfl nks, A2 sk rfl]) (by rw [I3 gs2 rfl na, I2 hs rfl (by decide) (by decide) na]) (by rw [J3 gs2 (by decide) na, J2 hs (by decide) (by decide) (by decide)]) (by rw [J3 gsb2 (by decide) nbs, J2 sb (by decide) (by decide) (by decide)]) (by rw [A3 gs2 rfl na, A2 hs rfl]) (by rw [I3 gse2 rfl nes, I2 hse rfl (by decide) (by decide) nes]) (by rw [I3 gsp2 rfl nps, I2 hsp rfl (by decide) (by decide) nps]) (by rw [J3 gsp2 (by decide) nps, J2 hsp (by decide) (by decide) (by decide)]) (by rw [I3 gsk2 rfl nks]; exact g4) j13 i17 (fun _ => j6) (fun w => by omega) (fun w g' q2 t G' k' le' st v1 v2 => hT hm1 t1 g' q3 q2 t G' k' (H.al t (Nat.le_trans le3 le')) st v1 v2)
  · rename_i q
    have sk1 : cq_s (cq_sI h s 5 0) k = 1 := sk
    have I1 : cq_I (cq_sI h s 5 0) k = cq_I h k := by funext r; rw [mm_sI, if_neg (fun e => nks e.1)]
    refine cl_X1_drop (Nat.le_of_ble_eq_true rfl) sk1 (by omega) (by omega) (e_X1_drop hY H1 List.not_mem_nil sk1 e0 e1 e2 (by rw [I1]; omega) (fun g2 G2 k2 => ?_))
    rw [I1] at k2
    refine bx_X4_carryOut_23 hY (pf2_ok hY) ?_
    simp only [wp_iconst, wp_bipush, wp_sipush, wp_ldc, wp_ldc2_w, wp_lconst0, wp_lconst1, wp_aconst_null, wp_iload_0, wp_istore_0, wp_iload_1, wp_istore_1, wp_iload_2, wp_istore_2, wp_iload_3, wp_istore_3, wp_iload, wp_istore, wp_lload_0, wp_lstore_0, wp_lload_1, wp_lstore_1, wp_lload_2, wp_lstore_2, wp_lload_3, wp_lstore_3, wp_lload, wp_lstore, wp_aload_0, wp_astore_0, wp_aload_1, wp_astore_1, wp_aload_2, wp_astore_2, wp_aload_3, wp_astore_3, wp_aload, wp_astore, wp_iinc, wp_iadd, wp_isub, wp_imul, wp_iand, wp_ior, wp_ixor, wp_ishl, wp_ishr, wp_iushr, wp_irem, wp_ladd, wp_lsub, wp_lmul, wp_land, wp_lor, wp_lxor, wp_lshl, wp_lshr, wp_lushr, wp_lrem, wp_lcmp, wp_i2l, wp_l2i, wp_dupI, wp_dupA, wp_dup2J, wp_dup2IA, wp_popI, wp_popA, wp_pop2, wp_goto, wp_if_eq, wp_icmp_eq, wp_if_ne, wp_icmp_ne, wp_if_lt, wp_icmp_lt, wp_if_ge, wp_icmp_ge, wp_if_gt, wp_icmp_gt, wp_if_le, wp_icmp_le, wp_ifnull, wp_ifnonnull, wp_acmp_eq, wp_acmp_ne, wp_tableswitch, wp_get0, wp_put0, wp_get1, wp_put1, wp_get2, wp_put2, wp_get3, wp_put3, wp_new, wp_newarray, wp_anewarray, wp_alen, wp_iaload, wp_laload, wp_baload, wp_aaload, wp_iastore, wp_lastore, wp_bastore, wp_aastore, wp_return, wp_ireturnI, wp_ireturnZ, wp_lreturn, wp_areturnO, wp_areturnA, wp_max, wp_min, wp_obj, wp_virt, wp_nil, ld_I0, ld_Is, ld_J0, ld_Js, ld_A0, ld_As, ha_0, ha_s, cx_put1, cx_put2, cx_dl, cx_tgt, true_and, and_true, Nat.reduceAdd, Nat.reduceSub, Int.reduceAdd, Int.reduceNeg, Int.reduceToNat, Int.reduceSub, Int.cast_ofNat_Int, List.take_succ_cons, List.take_zero, List.drop_succ_cons, List.drop_zero, List.take_nil, List.drop_nil, Option.toList_some, Option.toList_none, List.cons_append, List.nil_append, wp_spec, ne_eq, Nat.reduceEqDiff, not_false_eq_true, true_or, or_true]
    exact hKp (by omega) _ (G2.up (by omega)) k2
end
/-! class and reference, by value -/
/-- a user: p its cell, u its number, x the reference -/
def FU (x p : Nat) (u : Int) (h g : cx_Q) : Prop := (cq_s h p = 4) ∧ (cq_s h (p + 1) = 176) ∧ (cq_s h (p + 2) = 177) ∧ (cq_s h (p + 3) = 178) ∧ (cq_s h (p + 4) = 179) ∧ (cq_s h (p + 5) = 180) ∧ (cq_A h p 8 = some (p + 1)) ∧ (cq_A h p 9 = some (p + 2)) ∧ (cq_A h p 10 = some (p + 3)) ∧ (cq_A h p 14 = some (p + 4)) ∧ (cq_A h p 15 = some (p + 5)) ∧ (cq_J h p 0 = cq_J g (x + 1) u) ∧ (cq_I h p 1 = cq_I g (x + 12) u) ∧ (cq_I g (x + 11) u = 0 → cq_A h p 3 = none) ∧ (cq_I g (x + 11) u ≠ 0 → ∃ d, cq_A h p 3 = some d ∧ cq_s h d = 6 ∧ cq_J h d 0 = cq_J g (x + 13) u ∧ cq_J h d 1 = cq_J g (x + 14) u ∧ uu (cq_J g (x + 13) u) < 2305843009213693952 ∧ 0 < uu (cq_J g (x + 14) u) ∧ uu (cq_J g (x + 14) u) < 2305843009213693951) ∧ (uu (cq_J g (x + 21) u) < 2305843009213693951) ∧ (cq_I h p 4 = cq_I g (x + 16) u) ∧ (0 ≤ cq_I g (x + 16) u ∧ cq_I g (x + 16) u ≤ 20) ∧ (cq_J h p 5 = cq_J g (x + 20) u) ∧ (cq_J h p 6 = cq_J g (x + 21) u) ∧ (cq_J h p 7 = cq_J g (x + 22) u) ∧ (∀ k, 1 ≤ k → k ≤ cq_I g (x + 16) u → ∃ d, cq_A h (p + 1) k = some d ∧ cq_s h d = 6 ∧ cq_J h d 0 = cq_J g (x + 17) (21 * u + k) ∧ cq_J h d 1 = cq_J g (x + 18) (21 * u + k)) ∧ (cq_I h p 11 = cq_I g (x + 23) u) ∧ (0 ≤ cq_I g (x + 23) u ∧ cq_I g (x + 23) u ≤ 60) ∧ (∀ k, 1 ≤ k → k ≤ cq_I g (x + 23) u → ∃ d, cq_A h (p + 2) k = some d ∧ cq_s h d = 6 ∧ cq_J h d 0 = cq_J g (x + 24) (61 * u + k) ∧ cq_J h d 1 = cq_J g (x + 25) (61 * u + k)) ∧ (∀ k, 1 ≤ k → k ≤ cq_I g (x + 23) u → (cq_I h (p + 3) k = 0 ↔ cq_I g (x + 28) (61 * u + k) ≠ 0)) ∧ (∀ k, cq_I g (x + 23) u < k → cq_I h (p + 3) k = 0) ∧ (0 ≤ cq_I h p 12 ∧ cq_I h p 12 ≤ cq_I g (x + 23) u) ∧ (∀ k, 1 ≤ k → k ≤ cq_I g (x + 23) u → (cq_I g (x + 27) (61 * u + k) ≠ 0 ↔ cq_I h p 12 < k)) ∧ (cq_I h p 16 = cq_I g (x + 58) u) ∧ (0 ≤ cq_I g (x + 58) u ∧ cq_I g (x + 58) u ≤ 100) ∧ (∀ k, 0 ≤ k → k < cq_I g (x + 58) u → cq_J h (p + 4) k = cq_J g (x + 60) (100 * u + k) ∧ cq_I h (p + 5) k = cq_I g (x + 59) (100 * u + k))
theorem FU.s0 {x p : Nat} {u : Int} {h g : cx_Q} (F_ : FU x p u h g) : cq_s h p = 4 := F_.1
theorem FU.s1 {x p : Nat} {u : Int} {h g : cx_Q} (F_ : FU x p u h g) : cq_s h (p + 1) = 176 := F_.2.1
theorem FU.s2 {x p : Nat} {u : Int} {h g : cx_Q} (F_ : FU x p u h g) : cq_s h (p + 2) = 177 := F_.2.2.1
theorem FU.s3 {x p : Nat} {u : Int} {h g : cx_Q} (F_ : FU x p u h g) : cq_s h (p + 3) = 178 := F_.2.2.2.1
theorem FU.s4 {x p : Nat} {u : Int} {h g : cx_Q} (F_ : FU x p u h g) : cq_s h (p + 4) = 179 := F_.2.2.2.2.1
theorem FU.s5 {x p : Nat} {u : Int} {h g : cx_Q} (F_ : FU x p u h g) : cq_s h (p + 5) = 180 := F_.2.2.2.2.2.1
theorem FU.a8 {x p : Nat} {u : Int} {h g : cx_Q} (F_ : FU x p u h g) : cq_A h p 8 = some (p + 1) := F_.2.2.2.2.2.2.1
theorem FU.a9 {x p : Nat} {u : Int} {h g : cx_Q} (F_ : FU x p u h g) : cq_A h p 9 = some (p + 2) := F_.2.2.2.2.2.2.2.1
theorem FU.a10 {x p : Nat} {u : Int} {h g : cx_Q} (F_ : FU x p u h g) : cq_A h p 10 = some (p + 3) := F_.2.2.2.2.2.2.2.2.1
theorem FU.a14 {x p : Nat} {u : Int} {h g : cx_Q} (F_ : FU x p u h g) : cq_A h p 14 = some (p + 4) := F_.2.2.2.2.2.2.2.2.2.1
theorem FU.a15 {x p : Nat} {u : Int} {h g : cx_Q} (F_ : FU x p u h g) : cq_A h p 15 = some (p + 5) := F_.2.2.2.2.2.2.2.2.2.2.1
theorem FU.sd {x p : Nat} {u : Int} {h g : cx_Q} (F_ : FU x p u h g) : cq_J h p 0 = cq_J g (x + 1) u := F_.2.2.2.2.2.2.2.2.2.2.2.1
theorem FU.dr {x p : Nat} {u : Int} {h g : cx_Q} (F_ : FU x p u h g) : cq_I h p 1 = cq_I g (x + 12) u := F_.2.2.2.2.2.2.2.2.2.2.2.2.1
theorem FU.n0 {x p : Nat} {u : Int} {h g : cx_Q} (F_ : FU x p u h g) : cq_I g (x + 11) u = 0 → cq_A h p 3 = none := F_.2.2.2.2.2.2.2.2.2.2.2.2.2.1
theorem FU.n1 {x p : Nat} {u : Int} {h g : cx_Q} (F_ : FU x p u h g) : cq_I g (x + 11) u ≠ 0 → ∃ d, cq_A h p 3 = some d ∧ cq_s h d = 6 ∧ cq_J h d 0 = cq_J g (x + 13) u ∧ cq_J h d 1 = cq_J g (x + 14) u ∧ uu (cq_J g (x + 13) u) < 2305843009213693952 ∧ 0 < uu (cq_J g (x + 14) u) ∧ uu (cq_J g (x + 14) u) < 2305843009213693951 := F_.2.2.2.2.2.2.2.2.2.2.2.2.2.2.1
theorem FU.sb {x p : Nat} {u : Int} {h g : cx_Q} (F_ : FU x p u h g) : uu (cq_J g (x + 21) u) < 2305843009213693951 := F_.2.2.2.2.2.2.2.2.2.2.2.2.2.2.2.1
theorem FU.ln {x p : Nat} {u : Int} {h g : cx_Q} (F_ : FU x p u h g) : cq_I h p 4 = cq_I g (x + 16) u := F_.2.2.2.2.2.2.2.2.2.2.2.2.2.2.2.2.1
theorem FU.l20 {x p : Nat} {u : Int} {h g : cx_Q} (F_ : FU x p u h g) : 0 ≤ cq_I g (x + 16) u ∧ cq_I g (x + 16) u ≤ 20 := F_.2.2.2.2.2.2.2.2.2.2.2.2.2.2.2.2.2.1
theorem FU.lo {x p : Nat} {u : Int} {h g : cx_Q} (F_ : FU x p u h g) : cq_J h p 5 = cq_J g (x + 20) u := F_.2.2.2.2.2.2.2.2.2.2.2.2.2.2.2.2.2.2.1
theorem FU.so {x p : Nat} {u : Int} {h g : cx_Q} (F_ : FU x p u h g) : cq_J h p 6 = cq_J g (x + 21) u := F_.2.2.2.2.2.2.2.2.2.2.2.2.2.2.2.2.2.2.2.1
theorem FU.sp {x p : Nat} {u : Int} {h g : cx_Q} (F_ : FU x p u h g) : cq_J h p 7 = cq_J g (x + 22) u := F_.2.2.2.2.2.2.2.2.2.2.2.2.2.2.2.2.2.2.2.2.1
theorem FU.lk {x p : Nat} {u : Int} {h g : cx_Q} (F_ : FU x p u h g) : ∀ k, 1 ≤ k → k ≤ cq_I g (x + 16) u → ∃ d, cq_A h (p + 1) k = some d ∧ cq_s h d = 6 ∧ cq_J h d 0 = cq_J g (x + 17) (21 * u + k) ∧ cq_J h d 1 = cq_J g (x + 18) (21 * u + k) := F_.2.2.2.2.2.2.2.2.2.2.2.2.2.2.2.2.2.2.2.2.2.1
theorem FU.on {x p : Nat} {u : Int} {h g : cx_Q} (F_ : FU x p u h g) : cq_I h p 11 = cq_I g (x + 23) u := F_.2.2.2.2.2.2.2.2.2.2.2.2.2.2.2.2.2.2.2.2.2.2.1
theorem FU.o60 {x p : Nat} {u : Int} {h g : cx_Q} (F_ : FU x p u h g) : 0 ≤ cq_I g (x + 23) u ∧ cq_I g (x + 23) u ≤ 60 := F_.2.2.2.2.2.2.2.2.2.2.2.2.2.2.2.2.2.2.2.2.2.2.2.1
theorem FU.ok {x p : Nat} {u : Int} {h g : cx_Q} (F_ : FU x p u h g) : ∀ k, 1 ≤ k → k ≤ cq_I g (x + 23) u → ∃ d, cq_A h (p + 2) k = some d ∧ cq_s h d = 6 ∧ cq_J h d 0 = cq_J g (x + 24) (61 * u + k) ∧ cq_J h d 1 = cq_J g (x + 25) (61 * u + k) := F_.2.2.2.2.2.2.2.2.2.2.2.2.2.2.2.2.2.2.2.2.2.2.2.2.1
theorem FU.ou {x p : Nat} {u : Int} {h g : cx_Q} (F_ : FU x p u h g) : ∀ k, 1 ≤ k → k ≤ cq_I g (x + 23) u → (cq_I h (p + 3) k = 0 ↔ cq_I g (x + 28) (61 * u + k) ≠ 0) := F_.2.2.2.2.2.2.2.2.2.2.2.2.2.2.2.2.2.2.2.2.2.2.2.2.2.1
theorem FU.oz {x p : Nat} {u : Int} {h g : cx_Q} (F_ : FU x p u h g) : ∀ k, cq_I g (x + 23) u < k → cq_I h (p + 3) k = 0 := F_.2.2.2.2.2.2.2.2.2.2.2.2.2.2.2.2.2.2.2.2.2.2.2.2.2.2.1
theorem FU.ot {x p : Nat} {u : Int} {h g : cx_Q} (F_ : FU x p u h g) : 0 ≤ cq_I h p 12 ∧ cq_I h p 12 ≤ cq_I g (x + 23) u := F_.2.2.2.2.2.2.2.2.2.2.2.2.2.2.2.2.2.2.2.2.2.2.2.2.2.2.2.1
theorem FU.od {x p : Nat} {u : Int} {h g : cx_Q} (F_ : FU x p u h g) : ∀ k, 1 ≤ k → k ≤ cq_I g (x + 23) u → (cq_I g (x + 27) (61 * u + k) ≠ 0 ↔ cq_I h p 12 < k) := F_.2.2.2.2.2.2.2.2.2.2.2.2.2.2.2.2.2.2.2.2.2.2.2.2.2.2.2.2.1
theorem FU.hd {x p : Nat} {u : Int} {h g : cx_Q} (F_ : FU x p u h g) : cq_I h p 16 = cq_I g (x + 58) u := F_.2.2.2.2.2.2.2.2.2.2.2.2.2.2.2.2.2.2.2.2.2.2.2.2.2.2.2.2.2.1
theorem FU.h100 {x p : Nat} {u : Int} {h g : cx_Q} (F_ : FU x p u h g) : 0 ≤ cq_I g (x + 58) u ∧ cq_I g (x + 58) u ≤ 100 := F_.2.2.2.2.2.2.2.2.2.2.2.2.2.2.2.2.2.2.2.2.2.2.2.2.2.2.2.2.2.2.1
theorem FU.he {x p : Nat} {u : Int} {h g : cx_Q} (F_ : FU x p u h g) : ∀ k, 0 ≤ k → k < cq_I g (x + 58) u → cq_J h (p + 4) k = cq_J g (x + 60) (100 * u + k) ∧ cq_I h (p + 5) k = cq_I g (x + 59) (100 * u + k) := F_.2.2.2.2.2.2.2.2.2.2.2.2.2.2.2.2.2.2.2.2.2.2.2.2.2.2.2.2.2.2.2
/-- what of the reference is told of a user -/
def inU (u : Int) (o : Nat) (j : Int) : Prop := ((o = 1 ∨ o = 11 ∨ o = 12 ∨ o = 13 ∨ o = 14 ∨ o = 16 ∨ o = 20 ∨ o = 21 ∨ o = 22 ∨ o = 23 ∨ o = 58) ∧ j = u) ∨ ((o = 17 ∨ o = 18) ∧ 21 * u < j ∧ j ≤ 21 * u + 20) ∨ ((o = 24 ∨ o = 25 ∨ o = 27 ∨ o = 28) ∧ 61 * u < j ∧ j ≤ 61 * u + 60) ∨ ((o = 59 ∨ o = 60) ∧ 100 * u ≤ j ∧ j < 100 * u + 100)
/-- a user of whom nothing is other -/
theorem FU.fr {x p : Nat} {u : Int} {h g h' g' : cx_Q} (F : FU x p u h g) (es : ∀ d, cq_s h d ≠ 99 → cq_s h' d = cq_s h d) (eI : cq_I h' p = cq_I h p) (eJ : cq_J h' p = cq_J h p) (eA : cq_A h' p = cq_A h p) (e1 : cq_A h' (p + 1) = cq_A h (p + 1)) (e2 : cq_A h' (p + 2) = cq_A h (p + 2)) (e3 : cq_I h' (p + 3) = cq_I h (p + 3)) (e4 : cq_J h' (p + 4) = cq_J h (p + 4)) (e5 : cq_I h' (p + 5) = cq_I h (p + 5)) (e6 : ∀ d, cq_s h d = 6 → cq_J h' d = cq_J h d) (eg : ∀ o j, inU u o j → cq_I g' (x + o) j = cq_I g (x + o) j ∧ cq_J g' (x + o) j = cq_J g (x + o) j) : FU x p u h' g' := by
  have gI : ∀ o, (o = 1 ∨ o = 11 ∨ o = 12 ∨ o = 13 ∨ o = 14 ∨ o = 16 ∨ o = 20 ∨ o = 21 ∨ o = 22 ∨ o = 23 ∨ o = 58) → cq_I g' (x + o) u = cq_I g (x + o) u := fun o w => (eg o u (Or.inl ⟨w, rfl⟩)).1
  have gJ : ∀ o, (o = 1 ∨ o = 11 ∨ o = 12 ∨ o = 13 ∨ o = 14 ∨ o = 16 ∨ o = 20 ∨ o = 21 ∨ o = 22 ∨ o = 23 ∨ o = 58) → cq_J g' (x + o) u = cq_J g (x + o) u := fun o w => (eg o u (Or.inl ⟨w, rfl⟩)).2
  have i11 := gI 11 (by omega)
  have i12 := gI 12 (by omega)
  have i16 := gI 16 (by omega)
  have i23 := gI 23 (by omega)
  have i58 := gI 58 (by omega)
  have ss : ∀ {d k : Nat}, cq_s h d = k → k ≠ 99 → cq_s h' d = k := fun {d k} w w2 => (es d (by rw [w]; exact w2)).trans w
  have l20 := F.l20
  have o60 := F.o60
  have h100 := F.h100
  refine ⟨ss F.s0 (by decide), ss F.s1 (by decide), ss F.s2 (by decide), ss F.s3 (by decide), ss F.s4 (by decide), ss F.s5 (by decide), by rw [eA]; exact F.a8, by rw [eA]; exact F.a9, by rw [eA]; exact F.a10, by rw [eA]; exact F.a14, by rw [eA]; exact F.a15, by rw [eJ, gJ 1 (by omega)]; exact F.sd, by rw [eI, i12]; exact F.dr, fun q => by rw [eA]; exact F.n0 (by rw [← i11]; exact q), fun q => ?_, by rw [gJ 21 (by omega)]; exact F.sb, by rw [eI, i16]; exact F.ln, by rw [i16]; exact F.l20, by rw [eJ, gJ 20 (by omega)]; exact F.lo, by rw [eJ, gJ 21 (by omega)]; exact F.so, by rw [eJ, gJ 22 (by omega)]; exact F.sp, fun k k1 k2 => ?_, by rw [eI, i23]; exact F.on, by rw [i23]; exact F.o60, fun k k1 k2 => ?_, fun k k1 k2 => ?_, fun k k1 => ?_, by rw [eI, i23]; exact F.ot, fun k k1 k2 => ?_, by rw [eI, i58]; exact F.hd, by rw [i58]; exact F.h100, fun k k1 k2 => ?_⟩
  · obtain ⟨d, q1, q2, q3, q4, q5, q6, q7⟩ := F.n1 (by rw [← i11]; exact q)
    exact ⟨d, by rw [eA]; exact q1, ss q2 (by decide), by rw [e6 d q2, gJ 13 (by omega)]; exact q3, by rw [e6 d q2, gJ 14 (by omega)]; exact q4, by rw [gJ 13 (by omega)]; exact q5, by rw [gJ 14 (by omega)]; exact q6, by rw [gJ 14 (by omega)]; exact q7⟩
  · rw [i16] at k2
    obtain ⟨d, q1, q2, q3, q4⟩ := F.lk k k1 k2
    exact ⟨d, by rw [e1]; exact q1, ss q2 (by decide), by rw [e6 d q2, (eg 17 (21 * u + k) (Or.inr (Or.inl ⟨Or.inl rfl, by omega, by omega⟩))).2]; exact q3, by rw [e6 d q2, (eg 18 (21 * u + k) (Or.inr (Or.inl ⟨Or.inr rfl, by omega, by omega⟩))).2]; exact q4⟩
  · rw [i23] at k2
    obtain ⟨d, q1, q2, q3, q4⟩ := F.ok k k1 k2
    exact ⟨d, by rw [e2]; exact q1, ss q2 (by decide), by rw [e6 d q2, (eg 24 (61 * u + k) (Or.inr (Or.inr (Or.inl ⟨Or.inl rfl, by omega, by omega⟩)))).2]; exact q3, by rw [e6 d q2, (eg 25 (61 * u + k) (Or.inr (Or.inr (Or.inl ⟨Or.inr (Or.inl rfl), by omega, by omega⟩)))).2]; exact q4⟩
  · rw [i23] at k2
    rw [e3, (eg 28 (61 * u + k) (Or.inr (Or.inr (Or.inl ⟨Or.inr (Or.inr (Or.inr rfl)), by omega, by omega⟩)))).1]
    exact F.ou k k1 k2
  · rw [i23] at k1
    rw [e3]
    exact F.oz k k1
  · rw [i23] at k2
    rw [eI, (eg 27 (61 * u + k) (Or.inr (Or.inr (Or.inl ⟨Or.inr (Or.inr (Or.inl rfl)), by omega, by omega⟩)))).1]
    exact F.od k k1 k2
  · rw [i58] at k2
    rw [e4, e5, (eg 60 (100 * u + k) (Or.inr (Or.inr (Or.inr ⟨Or.inr rfl, by omega, by omega⟩)))).2, (eg 59 (100 * u + k) (Or.inr (Or.inr (Or.inr ⟨Or.inl rfl, by omega, by omega⟩)))).1]
    exact F.he k k1 k2
/-- a SESSION: a its cell, s its slot -/
def SR (x a : Nat) (s : Int) (h g : cx_Q) : Prop := (cq_s h a = 7) ∧ (cq_s h (a + 1) = 1) ∧ (cq_s h (a + 2) = 171) ∧ (cq_s h (a + 3) = 172) ∧ (cq_s h (a + 4) = 173) ∧ (cq_A h a 19 = some (a + 1)) ∧ (cq_A h (a + 1) 0 = some (a + 2)) ∧ (cq_A h (a + 1) 1 = some (a + 3)) ∧ (cq_A h (a + 1) 2 = some (a + 4)) ∧ (cq_I h a 0 = cq_I g (x + 44) s) ∧ (cq_J h a 2 = cq_J g (x + 45) s) ∧ (cq_I h a 5 = cq_I g (x + 43) s) ∧ (cq_I g (x + 43) s ≠ 0 → cq_I h a 3 = cq_I g (x + 46) s ∧ cq_I h a 4 = cq_I g (x + 47) s) ∧ (cq_J h a 6 = cq_J g (x + 31) s) ∧ (cq_J h a 8 = cq_J g (x + 32) s) ∧ (cq_A h a 9 ≠ none) ∧ (cq_I g (x + 33) s ≠ 0) ∧ (cq_A h a 11 = none ↔ cq_I g (x + 35) s = 0) ∧ (cq_I g (x + 35) s ≠ 0 → cq_J h a 10 = cq_J g (x + 34) s) ∧ (cq_I g (x + 35) s = 0 → cq_J h a 10 = Int64.ofInt 0) ∧ (∃ w, cq_A h a 12 = some w ∧ cq_s h w = 6 ∧ cq_J h w 0 = cq_J g (x + 36) s ∧ cq_J h w 1 = cq_J g (x + 37) s) ∧ (cq_J h a 13 = cq_J g (x + 38) s) ∧ (cq_I h a 15 = cq_I g (x + 39) s) ∧ (cq_I h a 16 = cq_I g (x + 40) s) ∧ (cq_I h a 17 = cq_I g (x + 41) s) ∧ (cq_I h a 18 = cq_I g (x + 42) s) ∧ (cq_I h (a + 1) 4 = cq_I g (x + 53) s) ∧ (0 ≤ cq_I g (x + 53) s ∧ cq_I g (x + 53) s ≤ 20) ∧ (∀ k, 0 ≤ k → k < cq_I g (x + 53) s → cq_J h (a + 2) k = cq_J g (x + 54) (20 * s + k) ∧ cq_I h (a + 3) k = cq_I g (x + 55) (20 * s + k) ∧ cq_J h (a + 4) k = cq_J g (x + 56) (20 * s + k))
theorem SR.s0 {x a : Nat} {s : Int} {h g : cx_Q} (F_ : SR x a s h g) : cq_s h a = 7 := F_.1
theorem SR.s1 {x a : Nat} {s : Int} {h g : cx_Q} (F_ : SR x a s h g) : cq_s h (a + 1) = 1 := F_.2.1
theorem SR.s2 {x a : Nat} {s : Int} {h g : cx_Q} (F_ : SR x a s h g) : cq_s h (a + 2) = 171 := F_.2.2.1
theorem SR.s3 {x a : Nat} {s : Int} {h g : cx_Q} (F_ : SR x a s h g) : cq_s h (a + 3) = 172 := F_.2.2.2.1
theorem SR.s4 {x a : Nat} {s : Int} {h g : cx_Q} (F_ : SR x a s h g) : cq_s h (a + 4) = 173 := F_.2.2.2.2.1
theorem SR.a19 {x a : Nat} {s : Int} {h g : cx_Q} (F_ : SR x a s h g) : cq_A h a 19 = some (a + 1) := F_.2.2.2.2.2.1
theorem SR.k0 {x a : Nat} {s : Int} {h g : cx_Q} (F_ : SR x a s h g) : cq_A h (a + 1) 0 = some (a + 2) := F_.2.2.2.2.2.2.1
theorem SR.k1 {x a : Nat} {s : Int} {h g : cx_Q} (F_ : SR x a s h g) : cq_A h (a + 1) 1 = some (a + 3) := F_.2.2.2.2.2.2.2.1
theorem SR.k2 {x a : Nat} {s : Int} {h g : cx_Q} (F_ : SR x a s h g) : cq_A h (a + 1) 2 = some (a + 4) := F_.2.2.2.2.2.2.2.2.1
theorem SR.bg {x a : Nat} {s : Int} {h g : cx_Q} (F_ : SR x a s h g) : cq_I h a 0 = cq_I g (x + 44) s := F_.2.2.2.2.2.2.2.2.2.1
theorem SR.be {x a : Nat} {s : Int} {h g : cx_Q} (F_ : SR x a s h g) : cq_J h a 2 = cq_J g (x + 45) s := F_.2.2.2.2.2.2.2.2.2.2.1
theorem SR.gw {x a : Nat} {s : Int} {h g : cx_Q} (F_ : SR x a s h g) : cq_I h a 5 = cq_I g (x + 43) s := F_.2.2.2.2.2.2.2.2.2.2.2.1
theorem SR.gl {x a : Nat} {s : Int} {h g : cx_Q} (F_ : SR x a s h g) : cq_I g (x + 43) s ≠ 0 → cq_I h a 3 = cq_I g (x + 46) s ∧ cq_I h a 4 = cq_I g (x + 47) s := F_.2.2.2.2.2.2.2.2.2.2.2.2.1
theorem SR.rt {x a : Nat} {s : Int} {h g : cx_Q} (F_ : SR x a s h g) : cq_J h a 6 = cq_J g (x + 31) s := F_.2.2.2.2.2.2.2.2.2.2.2.2.2.1
theorem SR.sn {x a : Nat} {s : Int} {h g : cx_Q} (F_ : SR x a s h g) : cq_J h a 8 = cq_J g (x + 32) s := F_.2.2.2.2.2.2.2.2.2.2.2.2.2.2.1
theorem SR.s9 {x a : Nat} {s : Int} {h g : cx_Q} (F_ : SR x a s h g) : cq_A h a 9 ≠ none := F_.2.2.2.2.2.2.2.2.2.2.2.2.2.2.2.1
theorem SR.hs {x a : Nat} {s : Int} {h g : cx_Q} (F_ : SR x a s h g) : cq_I g (x + 33) s ≠ 0 := F_.2.2.2.2.2.2.2.2.2.2.2.2.2.2.2.2.1
theorem SR.hr {x a : Nat} {s : Int} {h g : cx_Q} (F_ : SR x a s h g) : cq_A h a 11 = none ↔ cq_I g (x + 35) s = 0 := F_.2.2.2.2.2.2.2.2.2.2.2.2.2.2.2.2.2.1
theorem SR.rc {x a : Nat} {s : Int} {h g : cx_Q} (F_ : SR x a s h g) : cq_I g (x + 35) s ≠ 0 → cq_J h a 10 = cq_J g (x + 34) s := F_.2.2.2.2.2.2.2.2.2.2.2.2.2.2.2.2.2.2.1
theorem SR.rz {x a : Nat} {s : Int} {h g : cx_Q} (F_ : SR x a s h g) : cq_I g (x + 35) s = 0 → cq_J h a 10 = Int64.ofInt 0 := F_.2.2.2.2.2.2.2.2.2.2.2.2.2.2.2.2.2.2.2.1
theorem SR.ow {x a : Nat} {s : Int} {h g : cx_Q} (F_ : SR x a s h g) : ∃ w, cq_A h a 12 = some w ∧ cq_s h w = 6 ∧ cq_J h w 0 = cq_J g (x + 36) s ∧ cq_J h w 1 = cq_J g (x + 37) s := F_.2.2.2.2.2.2.2.2.2.2.2.2.2.2.2.2.2.2.2.2.1
theorem SR.ot {x a : Nat} {s : Int} {h g : cx_Q} (F_ : SR x a s h g) : cq_J h a 13 = cq_J g (x + 38) s := F_.2.2.2.2.2.2.2.2.2.2.2.2.2.2.2.2.2.2.2.2.2.1
theorem SR.ho {x a : Nat} {s : Int} {h g : cx_Q} (F_ : SR x a s h g) : cq_I h a 15 = cq_I g (x + 39) s := F_.2.2.2.2.2.2.2.2.2.2.2.2.2.2.2.2.2.2.2.2.2.2.1
theorem SR.ns {x a : Nat} {s : Int} {h g : cx_Q} (F_ : SR x a s h g) : cq_I h a 16 = cq_I g (x + 40) s := F_.2.2.2.2.2.2.2.2.2.2.2.2.2.2.2.2.2.2.2.2.2.2.2.1
theorem SR.nr {x a : Nat} {s : Int} {h g : cx_Q} (F_ : SR x a s h g) : cq_I h a 17 = cq_I g (x + 41) s := F_.2.2.2.2.2.2.2.2.2.2.2.2.2.2.2.2.2.2.2.2.2.2.2.2.1
theorem SR.pn {x a : Nat} {s : Int} {h g : cx_Q} (F_ : SR x a s h g) : cq_I h a 18 = cq_I g (x + 42) s := F_.2.2.2.2.2.2.2.2.2.2.2.2.2.2.2.2.2.2.2.2.2.2.2.2.2.1
theorem SR.km {x a : Nat} {s : Int} {h g : cx_Q} (F_ : SR x a s h g) : cq_I h (a + 1) 4 = cq_I g (x + 53) s := F_.2.2.2.2.2.2.2.2.2.2.2.2.2.2.2.2.2.2.2.2.2.2.2.2.2.2.1
theorem SR.k20 {x a : Nat} {s : Int} {h g : cx_Q} (F_ : SR x a s h g) : 0 ≤ cq_I g (x + 53) s ∧ cq_I g (x + 53) s ≤ 20 := F_.2.2.2.2.2.2.2.2.2.2.2.2.2.2.2.2.2.2.2.2.2.2.2.2.2.2.2.1
theorem SR.kk {x a : Nat} {s : Int} {h g : cx_Q} (F_ : SR x a s h g) : ∀ k, 0 ≤ k → k < cq_I g (x + 53) s → cq_J h (a + 2) k = cq_J g (x + 54) (20 * s + k) ∧ cq_I h (a + 3) k = cq_I g (x + 55) (20 * s + k) ∧ cq_J h (a + 4) k = cq_J g (x + 56) (20 * s + k) := F_.2.2.2.2.2.2.2.2.2.2.2.2.2.2.2.2.2.2.2.2.2.2.2.2.2.2.2.2
/-- what of the reference is told of a SESSION -/
def inS (s : Int) (o : Nat) (j : Int) : Prop := (((31 ≤ o ∧ o ≤ 47) ∨ o = 53) ∧ j = s) ∨ ((o = 54 ∨ o = 55 ∨ o = 56) ∧ 20 * s ≤ j ∧ j < 20 * s + 20)
theorem SR.fr {x a : Nat} {s : Int} {h g h' g' : cx_Q} (F : SR x a s h g) (es : ∀ d, cq_s h d ≠ 99 → cq_s h' d = cq_s h d) (eI : cq_I h' a = cq_I h a) (eJ : cq_J h' a = cq_J h a) (eA : cq_A h' a = cq_A h a) (e1 : cq_I h' (a + 1) = cq_I h (a + 1)) (e1' : cq_A h' (a + 1) = cq_A h (a + 1)) (e2 : cq_J h' (a + 2) = cq_J h (a + 2)) (e3 : cq_I h' (a + 3) = cq_I h (a + 3)) (e4 : cq_J h' (a + 4) = cq_J h (a + 4)) (e6 : ∀ d, cq_s h d = 6 → cq_J h' d = cq_J h d) (eg : ∀ o j, inS s o j → cq_I g' (x + o) j = cq_I g (x + o) j ∧ cq_J g' (x + o) j = cq_J g (x + o) j) : SR x a s h' g' := by
  have gI : ∀ o, ((31 ≤ o ∧ o ≤ 47) ∨ o = 53) → cq_I g' (x + o) s = cq_I g (x + o) s := fun o w => (eg o s (Or.inl ⟨w, rfl⟩)).1
  have gJ : ∀ o, ((31 ≤ o ∧ o ≤ 47) ∨ o = 53) → cq_J g' (x + o) s = cq_J g (x + o) s := fun o w => (eg o s (Or.inl ⟨w, rfl⟩)).2
  have ss : ∀ {d k : Nat}, cq_s h d = k → k ≠ 99 → cq_s h' d = k := fun {d k} w w2 => (es d (by rw [w]; exact w2)).trans w
  have k20 := F.k20
  refine ⟨ss F.s0 (by decide), ss F.s1 (by decide), ss F.s2 (by decide), ss F.s3 (by decide), ss F.s4 (by decide), by rw [eA]; exact F.a19, by rw [e1']; exact F.k0, by rw [e1']; exact F.k1, by rw [e1']; exact F.k2, by rw [eI, gI 44 (by omega)]; exact F.bg, by rw [eJ, gJ 45 (by omega)]; exact F.be, by rw [eI, gI 43 (by omega)]; exact F.gw, by rw [eI, gI 43 (by omega), gI 46 (by omega), gI 47 (by omega)]; exact F.gl, by rw [eJ, gJ 31 (by omega)]; exact F.rt, by rw [eJ, gJ 32 (by omega)]; exact F.sn, by rw [eA]; exact F.s9, by rw [gI 33 (by omega)]; exact F.hs, by rw [eA, gI 35 (by omega)]; exact F.hr, by rw [eJ, gI 35 (by omega), gJ 34 (by omega)]; exact F.rc, by rw [eJ, gI 35 (by omega)]; exact F.rz, ?_, by rw [eJ, gJ 38 (by omega)]; exact F.ot, by rw [eI, gI 39 (by omega)]; exact F.ho, by rw [eI, gI 40 (by omega)]; exact F.ns, by rw [eI, gI 41 (by omega)]; exact F.nr, by rw [eI, gI 42 (by omega)]; exact F.pn, by rw [e1, gI 53 (by omega)]; exact F.km, by rw [gI 53 (by omega)]; exact F.k20, fun k k1 k2 => ?_⟩
  · obtain ⟨w, q1, q2, q3, q4⟩ := F.ow
    exact ⟨w, by rw [eA]; exact q1, ss q2 (by decide), by rw [e6 w q2, gJ 36 (by omega)]; exact q3, by rw [e6 w q2, gJ 37 (by omega)]; exact q4⟩
  · rw [gI 53 (by omega)] at k2
    rw [e2, e3, e4, (eg 54 (20 * s + k) (Or.inr ⟨Or.inl rfl, by omega, by omega⟩)).2, (eg 55 (20 * s + k) (Or.inr ⟨Or.inr (Or.inl rfl), by omega, by omega⟩)).1, (eg 56 (20 * s + k) (Or.inr ⟨Or.inr (Or.inr rfl), by omega, by omega⟩)).2]
    exact F.kk k k1 k2
/-- a SESSION, as far as a letter can be opened in it -/
def SR0 (x a : Nat) (s : Int) (h g : cx_Q) : Prop := (cq_s h a = 7) ∧ (cq_s h (a + 1) = 1) ∧ (cq_s h (a + 2) = 171) ∧ (cq_s h (a + 3) = 172) ∧ (cq_s h (a + 4) = 173) ∧ (cq_A h a 19 = some (a + 1)) ∧ (cq_A h (a + 1) 0 = some (a + 2)) ∧ (cq_A h (a + 1) 1 = some (a + 3)) ∧ (cq_A h (a + 1) 2 = some (a + 4)) ∧ (cq_I h a 0 = cq_I g (x + 44) s) ∧ (cq_J h a 2 = cq_J g (x + 45) s) ∧ (cq_J h a 6 = cq_J g (x + 31) s) ∧ (cq_A h a 11 = none ↔ cq_I g (x + 35) s = 0) ∧ (cq_I g (x + 35) s ≠ 0 → cq_J h a 10 = cq_J g (x + 34) s) ∧ (cq_J h a 13 = cq_J g (x + 38) s) ∧ (cq_I h a 15 = cq_I g (x + 39) s) ∧ (cq_I h a 16 = cq_I g (x + 40) s) ∧ (cq_I h a 17 = cq_I g (x + 41) s) ∧ (cq_I h (a + 1) 4 = cq_I g (x + 53) s) ∧ (0 ≤ cq_I g (x + 53) s ∧ cq_I g (x + 53) s ≤ 20) ∧ (∀ k, 0 ≤ k → k < cq_I g (x + 53) s → cq_J h (a + 2) k = cq_J g (x + 54) (20 * s + k) ∧ cq_I h (a + 3) k = cq_I g (x + 55) (20 * s + k) ∧ cq_J h (a + 4) k = cq_J g (x + 56) (20 * s + k))
theorem SR0.s0 {x a : Nat} {s : Int} {h g : cx_Q} (F_ : SR0 x a s h g) : cq_s h a = 7 := F_.1
theorem SR0.s1 {x a : Nat} {s : Int} {h g : cx_Q} (F_ : SR0 x a s h g) : cq_s h (a + 1) = 1 := F_.2.1
theorem SR0.s2 {x a : Nat} {s : Int} {h g : cx_Q} (F_ : SR0 x a s h g) : cq_s h (a + 2) = 171 := F_.2.2.1
theorem SR0.s3 {x a : Nat} {s : Int} {h g : cx_Q} (F_ : SR0 x a s h g) : cq_s h (a + 3) = 172 := F_.2.2.2.1
theorem SR0.s4 {x a : Nat} {s : Int} {h g : cx_Q} (F_ : SR0 x a s h g) : cq_s h (a + 4) = 173 := F_.2.2.2.2.1
theorem SR0.a19 {x a : Nat} {s : Int} {h g : cx_Q} (F_ : SR0 x a s h g) : cq_A h a 19 = some (a + 1) := F_.2.2.2.2.2.1
theorem SR0.k0 {x a : Nat} {s : Int} {h g : cx_Q} (F_ : SR0 x a s h g) : cq_A h (a + 1) 0 = some (a + 2) := F_.2.2.2.2.2.2.1
theorem SR0.k1 {x a : Nat} {s : Int} {h g : cx_Q} (F_ : SR0 x a s h g) : cq_A h (a + 1) 1 = some (a + 3) := F_.2.2.2.2.2.2.2.1
theorem SR0.k2 {x a : Nat} {s : Int} {h g : cx_Q} (F_ : SR0 x a s h g) : cq_A h (a + 1) 2 = some (a + 4) := F_.2.2.2.2.2.2.2.2.1
theorem SR0.bg {x a : Nat} {s : Int} {h g : cx_Q} (F_ : SR0 x a s h g) : cq_I h a 0 = cq_I g (x + 44) s := F_.2.2.2.2.2.2.2.2.2.1
theorem SR0.be {x a : Nat} {s : Int} {h g : cx_Q} (F_ : SR0 x a s h g) : cq_J h a 2 = cq_J g (x + 45) s := F_.2.2.2.2.2.2.2.2.2.2.1
theorem SR0.rt {x a : Nat} {s : Int} {h g : cx_Q} (F_ : SR0 x a s h g) : cq_J h a 6 = cq_J g (x + 31) s := F_.2.2.2.2.2.2.2.2.2.2.2.1
theorem SR0.hr {x a : Nat} {s : Int} {h g : cx_Q} (F_ : SR0 x a s h g) : cq_A h a 11 = none ↔ cq_I g (x + 35) s = 0 := F_.2.2.2.2.2.2.2.2.2.2.2.2.1
theorem SR0.rc {x a : Nat} {s : Int} {h g : cx_Q} (F_ : SR0 x a s h g) : cq_I g (x + 35) s ≠ 0 → cq_J h a 10 = cq_J g (x + 34) s := F_.2.2.2.2.2.2.2.2.2.2.2.2.2.1
theorem SR0.ot {x a : Nat} {s : Int} {h g : cx_Q} (F_ : SR0 x a s h g) : cq_J h a 13 = cq_J g (x + 38) s := F_.2.2.2.2.2.2.2.2.2.2.2.2.2.2.1
theorem SR0.ho {x a : Nat} {s : Int} {h g : cx_Q} (F_ : SR0 x a s h g) : cq_I h a 15 = cq_I g (x + 39) s := F_.2.2.2.2.2.2.2.2.2.2.2.2.2.2.2.1
theorem SR0.ns {x a : Nat} {s : Int} {h g : cx_Q} (F_ : SR0 x a s h g) : cq_I h a 16 = cq_I g (x + 40) s := F_.2.2.2.2.2.2.2.2.2.2.2.2.2.2.2.2.1
theorem SR0.nr {x a : Nat} {s : Int} {h g : cx_Q} (F_ : SR0 x a s h g) : cq_I h a 17 = cq_I g (x + 41) s := F_.2.2.2.2.2.2.2.2.2.2.2.2.2.2.2.2.2.1
theorem SR0.km {x a : Nat} {s : Int} {h g : cx_Q} (F_ : SR0 x a s h g) : cq_I h (a + 1) 4 = cq_I g (x + 53) s := F_.2.2.2.2.2.2.2.2.2.2.2.2.2.2.2.2.2.2.1
theorem SR0.k20 {x a : Nat} {s : Int} {h g : cx_Q} (F_ : SR0 x a s h g) : 0 ≤ cq_I g (x + 53) s ∧ cq_I g (x + 53) s ≤ 20 := F_.2.2.2.2.2.2.2.2.2.2.2.2.2.2.2.2.2.2.2.1
theorem SR0.kk {x a : Nat} {s : Int} {h g : cx_Q} (F_ : SR0 x a s h g) : ∀ k, 0 ≤ k → k < cq_I g (x + 53) s → cq_J h (a + 2) k = cq_J g (x + 54) (20 * s + k) ∧ cq_I h (a + 3) k = cq_I g (x + 55) (20 * s + k) ∧ cq_J h (a + 4) k = cq_J g (x + 56) (20 * s + k) := F_.2.2.2.2.2.2.2.2.2.2.2.2.2.2.2.2.2.2.2.2
theorem SR.z {x a : Nat} {s : Int} {h g : cx_Q} (F : SR x a s h g) : SR0 x a s h g := ⟨F.s0, F.s1, F.s2, F.s3, F.s4, F.a19, F.k0, F.k1, F.k2, F.bg, F.be, F.rt, F.hr, F.rc, F.ot, F.ho, F.ns, F.nr, F.km, F.k20, F.kk⟩
theorem SR0.fr {x a : Nat} {s : Int} {h g h' : cx_Q} (F : SR0 x a s h g) (es : ∀ d, cq_s h d ≠ 99 → cq_s h' d = cq_s h d) (eI : cq_I h' a = cq_I h a) (eJ : cq_J h' a = cq_J h a) (eA : ∀ j, j ≠ 7 → cq_A h' a j = cq_A h a j) (e1 : cq_I h' (a + 1) = cq_I h (a + 1)) (e1' : cq_A h' (a + 1) = cq_A h (a + 1)) (e2 : cq_J h' (a + 2) = cq_J h (a + 2)) (e3 : cq_I h' (a + 3) = cq_I h (a + 3)) (e4 : cq_J h' (a + 4) = cq_J h (a + 4)) : SR0 x a s h' g := by
  have ss : ∀ {d k : Nat}, cq_s h d = k → k ≠ 99 → cq_s h' d = k := fun {d k} w w2 => (es d (by rw [w]; exact w2)).trans w
  exact ⟨ss F.s0 (by decide), ss F.s1 (by decide), ss F.s2 (by decide), ss F.s3 (by decide), ss F.s4 (by decide), by rw [eA 19 (by decide)]; exact F.a19, by rw [e1']; exact F.k0, by rw [e1']; exact F.k1, by rw [e1']; exact F.k2, by rw [eI]; exact F.bg, by rw [eJ]; exact F.be, by rw [eJ]; exact F.rt, by rw [eA 11 (by decide)]; exact F.hr, by rw [eJ]; exact F.rc, by rw [eJ]; exact F.ot, by rw [eI]; exact F.ho, by rw [eI]; exact F.ns, by rw [eI]; exact F.nr, by rw [e1]; exact F.km, F.k20, by rw [e2, e3, e4]; exact F.kk⟩
/-- a letter -/
def FL (x a : Nat) (l : Int) (h g : cx_Q) : Prop := (cq_s h a = 2) ∧ (cq_s h (a + 1) = 100) ∧ (cq_A h a 0 = some (a + 1)) ∧ (cq_z h (a + 1) = cq_I g (x + 63) l) ∧ (0 ≤ cq_I g (x + 63) l ∧ cq_I g (x + 63) l ≤ 100) ∧ (∀ k, 0 ≤ k → k < cq_I g (x + 63) l → cq_I h (a + 1) k = cq_I g (x + 62) (100 * l + k))
theorem FL.s0 {x a : Nat} {l : Int} {h g : cx_Q} (F_ : FL x a l h g) : cq_s h a = 2 := F_.1
theorem FL.s1 {x a : Nat} {l : Int} {h g : cx_Q} (F_ : FL x a l h g) : cq_s h (a + 1) = 100 := F_.2.1
theorem FL.b0 {x a : Nat} {l : Int} {h g : cx_Q} (F_ : FL x a l h g) : cq_A h a 0 = some (a + 1) := F_.2.2.1
theorem FL.sz {x a : Nat} {l : Int} {h g : cx_Q} (F_ : FL x a l h g) : cq_z h (a + 1) = cq_I g (x + 63) l := F_.2.2.2.1
theorem FL.zr {x a : Nat} {l : Int} {h g : cx_Q} (F_ : FL x a l h g) : 0 ≤ cq_I g (x + 63) l ∧ cq_I g (x + 63) l ≤ 100 := F_.2.2.2.2.1
theorem FL.by_ {x a : Nat} {l : Int} {h g : cx_Q} (F_ : FL x a l h g) : ∀ k, 0 ≤ k → k < cq_I g (x + 63) l → cq_I h (a + 1) k = cq_I g (x + 62) (100 * l + k) := F_.2.2.2.2.2
theorem FL.fr {x a : Nat} {l : Int} {h g h' g' : cx_Q} (F : FL x a l h g) (es : ∀ d, cq_s h d ≠ 99 → cq_s h' d = cq_s h d ∧ cq_z h' d = cq_z h d) (eA : cq_A h' a = cq_A h a) (e1 : cq_I h' (a + 1) = cq_I h (a + 1)) (eg : cq_I g' (x + 63) l = cq_I g (x + 63) l) (eb : ∀ k, 0 ≤ k → k < 100 → cq_I g' (x + 62) (100 * l + k) = cq_I g (x + 62) (100 * l + k)) : FL x a l h' g' := by
  have zr := F.zr
  refine ⟨(es a (by rw [F.s0]; decide)).1.trans F.s0, (es (a + 1) (by rw [F.s1]; decide)).1.trans F.s1, by rw [eA]; exact F.b0, by rw [(es (a + 1) (by rw [F.s1]; decide)).2, eg]; exact F.sz, by rw [eg]; exact F.zr, fun k k1 k2 => ?_⟩
  rw [eg] at k2
  rw [e1, eb k k1 (by omega)]
  exact F.by_ k k1 k2
/-- the object itself, its tape and what was read; tp, rd the rows of both -/
def FS (x c tp rd : Nat) (h g : cx_Q) : Prop := (cq_s h c = 9) ∧ (cq_s h tp = 103) ∧ (cq_s h rd = 104) ∧ (cq_A h c 8 = some tp) ∧ (cq_A h c 10 = some rd) ∧ (cq_I h c 2 = cq_I g x 72) ∧ (cq_I h c 3 = cq_I g x 73) ∧ (cq_I h c 4 = cq_I g x 63) ∧ (cq_I h c 5 = cq_I g x 85) ∧ (cq_I h c 6 = cq_I g x 84) ∧ (cq_I h c 7 = cq_I g x 86) ∧ (cq_I h c 9 = cq_I g x 68) ∧ (cq_I h c 11 = cq_I g x 75) ∧ (∀ k, 0 ≤ k → k < cq_I g x 68 → cq_I h tp k = cq_I g (x + 61) k) ∧ (∀ k, 0 ≤ k → k < cq_I g x 75 → cq_I h rd k = cq_I g (x + 65) k) ∧ (∀ k, 0 ≤ k → k < cq_I g x 68 → 0 ≤ cq_I g (x + 61) k ∧ cq_I g (x + 61) k ≤ 255)
theorem FS.s0 {x c tp rd : Nat} {h g : cx_Q} (F_ : FS x c tp rd h g) : cq_s h c = 9 := F_.1
theorem FS.s1 {x c tp rd : Nat} {h g : cx_Q} (F_ : FS x c tp rd h g) : cq_s h tp = 103 := F_.2.1
theorem FS.s2 {x c tp rd : Nat} {h g : cx_Q} (F_ : FS x c tp rd h g) : cq_s h rd = 104 := F_.2.2.1
theorem FS.a8 {x c tp rd : Nat} {h g : cx_Q} (F_ : FS x c tp rd h g) : cq_A h c 8 = some tp := F_.2.2.2.1
theorem FS.a10 {x c tp rd : Nat} {h g : cx_Q} (F_ : FS x c tp rd h g) : cq_A h c 10 = some rd := F_.2.2.2.2.1
theorem FS.lc {x c tp rd : Nat} {h g : cx_Q} (F_ : FS x c tp rd h g) : cq_I h c 2 = cq_I g x 72 := F_.2.2.2.2.2.1
theorem FS.cc {x c tp rd : Nat} {h g : cx_Q} (F_ : FS x c tp rd h g) : cq_I h c 3 = cq_I g x 73 := F_.2.2.2.2.2.2.1
theorem FS.bc {x c tp rd : Nat} {h g : cx_Q} (F_ : FS x c tp rd h g) : cq_I h c 4 = cq_I g x 63 := F_.2.2.2.2.2.2.2.1
theorem FS.mc {x c tp rd : Nat} {h g : cx_Q} (F_ : FS x c tp rd h g) : cq_I h c 5 = cq_I g x 85 := F_.2.2.2.2.2.2.2.2.1
theorem FS.oc {x c tp rd : Nat} {h g : cx_Q} (F_ : FS x c tp rd h g) : cq_I h c 6 = cq_I g x 84 := F_.2.2.2.2.2.2.2.2.2.1
theorem FS.kc {x c tp rd : Nat} {h g : cx_Q} (F_ : FS x c tp rd h g) : cq_I h c 7 = cq_I g x 86 := F_.2.2.2.2.2.2.2.2.2.2.1
theorem FS.tc {x c tp rd : Nat} {h g : cx_Q} (F_ : FS x c tp rd h g) : cq_I h c 9 = cq_I g x 68 := F_.2.2.2.2.2.2.2.2.2.2.2.1
theorem FS.rc {x c tp rd : Nat} {h g : cx_Q} (F_ : FS x c tp rd h g) : cq_I h c 11 = cq_I g x 75 := F_.2.2.2.2.2.2.2.2.2.2.2.2.1
theorem FS.tp_ {x c tp rd : Nat} {h g : cx_Q} (F_ : FS x c tp rd h g) : ∀ k, 0 ≤ k → k < cq_I g x 68 → cq_I h tp k = cq_I g (x + 61) k := F_.2.2.2.2.2.2.2.2.2.2.2.2.2.1
theorem FS.rd_ {x c tp rd : Nat} {h g : cx_Q} (F_ : FS x c tp rd h g) : ∀ k, 0 ≤ k → k < cq_I g x 75 → cq_I h rd k = cq_I g (x + 65) k := F_.2.2.2.2.2.2.2.2.2.2.2.2.2.2.1
theorem FS.tb {x c tp rd : Nat} {h g : cx_Q} (F_ : FS x c tp rd h g) : ∀ k, 0 ≤ k → k < cq_I g x 68 → 0 ≤ cq_I g (x + 61) k ∧ cq_I g (x + 61) k ≤ 255 := F_.2.2.2.2.2.2.2.2.2.2.2.2.2.2.2
/-- a row of SESSIONS: r its cell, w its number, T where a slot's SESSION stands -/
def FO (x r : Nat) (w : Int) (T : Int → Nat) (h g : cx_Q) : Prop := (cq_s h r = 5) ∧ (cq_s h (r + 1) = 182) ∧ (cq_I h r 1 = cq_I g (x + 30) w) ∧ (0 ≤ cq_I g (x + 30) w ∧ cq_I g (x + 30) w ≤ 4) ∧ (∀ i, 0 ≤ i → i < cq_I g (x + 30) w → cq_A h (r + 1) i = some (T (cq_I g (x + 29) (4 * w + i)))) ∧ (∀ i, 0 ≤ i → i < cq_I g (x + 30) w → 4 * w ≤ cq_I g (x + 29) (4 * w + i) ∧ cq_I g (x + 29) (4 * w + i) < 4 * w + 4) ∧ (∀ i j, 0 ≤ i → i < j → j < cq_I g (x + 30) w → cq_I g (x + 29) (4 * w + i) ≠ cq_I g (x + 29) (4 * w + j)) ∧ (∀ i, 0 ≤ i → i < cq_I g (x + 30) w → SR x (T (cq_I g (x + 29) (4 * w + i))) (cq_I g (x + 29) (4 * w + i)) h g)
theorem FO.s0 {x r : Nat} {w : Int} {T : Int → Nat} {h g : cx_Q} (F_ : FO x r w T h g) : cq_s h r = 5 := F_.1
theorem FO.s1 {x r : Nat} {w : Int} {T : Int → Nat} {h g : cx_Q} (F_ : FO x r w T h g) : cq_s h (r + 1) = 182 := F_.2.1
theorem FO.rm {x r : Nat} {w : Int} {T : Int → Nat} {h g : cx_Q} (F_ : FO x r w T h g) : cq_I h r 1 = cq_I g (x + 30) w := F_.2.2.1
theorem FO.r4 {x r : Nat} {w : Int} {T : Int → Nat} {h g : cx_Q} (F_ : FO x r w T h g) : 0 ≤ cq_I g (x + 30) w ∧ cq_I g (x + 30) w ≤ 4 := F_.2.2.2.1
theorem FO.at_ {x r : Nat} {w : Int} {T : Int → Nat} {h g : cx_Q} (F_ : FO x r w T h g) : ∀ i, 0 ≤ i → i < cq_I g (x + 30) w → cq_A h (r + 1) i = some (T (cq_I g (x + 29) (4 * w + i))) := F_.2.2.2.2.1
theorem FO.sl {x r : Nat} {w : Int} {T : Int → Nat} {h g : cx_Q} (F_ : FO x r w T h g) : ∀ i, 0 ≤ i → i < cq_I g (x + 30) w → 4 * w ≤ cq_I g (x + 29) (4 * w + i) ∧ cq_I g (x + 29) (4 * w + i) < 4 * w + 4 := F_.2.2.2.2.2.1
theorem FO.di {x r : Nat} {w : Int} {T : Int → Nat} {h g : cx_Q} (F_ : FO x r w T h g) : ∀ i j, 0 ≤ i → i < j → j < cq_I g (x + 30) w → cq_I g (x + 29) (4 * w + i) ≠ cq_I g (x + 29) (4 * w + j) := F_.2.2.2.2.2.2.1
theorem FO.ss {x r : Nat} {w : Int} {T : Int → Nat} {h g : cx_Q} (F_ : FO x r w T h g) : ∀ i, 0 ≤ i → i < cq_I g (x + 30) w → SR x (T (cq_I g (x + 29) (4 * w + i))) (cq_I g (x + 29) (4 * w + i)) h g := F_.2.2.2.2.2.2.2
/-- a slot that is taken -/
def lvS (x : Nat) (g : cx_Q) (w s : Int) : Prop := ∃ i, 0 ≤ i ∧ i < cq_I g (x + 30) w ∧ cq_I g (x + 29) (4 * w + i) = s
