/-! class and reference side by side: copy, spoil -/
/-- a letter more in the reference: its bytes, its size -/
def CQ (x : Nat) (sz : Int) (b : Int → Int) (g g' : cx_Q) : Prop := (∀ j, j ≠ 72 → j ≠ 73 → j ≠ 76 → j ≠ 68 → j ≠ 2 → j ≠ 10 → j ≠ 33 → cq_I g' x j = cq_I g x j) ∧ (cq_I g' x 72 = cq_I g x 72 + 1) ∧ (∀ o j, 1 ≤ o → o ≤ 65 → o ∉ tL → ¬ (o = 63 ∧ j = cq_I g x 72) → ¬ (o = 62 ∧ 100 * cq_I g x 72 ≤ j ∧ j < 100 * cq_I g x 72 + 100) → cq_I g' (x + o) j = cq_I g (x + o) j) ∧ (∀ o j, 1 ≤ o → o ≤ 65 → o ∉ tL → cq_J g' (x + o) j = cq_J g (x + o) j) ∧ (cq_I g' (x + 63) (cq_I g x 72) = sz) ∧ (∀ k, 0 ≤ k → k < sz → cq_I g' (x + 62) (100 * cq_I g x 72 + k) = b k)
theorem CQ.x_ {x : Nat} {sz : Int} {b : Int → Int} {g g' : cx_Q} (F_ : CQ x sz b g g') : ∀ j, j ≠ 72 → j ≠ 73 → j ≠ 76 → j ≠ 68 → j ≠ 2 → j ≠ 10 → j ≠ 33 → cq_I g' x j = cq_I g x j := F_.1
theorem CQ.x72 {x : Nat} {sz : Int} {b : Int → Int} {g g' : cx_Q} (F_ : CQ x sz b g g') : cq_I g' x 72 = cq_I g x 72 + 1 := F_.2.1
theorem CQ.I_ {x : Nat} {sz : Int} {b : Int → Int} {g g' : cx_Q} (F_ : CQ x sz b g g') : ∀ o j, 1 ≤ o → o ≤ 65 → o ∉ tL → ¬ (o = 63 ∧ j = cq_I g x 72) → ¬ (o = 62 ∧ 100 * cq_I g x 72 ≤ j ∧ j < 100 * cq_I g x 72 + 100) → cq_I g' (x + o) j = cq_I g (x + o) j := F_.2.2.1
theorem CQ.J_ {x : Nat} {sz : Int} {b : Int → Int} {g g' : cx_Q} (F_ : CQ x sz b g g') : ∀ o j, 1 ≤ o → o ≤ 65 → o ∉ tL → cq_J g' (x + o) j = cq_J g (x + o) j := F_.2.2.2.1
theorem CQ.z {x : Nat} {sz : Int} {b : Int → Int} {g g' : cx_Q} (F_ : CQ x sz b g g') : cq_I g' (x + 63) (cq_I g x 72) = sz := F_.2.2.2.2.1
theorem CQ.b_ {x : Nat} {sz : Int} {b : Int → Int} {g g' : cx_Q} (F_ : CQ x sz b g g') : ∀ k, 0 ≤ k → k < sz → cq_I g' (x + 62) (100 * cq_I g x 72 + k) = b k := F_.2.2.2.2.2
section
variable {Y : cx_Y} {K : Option cx_V → cx_Q → Prop} {c x : Nat} {n L Z : Int} {E : Nat → Option Int} {h0 : cx_Q} {h h' g g' : cx_Q} {pe : Int → Nat} {ro : Int → Int → Nat} {pa lb tp rd en op ob : Nat} {T Lf : Int → Nat}
theorem m_cp_v {l t : Int} (hn : l ≠ t) : ∀ (r : Nat) {k : Int} {g : cx_Q}, 0 ≤ k → k + r ≤ 100 → ∀ j, cq_I (m_cp x l t r k g) (x + 62) j = if 100 * t + k ≤ j ∧ j < 100 * t + k + r then cq_I g (x + 62) (100 * l + (j - 100 * t)) else cq_I g (x + 62) j
  | 0, k, g, h1, h2, j => by rw [m_cp, if_neg (by omega)]
  | r + 1, k, g, h1, h2, j => by
    have e : ∀ j, cq_I (cq_sI g (x + 62) (100 * t + k) (cq_I g (x + 62) (100 * l + k))) (x + 62) j = if j = 100 * t + k then cq_I g (x + 62) (100 * l + k) else cq_I g (x + 62) j := fun j => by
      rw [mm_sI]
      by_cases w : j = 100 * t + k
      · rw [if_pos ⟨rfl, w⟩, if_pos w]
      · rw [if_neg (fun z => w z.2), if_neg w]
    rw [m_cp, m_cp_v hn r (by omega) (by omega) j]
    by_cases w : 100 * t + (k + 1) ≤ j ∧ j < 100 * t + (k + 1) + (r : Int)
    · rw [if_pos w, e, if_neg (by omega), if_pos (by omega)]
    · rw [if_neg w, e]
      by_cases w2 : j = 100 * t + k
      · rw [if_pos w2, if_pos (by omega)]
        have : 100 * l + (j - 100 * t) = 100 * l + k := by omega
        rw [this]
      · rw [if_neg w2, if_neg (by omega)]
theorem copy_q {l : Int} (hl : 0 ≤ l ∧ l < cq_I g x 72) (hz : 0 ≤ cq_I g (x + 63) l ∧ cq_I g (x + 63) l ≤ 100) : CQ x (cq_I g (x + 63) l) (fun k => cq_I g (x + 62) (100 * l + k)) g (m_copy g x l) ∧ cq_I (m_copy g x l) x 73 = cq_I g x 73 + 1 ∧ cq_I (m_copy g x l) x 68 = cq_I g x 68 := by
  have q := m_cp_q (x := x) (l := l) (t := cq_I g x 72) (n := (cq_I g (x + 63) l).toNat) (k := 0) (h := g)
  have v := m_cp_v (x := x) (l := l) (t := cq_I g x 72) (by omega) (cq_I g (x + 63) l).toNat (k := 0) (g := g) (by omega) (by omega)
  have o : ∀ i j, i ≠ x + 62 → cq_I (m_cp x l (cq_I g x 72) (cq_I g (x + 63) l).toNat 0 g) i j = cq_I g i j := fun i j w => m_cp_I w
  unfold m_copy
  generalize m_cp x l (cq_I g x 72) (cq_I g (x + 63) l).toNat 0 g = m at q v o
  have ox : ∀ j, cq_I m x j = cq_I g x j := fun j => o x j (by omega)
  refine ⟨⟨fun j w1 w2 _ _ _ _ _ => ?_, ?_, fun o' j h1 h2 h3 w1 w2 => ?_, fun o' j h1 h2 h3 => ?_, ?_, fun k k0 k1 => ?_⟩, ?_, ?_⟩
  · rw [mm_sI, if_neg (fun z => w2 z.2), mm_sI, if_neg (fun z => w1 z.2), mm_sI, if_neg (fun z => by omega), ox]
  · rw [mm_sI, if_neg (fun z => absurd z.2 (by decide)), mm_sI, if_pos ⟨rfl, rfl⟩]
  · rw [mm_sI, if_neg (fun z => by omega), mm_sI, if_neg (fun z => by omega), mm_sI, if_neg (fun z => w1 ⟨by omega, z.2⟩)]
    by_cases e : o' = 62
    · rw [e, v, if_neg (fun z => w2 ⟨e, by omega, by omega⟩)]
    · exact o (x + o') j (by omega)
  · rw [mm_JI, mm_JI, mm_JI, q.2.2.2.1]
  · rw [mm_sI, if_neg (fun z => by omega), mm_sI, if_neg (fun z => by omega), mm_sI, if_pos ⟨rfl, rfl⟩]
  · rw [mm_sI, if_neg (fun z => by omega), mm_sI, if_neg (fun z => by omega), mm_sI, if_neg (fun z => by omega), v, if_pos (by omega)]
    have : 100 * l + (100 * cq_I g x 72 + k - 100 * cq_I g x 72) = 100 * l + k := by omega
    rw [this]
  · rw [mm_sI, if_pos ⟨rfl, rfl⟩]
  · rw [mm_sI, if_neg (fun z => absurd z.2 (by decide)), mm_sI, if_neg (fun z => absurd z.2 (by decide)), mm_sI, if_neg (fun z => by omega), ox]
/-- a letter more at both sides: t the new one's cell; fs what is told of the objects themselves -/
theorem fx_more (F : FX c x n pe ro pa lb tp rd en op ob T Lf h g) {P : Nat → Prop} {t : Nat} {sz : Int} {b : Int → Int} (Q : CQ x sz b g g') (hz : 0 ≤ sz ∧ sz ≤ 100) (hr : cq_I g x 72 < 80) (e : evx P h h') (hP : ∀ a, P a → a = c ∨ a = lb) (ft : cq_s h t = 99) (st : cq_s h' t = 2) (st1 : cq_s h' (t + 1) = 100) (at0 : cq_A h' t 0 = some (t + 1)) (zt : cq_z h' (t + 1) = sz) (bt : ∀ k, 0 ≤ k → k < sz → cq_I h' (t + 1) k = b k) (eA : cq_A h' c = cq_A h c) (eL : ∀ j, cq_A h' lb j = if j = cq_I g x 72 then some t else cq_A h lb j) (fs : FS x c tp rd h' g') : FX c x n pe ro pa lb tp rd en op ob T (fun l => if l = cq_I g x 72 then t else Lf l) h' g' := by
  have l80 := F.l80
  have x72 := Q.x72
  refine F.upL e (fun o j h1 h2 h3 w => ⟨Q.I_ o j h1 h2 h3 (by omega) (by omega), Q.J_ o j h1 h2 h3⟩) (fun a w => ?_) eA (Q.x_ 0 (by decide) (by decide) (by decide) (by decide) (by decide) (by decide) (by decide)) fs (by omega) (fun l l0 l1 => ?_) (fun l m l0 l1 l2 => ?_)
  · rcases hP a w with rfl | rfl
    · exact Or.inl F.fs.s0
    · exact Or.inr (Or.inl F.s1)
  · by_cases w : l = cq_I g x 72
    · rw [eL, if_pos w, w]
      rw [if_pos rfl]
      exact ⟨rfl, st, st1, at0, by rw [zt, Q.z], by rw [Q.z]; exact hz, fun k k0 k1 => by rw [Q.z] at k1; rw [bt k k0 k1, Q.b_ k k0 k1]⟩
    · rw [eL, if_neg w]
      rw [if_neg w]
      obtain ⟨f1, f2⟩ := F.fl l l0 (by omega)
      have np : ∀ {a k : Nat}, cq_s h a = k → k ≠ 9 → k ≠ 102 → ¬ P a := fun q w1 w2 z => by
        rcases hP _ z with y | y
        · rw [y, F.fs.s0] at q; exact w1 q.symm
        · rw [y, F.s1] at q; exact w2 q.symm
      exact ⟨f1, f2.ex e (np f2.s0 (by decide) (by decide)) (np f2.s1 (by decide) (by decide)) (Q.I_ 63 l (by decide) (by decide) (by decide) (fun z => w z.2) (by omega)) (fun k k0 k1 => Q.I_ 62 _ (by decide) (by decide) (by decide) (by omega) (by omega))⟩
  · have nt : ∀ i, 0 ≤ i → i < cq_I g x 72 → Lf i ≠ t := fun i i0 i1 q => by
      have := (F.fl i i0 i1).2.s0
      rw [q, ft] at this
      exact absurd this (by decide)
    rw [if_neg (show ¬ l = cq_I g x 72 by omega)]
    by_cases w : m = cq_I g x 72
    · rw [if_pos w]
      exact nt l l0 (by omega)
    · rw [if_neg w]
      exact F.li l m l0 l1 (by omega)
theorem f_X10_copy (hY : cY Y) {l : Int} (H : CI c n L Z E h0 [] h) (hZ : Z ≤ 1000000) (F : FX c x n pe ro pa lb tp rd en op ob T Lf h g) (hB : ¬ (0 ≤ l ∧ l < cq_I g x 72) → K (some (.inl (-1))) h) (hF : 0 ≤ l ∧ l < cq_I g x 72 → cq_I g x 72 = 80 → K (some (.inl (-3))) h) (hK : 0 ≤ l ∧ l < cq_I g x 72 → cq_I g x 72 ≠ 80 → ∀ h' Lf', CI c n L (Z + 1) E h0 [] h' → FX c x n pe ro pa lb tp rd en op ob T Lf' h' (m_copy g x l) → K (some (.inl (cq_I g x 72))) h') : cw Y mi_X10_copy K 0 [some (.inr (.inr (some c))), some (.inl l)] [] h 2 104 := by
  have hc := H.cs
  have i2 := H.i9_2 hc
  have i3 := H.i9_3 hc
  have fs := F.fs
  have lc := fs.lc
  have l80 := F.l80
  refine bx_X10_copy_0 hY (pf2_ok hY) ?_
  simp only [wp_iconst, wp_bipush, wp_sipush, wp_ldc, wp_ldc2_w, wp_lconst0, wp_lconst1, wp_aconst_null, wp_iload_0, wp_istore_0, wp_iload_1, wp_istore_1, wp_iload_2, wp_istore_2, wp_iload_3, wp_istore_3, wp_iload, wp_istore, wp_lload_0, wp_lstore_0, wp_lload_1, wp_lstore_1, wp_lload_2, wp_lstore_2, wp_lload_3, wp_lstore_3, wp_lload, wp_lstore, wp_aload_0, wp_astore_0, wp_aload_1, wp_astore_1, wp_aload_2, wp_astore_2, wp_aload_3, wp_astore_3, wp_aload, wp_astore, wp_iinc, wp_iadd, wp_isub, wp_imul, wp_iand, wp_ior, wp_ixor, wp_ishl, wp_ishr, wp_iushr, wp_irem, wp_ladd, wp_lsub, wp_lmul, wp_land, wp_lor, wp_lxor, wp_lshl, wp_lshr, wp_lushr, wp_lrem, wp_lcmp, wp_i2l, wp_l2i, wp_dupI, wp_dupA, wp_dup2J, wp_dup2IA, wp_popI, wp_popA, wp_pop2, wp_goto, wp_if_eq, wp_icmp_eq, wp_if_ne, wp_icmp_ne, wp_if_lt, wp_icmp_lt, wp_if_ge, wp_icmp_ge, wp_if_gt, wp_icmp_gt, wp_if_le, wp_icmp_le, wp_ifnull, wp_ifnonnull, wp_acmp_eq, wp_acmp_ne, wp_tableswitch, wp_get0, wp_put0, wp_get1, wp_put1, wp_get2, wp_put2, wp_get3, wp_put3, wp_new, wp_newarray, wp_anewarray, wp_alen, wp_iaload, wp_laload, wp_baload, wp_aaload, wp_iastore, wp_lastore, wp_bastore, wp_aastore, wp_return, wp_ireturnI, wp_ireturnZ, wp_lreturn, wp_areturnO, wp_areturnA, wp_max, wp_min, wp_obj, wp_virt, wp_nil, ld_I0, ld_Is, ld_J0, ld_Js, ld_A0, ld_As, ha_0, ha_s, cx_put1, cx_put2, cx_dl, cx_tgt, true_and, and_true, Nat.reduceAdd, Nat.reduceSub, Int.reduceAdd, Int.reduceNeg, Int.reduceToNat, Int.reduceSub, Int.cast_ofNat_Int, List.take_succ_cons, List.take_zero, List.drop_succ_cons, List.drop_zero, List.take_nil, List.drop_nil, Option.toList_some, Option.toList_none, List.cons_append, List.nil_append, wp_spec, ne_eq, Nat.reduceEqDiff, not_false_eq_true, true_or, or_true]
  refine cl_X10_isLetter (Nat.le_of_ble_eq_true rfl) hc (by omega) (by omega) (c_X10_isLetter hY H (fun q => ?_) (fun hi => ?_))
  · refine bx_X10_copy_5 hY (pf2_ok hY) ?_
    simp only [wp_iconst, wp_bipush, wp_sipush, wp_ldc, wp_ldc2_w, wp_lconst0, wp_lconst1, wp_aconst_null, wp_iload_0, wp_istore_0, wp_iload_1, wp_istore_1, wp_iload_2, wp_istore_2, wp_iload_3, wp_istore_3, wp_iload, wp_istore, wp_lload_0, wp_lstore_0, wp_lload_1, wp_lstore_1, wp_lload_2, wp_lstore_2, wp_lload_3, wp_lstore_3, wp_lload, wp_lstore, wp_aload_0, wp_astore_0, wp_aload_1, wp_astore_1, wp_aload_2, wp_astore_2, wp_aload_3, wp_astore_3, wp_aload, wp_astore, wp_iinc, wp_iadd, wp_isub, wp_imul, wp_iand, wp_ior, wp_ixor, wp_ishl, wp_ishr, wp_iushr, wp_irem, wp_ladd, wp_lsub, wp_lmul, wp_land, wp_lor, wp_lxor, wp_lshl, wp_lshr, wp_lushr, wp_lrem, wp_lcmp, wp_i2l, wp_l2i, wp_dupI, wp_dupA, wp_dup2J, wp_dup2IA, wp_popI, wp_popA, wp_pop2, wp_goto, wp_if_eq, wp_icmp_eq, wp_if_ne, wp_icmp_ne, wp_if_lt, wp_icmp_lt, wp_if_ge, wp_icmp_ge, wp_if_gt, wp_icmp_gt, wp_if_le, wp_icmp_le, wp_ifnull, wp_ifnonnull, wp_acmp_eq, wp_acmp_ne, wp_tableswitch, wp_get0, wp_put0, wp_get1, wp_put1, wp_get2, wp_put2, wp_get3, wp_put3, wp_new, wp_newarray, wp_anewarray, wp_alen, wp_iaload, wp_laload, wp_baload, wp_aaload, wp_iastore, wp_lastore, wp_bastore, wp_aastore, wp_return, wp_ireturnI, wp_ireturnZ, wp_lreturn, wp_areturnO, wp_areturnA, wp_max, wp_min, wp_obj, wp_virt, wp_nil, ld_I0, ld_Is, ld_J0, ld_Js, ld_A0, ld_As, ha_0, ha_s, cx_put1, cx_put2, cx_dl, cx_tgt, true_and, and_true, Nat.reduceAdd, Nat.reduceSub, Int.reduceAdd, Int.reduceNeg, Int.reduceToNat, Int.reduceSub, Int.cast_ofNat_Int, List.take_succ_cons, List.take_zero, List.drop_succ_cons, List.drop_zero, List.take_nil, List.drop_nil, Option.toList_some, Option.toList_none, List.cons_append, List.nil_append, wp_spec, ne_eq, Nat.reduceEqDiff, not_false_eq_true, true_or, or_true, Nat.left_eq_add, Nat.add_eq_left, Nat.add_left_cancel_iff, Nat.reduceEqDiff, Int.reduceEq, false_and, and_false, if_false, if_true, and_self, true_and, true_or, or_true, false_or, or_false]
    exact ⟨fun w => absurd trivial w, fun _ => hB (by omega)⟩
  · refine bx_X10_copy_5 hY (pf2_ok hY) ?_
    simp only [wp_iconst, wp_bipush, wp_sipush, wp_ldc, wp_ldc2_w, wp_lconst0, wp_lconst1, wp_aconst_null, wp_iload_0, wp_istore_0, wp_iload_1, wp_istore_1, wp_iload_2, wp_istore_2, wp_iload_3, wp_istore_3, wp_iload, wp_istore, wp_lload_0, wp_lstore_0, wp_lload_1, wp_lstore_1, wp_lload_2, wp_lstore_2, wp_lload_3, wp_lstore_3, wp_lload, wp_lstore, wp_aload_0, wp_astore_0, wp_aload_1, wp_astore_1, wp_aload_2, wp_astore_2, wp_aload_3, wp_astore_3, wp_aload, wp_astore, wp_iinc, wp_iadd, wp_isub, wp_imul, wp_iand, wp_ior, wp_ixor, wp_ishl, wp_ishr, wp_iushr, wp_irem, wp_ladd, wp_lsub, wp_lmul, wp_land, wp_lor, wp_lxor, wp_lshl, wp_lshr, wp_lushr, wp_lrem, wp_lcmp, wp_i2l, wp_l2i, wp_dupI, wp_dupA, wp_dup2J, wp_dup2IA, wp_popI, wp_popA, wp_pop2, wp_goto, wp_if_eq, wp_icmp_eq, wp_if_ne, wp_icmp_ne, wp_if_lt, wp_icmp_lt, wp_if_ge, wp_icmp_ge, wp_if_gt, wp_icmp_gt, wp_if_le, wp_icmp_le, wp_ifnull, wp_ifnonnull, wp_acmp_eq, wp_acmp_ne, wp_tableswitch, wp_get0, wp_put0, wp_get1, wp_put1, wp_get2, wp_put2, wp_get3, wp_put3, wp_new, wp_newarray, wp_anewarray, wp_alen, wp_iaload, wp_laload, wp_baload, wp_aaload, wp_iastore, wp_lastore, wp_bastore, wp_aastore, wp_return, wp_ireturnI, wp_ireturnZ, wp_lreturn, wp_areturnO, wp_areturnA, wp_max, wp_min, wp_obj, wp_virt, wp_nil, ld_I0, ld_Is, ld_J0, ld_Js, ld_A0, ld_As, ha_0, ha_s, cx_put1, cx_put2, cx_dl, cx_tgt, true_and, and_true, Nat.reduceAdd, Nat.reduceSub, Int.reduceAdd, Int.reduceNeg, Int.reduceToNat, Int.reduceSub, Int.cast_ofNat_Int, List.take_succ_cons, List.take_zero, List.drop_succ_cons, List.drop_zero, List.take_nil, List.drop_nil, Option.toList_some, Option.toList_none, List.cons_append, List.nil_append, wp_spec, ne_eq, Nat.reduceEqDiff, not_false_eq_true, true_or, or_true, Nat.left_eq_add, Nat.add_eq_left, Nat.add_left_cancel_iff, Nat.reduceEqDiff, Int.reduceEq, false_and, and_false, if_false, if_true, and_self, true_and, true_or, or_true, false_or, or_false]
    refine ⟨fun _ => ?_, fun w => absurd (by decide) w⟩
    refine bx_X10_copy_10 hY (pf2_ok hY) ?_
    simp only [wp_iconst, wp_bipush, wp_sipush, wp_ldc, wp_ldc2_w, wp_lconst0, wp_lconst1, wp_aconst_null, wp_iload_0, wp_istore_0, wp_iload_1, wp_istore_1, wp_iload_2, wp_istore_2, wp_iload_3, wp_istore_3, wp_iload, wp_istore, wp_lload_0, wp_lstore_0, wp_lload_1, wp_lstore_1, wp_lload_2, wp_lstore_2, wp_lload_3, wp_lstore_3, wp_lload, wp_lstore, wp_aload_0, wp_astore_0, wp_aload_1, wp_astore_1, wp_aload_2, wp_astore_2, wp_aload_3, wp_astore_3, wp_aload, wp_astore, wp_iinc, wp_iadd, wp_isub, wp_imul, wp_iand, wp_ior, wp_ixor, wp_ishl, wp_ishr, wp_iushr, wp_irem, wp_ladd, wp_lsub, wp_lmul, wp_land, wp_lor, wp_lxor, wp_lshl, wp_lshr, wp_lushr, wp_lrem, wp_lcmp, wp_i2l, wp_l2i, wp_dupI, wp_dupA, wp_dup2J, wp_dup2IA, wp_popI, wp_popA, wp_pop2, wp_goto, wp_if_eq, wp_icmp_eq, wp_if_ne, wp_icmp_ne, wp_if_lt, wp_icmp_lt, wp_if_ge, wp_icmp_ge, wp_if_gt, wp_icmp_gt, wp_if_le, wp_icmp_le, wp_ifnull, wp_ifnonnull, wp_acmp_eq, wp_acmp_ne, wp_tableswitch, wp_get0, wp_put0, wp_get1, wp_put1, wp_get2, wp_put2, wp_get3, wp_put3, wp_new, wp_newarray, wp_anewarray, wp_alen, wp_iaload, wp_laload, wp_baload, wp_aaload, wp_iastore, wp_lastore, wp_bastore, wp_aastore, wp_return, wp_ireturnI, wp_ireturnZ, wp_lreturn, wp_areturnO, wp_areturnA, wp_max, wp_min, wp_obj, wp_virt, wp_nil, ld_I0, ld_Is, ld_J0, ld_Js, ld_A0, ld_As, ha_0, ha_s, cx_put1, cx_put2, cx_dl, cx_tgt, true_and, and_true, Nat.reduceAdd, Nat.reduceSub, Int.reduceAdd, Int.reduceNeg, Int.reduceToNat, Int.reduceSub, Int.cast_ofNat_Int, List.take_succ_cons, List.take_zero, List.drop_succ_cons, List.drop_zero, List.take_nil, List.drop_nil, Option.toList_some, Option.toList_none, List.cons_append, List.nil_append, wp_spec, ne_eq, Nat.reduceEqDiff, not_false_eq_true, true_or, or_true, hc]
    refine ⟨fun q => ?_, fun q => hF (by omega) (by omega)⟩
    have el := F.a1
    have sl := F.s1
    have zl : cq_z h lb = 80 := H.tz sl
    obtain ⟨e, fl⟩ := F.fl l hi.1 (by omega)
    have s := fl.s0
    have zr := fl.zr
    have sz := fl.sz
    refine bx_X10_copy_22 hY (pf2_ok hY) ?_
    simp only [wp_iconst, wp_bipush, wp_sipush, wp_ldc, wp_ldc2_w, wp_lconst0, wp_lconst1, wp_aconst_null, wp_iload_0, wp_istore_0, wp_iload_1, wp_istore_1, wp_iload_2, wp_istore_2, wp_iload_3, wp_istore_3, wp_iload, wp_istore, wp_lload_0, wp_lstore_0, wp_lload_1, wp_lstore_1, wp_lload_2, wp_lstore_2, wp_lload_3, wp_lstore_3, wp_lload, wp_lstore, wp_aload_0, wp_astore_0, wp_aload_1, wp_astore_1, wp_aload_2, wp_astore_2, wp_aload_3, wp_astore_3, wp_aload, wp_astore, wp_iinc, wp_iadd, wp_isub, wp_imul, wp_iand, wp_ior, wp_ixor, wp_ishl, wp_ishr, wp_iushr, wp_irem, wp_ladd, wp_lsub, wp_lmul, wp_land, wp_lor, wp_lxor, wp_lshl, wp_lshr, wp_lushr, wp_lrem, wp_lcmp, wp_i2l, wp_l2i, wp_dupI, wp_dupA, wp_dup2J, wp_dup2IA, wp_popI, wp_popA, wp_pop2, wp_goto, wp_if_eq, wp_icmp_eq, wp_if_ne, wp_icmp_ne, wp_if_lt, wp_icmp_lt, wp_if_ge, wp_icmp_ge, wp_if_gt, wp_icmp_gt, wp_if_le, wp_icmp_le, wp_ifnull, wp_ifnonnull, wp_acmp_eq, wp_acmp_ne, wp_tableswitch, wp_get0, wp_put0, wp_get1, wp_put1, wp_get2, wp_put2, wp_get3, wp_put3, wp_new, wp_newarray, wp_anewarray, wp_alen, wp_iaload, wp_laload, wp_baload, wp_aaload, wp_iastore, wp_lastore, wp_bastore, wp_aastore, wp_return, wp_ireturnI, wp_ireturnZ, wp_lreturn, wp_areturnO, wp_areturnA, wp_max, wp_min, wp_obj, wp_virt, wp_nil, ld_I0, ld_Is, ld_J0, ld_Js, ld_A0, ld_As, ha_0, ha_s, cx_put1, cx_put2, cx_dl, cx_tgt, true_and, and_true, Nat.reduceAdd, Nat.reduceSub, Int.reduceAdd, Int.reduceNeg, Int.reduceToNat, Int.reduceSub, Int.cast_ofNat_Int, List.take_succ_cons, List.take_zero, List.drop_succ_cons, List.drop_zero, List.take_nil, List.drop_nil, Option.toList_some, Option.toList_none, List.cons_append, List.nil_append, wp_spec, ne_eq, Nat.reduceEqDiff, not_false_eq_true, true_or, or_true, hc, el, sl, zl, e, ra_102]
    refine ⟨by omega, ?_⟩
    refine cl_X2_twin (Nat.le_of_ble_eq_true rfl) s (by omega) (by omega) (e_X2_twin hY H s fl.b0 (fun m G kg st a0 s1 z1 b1 => ?_))
    have gc := G.cs
    have gA : cq_A m c = cq_A h c := kg.A hc rfl
    have gl : cq_A m c 1 = some lb := by rw [gA]; exact el
    have gsl : cq_s m lb = 102 := kg.s sl (by decide)
    have gzl : cq_z m lb = 80 := G.tz gsl
    have gi : cq_I m c = cq_I h c := kg.I hc rfl
    have nc : ¬ c = lb := ns gc gsl (by decide)
    have G1 := G.more gl gsl st (by rw [gi]; omega)
    rw [gi] at G1
    refine bx_X10_copy_39 hY (pf2_ok hY) ?_
    simp only [wp_iconst, wp_bipush, wp_sipush, wp_ldc, wp_ldc2_w, wp_lconst0, wp_lconst1, wp_aconst_null, wp_iload_0, wp_istore_0, wp_iload_1, wp_istore_1, wp_iload_2, wp_istore_2, wp_iload_3, wp_istore_3, wp_iload, wp_istore, wp_lload_0, wp_lstore_0, wp_lload_1, wp_lstore_1, wp_lload_2, wp_lstore_2, wp_lload_3, wp_lstore_3, wp_lload, wp_lstore, wp_aload_0, wp_astore_0, wp_aload_1, wp_astore_1, wp_aload_2, wp_astore_2, wp_aload_3, wp_astore_3, wp_aload, wp_astore, wp_iinc, wp_iadd, wp_isub, wp_imul, wp_iand, wp_ior, wp_ixor, wp_ishl, wp_ishr, wp_iushr, wp_irem, wp_ladd, wp_lsub, wp_lmul, wp_land, wp_lor, wp_lxor, wp_lshl, wp_lshr, wp_lushr, wp_lrem, wp_lcmp, wp_i2l, wp_l2i, wp_dupI, wp_dupA, wp_dup2J, wp_dup2IA, wp_popI, wp_popA, wp_pop2, wp_goto, wp_if_eq, wp_icmp_eq, wp_if_ne, wp_icmp_ne, wp_if_lt, wp_icmp_lt, wp_if_ge, wp_icmp_ge, wp_if_gt, wp_icmp_gt, wp_if_le, wp_icmp_le, wp_ifnull, wp_ifnonnull, wp_acmp_eq, wp_acmp_ne, wp_tableswitch, wp_get0, wp_put0, wp_get1, wp_put1, wp_get2, wp_put2, wp_get3, wp_put3, wp_new, wp_newarray, wp_anewarray, wp_alen, wp_iaload, wp_laload, wp_baload, wp_aaload, wp_iastore, wp_lastore, wp_bastore, wp_aastore, wp_return, wp_ireturnI, wp_ireturnZ, wp_lreturn, wp_areturnO, wp_areturnA, wp_max, wp_min, wp_obj, wp_virt, wp_nil, ld_I0, ld_Is, ld_J0, ld_Js, ld_A0, ld_As, ha_0, ha_s, cx_put1, cx_put2, cx_dl, cx_tgt, true_and, and_true, Nat.reduceAdd, Nat.reduceSub, Int.reduceAdd, Int.reduceNeg, Int.reduceToNat, Int.reduceSub, Int.cast_ofNat_Int, List.take_succ_cons, List.take_zero, List.drop_succ_cons, List.drop_zero, List.take_nil, List.drop_nil, Option.toList_some, Option.toList_none, List.cons_append, List.nil_append, wp_spec, ne_eq, Nat.reduceEqDiff, not_false_eq_true, true_or, or_true, gc, gsl, gzl, gi, ra_102, mm_sI, mm_sJ, mm_sA, mm_IJ, mm_IA, mm_JI, mm_JA, mm_AI, mm_AJ, mm_ssI, mm_ssJ, mm_ssA, mm_zI, mm_zJ, mm_zA, mm_nI, mm_nJ, mm_nA, Nat.left_eq_add, Nat.add_eq_left, Nat.add_left_cancel_iff, Nat.reduceEqDiff, Int.reduceEq, false_and, and_false, if_false, if_true, and_self, true_and, true_or, or_true, false_or, or_false, cx_rg]
    (repeat' (with_reducible (first | refine And.intro ?_ ?_ | intro _)))
    all_goals (try omega)
    · exact st
    · have G2 := (G1.up (Z' := Z + 1) (by omega)).sI (a := c) (j := 3) (v := cq_I h c 3 + 1) gc (own_9 (by decide)) ⟨by omega, by omega⟩ rfl
      obtain ⟨Q, Q73, Q68⟩ := copy_q (g := g) (x := x) (l := l) (by omega) zr
      have rr : cq_I h c 2 + 1 - 1 = cq_I g x 72 := by omega
      have ans : cq_I h c 2 + 1 - 1 = cq_I g x 72 := rr
      first | rw [ans] | skip
      have fin : ∀ h', CI c n L (Z + 1) E h0 [] h' → h' = cq_sI (cq_sI (cq_sA m lb (cq_I h c 2) (some h.1)) c 2 (cq_I h c 2 + 1)) c 3 (cq_I h c 3 + 1) → K (some (.inl (cq_I g x 72))) h' := by
        intro h' C e'
        have nlc : ¬ lb = c := fun z => nc z.symm
        have ft : cq_s h h.1 = 99 := H.al h.1 (Nat.le_refl _)
        have nt : ¬ h.1 = lb := fun z => by rw [z, sl] at ft; exact absurd ft (by decide)
        have ntc : ¬ h.1 = c := fun z => by rw [z, hc] at ft; exact absurd ft (by decide)
        have ft1 : cq_s h (h.1 + 1) = 99 := H.al _ (by omega)
        have nt1 : ¬ h.1 + 1 = c := fun z => by rw [z, hc] at ft1; exact absurd ft1 (by decide)
        have eI : ∀ j, cq_I h' c j = if j = 3 then cq_I h c 3 + 1 else if j = 2 then cq_I h c 2 + 1 else cq_I h c j := fun j => by
          rw [e']
          simp only [mm_sI, mm_sJ, mm_sA, mm_IJ, mm_IA, mm_JI, mm_JA, mm_AI, mm_AJ, mm_ssI, mm_ssJ, mm_ssA, mm_zI, mm_zJ, mm_zA, mm_nI, mm_nJ, mm_nA, Nat.left_eq_add, Nat.add_eq_left, Nat.add_left_cancel_iff, Nat.reduceEqDiff, Int.reduceEq, false_and, and_false, if_false, if_true, and_self, true_and, true_or, or_true, false_or, or_false]
          rw [gi]
        have eIo : ∀ j, j ≠ 3 → j ≠ 2 → cq_I h' c j = cq_I h c j := fun j w1 w2 => by rw [eI, if_neg w1, if_neg w2]
        have eA' : cq_A h' c = cq_A h c := by
          rw [← gA, e']
          funext j
          simp only [mm_sI, mm_sJ, mm_sA, mm_IJ, mm_IA, mm_JI, mm_JA, mm_AI, mm_AJ, mm_ssI, mm_ssJ, mm_ssA, mm_zI, mm_zJ, mm_zA, mm_nI, mm_nJ, mm_nA, nc, Nat.left_eq_add, Nat.add_eq_left, Nat.add_left_cancel_iff, Nat.reduceEqDiff, Int.reduceEq, false_and, and_false, if_false, if_true, and_self, true_and, true_or, or_true, false_or, or_false]
        have ex : evx (fun a => a = c ∨ a = lb) h h' := by
          rw [e']
          exact ((kg.x.sA (Or.inr rfl)).sI (Or.inl rfl)).sI (Or.inl rfl)
        have gx := Q.x_
        refine hK (by omega) (by omega) h' _ C (fx_more F Q zr (by omega) ex (fun a w => w) ft (by rw [e']; exact st) (by rw [e']; exact s1) ?_ (by rw [e']; exact z1.trans sz) (fun k k0 k1 => ?_) eA' (fun j => ?_) ?_)
        · rw [e']
          simp only [mm_sI, mm_sJ, mm_sA, mm_IJ, mm_IA, mm_JI, mm_JA, mm_AI, mm_AJ, mm_ssI, mm_ssJ, mm_ssA, mm_zI, mm_zJ, mm_zA, mm_nI, mm_nJ, mm_nA, nt, Nat.left_eq_add, Nat.add_eq_left, Nat.add_left_cancel_iff, Nat.reduceEqDiff, Int.reduceEq, false_and, and_false, if_false, if_true, and_self, true_and, true_or, or_true, false_or, or_false]
          exact a0
        · rw [e']
          simp only [mm_sI, mm_sJ, mm_sA, mm_IJ, mm_IA, mm_JI, mm_JA, mm_AI, mm_AJ, mm_ssI, mm_ssJ, mm_ssA, mm_zI, mm_zJ, mm_zA, mm_nI, mm_nJ, mm_nA, nt1, Nat.left_eq_add, Nat.add_eq_left, Nat.add_left_cancel_iff, Nat.reduceEqDiff, Int.reduceEq, false_and, and_false, if_false, if_true, and_self, true_and, true_or, or_true, false_or, or_false]
          rw [b1 k k0 (by omega)]
          exact fl.by_ k k0 k1
        · rw [e']
          simp only [mm_sI, mm_sJ, mm_sA, mm_IJ, mm_IA, mm_JI, mm_JA, mm_AI, mm_AJ, mm_ssI, mm_ssJ, mm_ssA, mm_zI, mm_zJ, mm_zA, mm_nI, mm_nJ, mm_nA, Nat.left_eq_add, Nat.add_eq_left, Nat.add_left_cancel_iff, Nat.reduceEqDiff, Int.reduceEq, false_and, and_false, if_false, if_true, and_self, true_and, true_or, or_true, false_or, or_false]
          rw [kg.A sl rfl, lc]
        · refine ⟨ex.s fs.s0 (by decide), ex.s fs.s1 (by decide), ex.s fs.s2 (by decide), by rw [eA']; exact fs.a8, by rw [eA']; exact fs.a10, by rw [eI, if_neg (by decide), if_pos rfl, Q.x72, fs.lc], by rw [eI, if_pos rfl, Q73, fs.cc], by rw [eIo 4 (by decide) (by decide), gx 63 (by decide) (by decide) (by decide) (by decide) (by decide) (by decide) (by decide)]; exact fs.bc, by rw [eIo 5 (by decide) (by decide), gx 85 (by decide) (by decide) (by decide) (by decide) (by decide) (by decide) (by decide)]; exact fs.mc, by rw [eIo 6 (by decide) (by decide), gx 84 (by decide) (by decide) (by decide) (by decide) (by decide) (by decide) (by decide)]; exact fs.oc, by rw [eIo 7 (by decide) (by decide), gx 86 (by decide) (by decide) (by decide) (by decide) (by decide) (by decide) (by decide)]; exact fs.kc, by rw [eIo 9 (by decide) (by decide), Q68]; exact fs.tc, by rw [eIo 11 (by decide) (by decide), gx 75 (by decide) (by decide) (by decide) (by decide) (by decide) (by decide) (by decide)]; exact fs.rc, fun k k0 k1 => ?_, fun k k0 k1 => ?_, fun k k0 k1 => by rw [Q68] at k1; rw [Q.I_ 61 k (by decide) (by decide) (by decide) (by omega) (by omega)]; exact fs.tb k k0 k1⟩
          · rw [Q68] at k1
            rw [ex.I fs.s1 rfl (fun z => z.elim (ns fs.s1 fs.s0 (by decide)) (ns fs.s1 F.s1 (by decide))), Q.I_ 61 k (by decide) (by decide) (by decide) (by omega) (by omega)]
            exact fs.tp_ k k0 k1
          · rw [gx 75 (by decide) (by decide) (by decide) (by decide) (by decide) (by decide) (by decide)] at k1
            rw [ex.I fs.s2 rfl (fun z => z.elim (ns fs.s2 fs.s0 (by decide)) (ns fs.s2 F.s1 (by decide))), Q.I_ 65 k (by decide) (by decide) (by decide) (by omega) (by omega)]
            exact fs.rd_ k k0 k1
      have := fin _ G2 rfl
      first | exact this | (rw [← ans] at this; exact this)
/-- a byte of a letter is other -/
theorem fx_spoil (F : FX c x n pe ro pa lb tp rd en op ob T Lf h g) {l p v : Int} (hl : 0 ≤ l ∧ l < cq_I g x 72) (hp : 0 ≤ p ∧ p < cq_I g (x + 63) l) : FX c x n pe ro pa lb tp rd en op ob T Lf (cq_sI h (Lf l + 1) p v) (cq_sI g (x + 62) (100 * l + p) v) := by
  obtain ⟨f1, f2⟩ := F.fl l hl.1 hl.2
  have zr := f2.zr
  have fs := F.fs
  have ex : evx (fun a => a = Lf l + 1) h (cq_sI h (Lf l + 1) p v) := evx.sI (P := fun a => a = Lf l + 1) evx.refl rfl
  have nc : ¬ c = Lf l + 1 := ns fs.s0 f2.s1 (by decide)
  have gx : ∀ j, cq_I (cq_sI g (x + 62) (100 * l + p) v) x j = cq_I g x j := fun j => by rw [mm_sI, if_neg (fun z => by omega)]
  have go : ∀ o j, ¬ (o = 62 ∧ j = 100 * l + p) → cq_I (cq_sI g (x + 62) (100 * l + p) v) (x + o) j = cq_I g (x + o) j := fun o j w => by rw [mm_sI, if_neg (fun z => w ⟨by omega, z.2⟩)]
  refine F.upL ex (fun o j h1 h2 h3 w => ⟨go o j (fun z => w (Or.inl z.1)), rfl⟩) (fun a w => Or.inr (Or.inr (Or.inr (by rw [w]; exact f2.s1)))) rfl (gx 0) (fs.ex ex nc (ns fs.s1 f2.s1 (by decide)) (ns fs.s2 f2.s1 (by decide)) (fun j _ => gx j) (fun j => go 61 j (by omega)) (fun j => go 65 j (by omega))) (by rw [gx]; exact F.l80) (fun m m0 m1 => ?_) (by rw [gx]; exact F.li)
  rw [gx] at m1
  obtain ⟨d1, d2⟩ := F.fl m m0 m1
  refine ⟨d1, ?_⟩
  by_cases w : m = l
  · rw [w]
    refine ⟨f2.s0, f2.s1, f2.b0, by rw [go 63 l (by omega)]; exact f2.sz, by rw [go 63 l (by omega)]; exact zr, fun k k0 k1 => ?_⟩
    rw [go 63 l (by omega)] at k1
    rw [mm_sI, mm_sI]
    by_cases w2 : k = p
    · rw [if_pos ⟨rfl, w2⟩, if_pos ⟨rfl, by omega⟩]
    · rw [if_neg (fun z => w2 z.2), if_neg (fun z => w2 (by omega))]
      exact f2.by_ k k0 k1
  · have ne : Lf m ≠ Lf l := by
      rcases Int.lt_or_lt_of_ne w with q | q
      · exact F.li m l m0 q hl.2
      · exact (F.li l m hl.1 q m1).symm
    exact d2.ex ex (ns d2.s0 f2.s1 (by decide)) (fun z => ne (by omega)) (go 63 m (by omega)) (fun k k0 k1 => go 62 _ (by omega))
theorem f_X10_spoil (hY : cY Y) {l p m : Int} (H : CI c n L Z E h0 [] h) (F : FX c x n pe ro pa lb tp rd en op ob T Lf h g) (hB : ¬ ((0 ≤ l ∧ l < cq_I g x 72) ∧ 0 ≤ p ∧ p < cq_I g (x + 63) l ∧ 1 ≤ m ∧ m ≤ 255) → K (some (.inl (-1))) h) (hK : (0 ≤ l ∧ l < cq_I g x 72) ∧ 0 ≤ p ∧ p < cq_I g (x + 63) l ∧ 1 ≤ m ∧ m ≤ 255 → ∀ h', CI c n L Z E h0 [] h' → FX c x n pe ro pa lb tp rd en op ob T Lf h' (cq_sI g (x + 62) (100 * l + p) (cx_xor (cq_I g (x + 62) (100 * l + p)) m)) → K (some (.inl (cx_xor (cq_I g (x + 62) (100 * l + p)) m))) h') : cw Y mi_X10_spoil K 0 [some (.inr (.inr (some c))), some (.inl l), some (.inl p), some (.inl m), none] [] h 0 0 := by
  have hc := H.cs
  have i2 := H.i9_2 hc
  have lc := F.fs.lc
  have j20 : ¬ ((0 ≤ l ∧ l < cq_I g x 72) ∧ 0 ≤ p ∧ p < cq_I g (x + 63) l ∧ 1 ≤ m ∧ m ≤ 255) → ∀ lv, cw Y mi_X10_spoil K 20 lv [] h 0 0 := by
    intro q lv
    refine bx_X10_spoil_20 hY (pf2_ok hY) ?_
    simp only [wp_iconst, wp_bipush, wp_sipush, wp_ldc, wp_ldc2_w, wp_lconst0, wp_lconst1, wp_aconst_null, wp_iload_0, wp_istore_0, wp_iload_1, wp_istore_1, wp_iload_2, wp_istore_2, wp_iload_3, wp_istore_3, wp_iload, wp_istore, wp_lload_0, wp_lstore_0, wp_lload_1, wp_lstore_1, wp_lload_2, wp_lstore_2, wp_lload_3, wp_lstore_3, wp_lload, wp_lstore, wp_aload_0, wp_astore_0, wp_aload_1, wp_astore_1, wp_aload_2, wp_astore_2, wp_aload_3, wp_astore_3, wp_aload, wp_astore, wp_iinc, wp_iadd, wp_isub, wp_imul, wp_iand, wp_ior, wp_ixor, wp_ishl, wp_ishr, wp_iushr, wp_irem, wp_ladd, wp_lsub, wp_lmul, wp_land, wp_lor, wp_lxor, wp_lshl, wp_lshr, wp_lushr, wp_lrem, wp_lcmp, wp_i2l, wp_l2i, wp_dupI, wp_dupA, wp_dup2J, wp_dup2IA, wp_popI, wp_popA, wp_pop2, wp_goto, wp_if_eq, wp_icmp_eq, wp_if_ne, wp_icmp_ne, wp_if_lt, wp_icmp_lt, wp_if_ge, wp_icmp_ge, wp_if_gt, wp_icmp_gt, wp_if_le, wp_icmp_le, wp_ifnull, wp_ifnonnull, wp_acmp_eq, wp_acmp_ne, wp_tableswitch, wp_get0, wp_put0, wp_get1, wp_put1, wp_get2, wp_put2, wp_get3, wp_put3, wp_new, wp_newarray, wp_anewarray, wp_alen, wp_iaload, wp_laload, wp_baload, wp_aaload, wp_iastore, wp_lastore, wp_bastore, wp_aastore, wp_return, wp_ireturnI, wp_ireturnZ, wp_lreturn, wp_areturnO, wp_areturnA, wp_max, wp_min, wp_obj, wp_virt, wp_nil, ld_I0, ld_Is, ld_J0, ld_Js, ld_A0, ld_As, ha_0, ha_s, cx_put1, cx_put2, cx_dl, cx_tgt, true_and, and_true, Nat.reduceAdd, Nat.reduceSub, Int.reduceAdd, Int.reduceNeg, Int.reduceToNat, Int.reduceSub, Int.cast_ofNat_Int, List.take_succ_cons, List.take_zero, List.drop_succ_cons, List.drop_zero, List.take_nil, List.drop_nil, Option.toList_some, Option.toList_none, List.cons_append, List.nil_append, wp_spec, ne_eq, Nat.reduceEqDiff, not_false_eq_true, true_or, or_true]
    exact hB q
  refine bx_X10_spoil_0 hY (pf2_ok hY) ?_
  simp only [wp_iconst, wp_bipush, wp_sipush, wp_ldc, wp_ldc2_w, wp_lconst0, wp_lconst1, wp_aconst_null, wp_iload_0, wp_istore_0, wp_iload_1, wp_istore_1, wp_iload_2, wp_istore_2, wp_iload_3, wp_istore_3, wp_iload, wp_istore, wp_lload_0, wp_lstore_0, wp_lload_1, wp_lstore_1, wp_lload_2, wp_lstore_2, wp_lload_3, wp_lstore_3, wp_lload, wp_lstore, wp_aload_0, wp_astore_0, wp_aload_1, wp_astore_1, wp_aload_2, wp_astore_2, wp_aload_3, wp_astore_3, wp_aload, wp_astore, wp_iinc, wp_iadd, wp_isub, wp_imul, wp_iand, wp_ior, wp_ixor, wp_ishl, wp_ishr, wp_iushr, wp_irem, wp_ladd, wp_lsub, wp_lmul, wp_land, wp_lor, wp_lxor, wp_lshl, wp_lshr, wp_lushr, wp_lrem, wp_lcmp, wp_i2l, wp_l2i, wp_dupI, wp_dupA, wp_dup2J, wp_dup2IA, wp_popI, wp_popA, wp_pop2, wp_goto, wp_if_eq, wp_icmp_eq, wp_if_ne, wp_icmp_ne, wp_if_lt, wp_icmp_lt, wp_if_ge, wp_icmp_ge, wp_if_gt, wp_icmp_gt, wp_if_le, wp_icmp_le, wp_ifnull, wp_ifnonnull, wp_acmp_eq, wp_acmp_ne, wp_tableswitch, wp_get0, wp_put0, wp_get1, wp_put1, wp_get2, wp_put2, wp_get3, wp_put3, wp_new, wp_newarray, wp_anewarray, wp_alen, wp_iaload, wp_laload, wp_baload, wp_aaload, wp_iastore, wp_lastore, wp_bastore, wp_aastore, wp_return, wp_ireturnI, wp_ireturnZ, wp_lreturn, wp_areturnO, wp_areturnA, wp_max, wp_min, wp_obj, wp_virt, wp_nil, ld_I0, ld_Is, ld_J0, ld_Js, ld_A0, ld_As, ha_0, ha_s, cx_put1, cx_put2, cx_dl, cx_tgt, true_and, and_true, Nat.reduceAdd, Nat.reduceSub, Int.reduceAdd, Int.reduceNeg, Int.reduceToNat, Int.reduceSub, Int.cast_ofNat_Int, List.take_succ_cons, List.take_zero, List.drop_succ_cons, List.drop_zero, List.take_nil, List.drop_nil, Option.toList_some, Option.toList_none, List.cons_append, List.nil_append, wp_spec, ne_eq, Nat.reduceEqDiff, not_false_eq_true, true_or, or_true]
  refine cl_X10_isLetter (Nat.le_of_ble_eq_true rfl) hc (Nat.le_refl _) (Nat.le_refl _) (c_X10_isLetter hY H (fun q => ?_) (fun hi => ?_))
  · refine bx_X10_spoil_5 hY (pf2_ok hY) ?_
    simp only [wp_iconst, wp_bipush, wp_sipush, wp_ldc, wp_ldc2_w, wp_lconst0, wp_lconst1, wp_aconst_null, wp_iload_0, wp_istore_0, wp_iload_1, wp_istore_1, wp_iload_2, wp_istore_2, wp_iload_3, wp_istore_3, wp_iload, wp_istore, wp_lload_0, wp_lstore_0, wp_lload_1, wp_lstore_1, wp_lload_2, wp_lstore_2, wp_lload_3, wp_lstore_3, wp_lload, wp_lstore, wp_aload_0, wp_astore_0, wp_aload_1, wp_astore_1, wp_aload_2, wp_astore_2, wp_aload_3, wp_astore_3, wp_aload, wp_astore, wp_iinc, wp_iadd, wp_isub, wp_imul, wp_iand, wp_ior, wp_ixor, wp_ishl, wp_ishr, wp_iushr, wp_irem, wp_ladd, wp_lsub, wp_lmul, wp_land, wp_lor, wp_lxor, wp_lshl, wp_lshr, wp_lushr, wp_lrem, wp_lcmp, wp_i2l, wp_l2i, wp_dupI, wp_dupA, wp_dup2J, wp_dup2IA, wp_popI, wp_popA, wp_pop2, wp_goto, wp_if_eq, wp_icmp_eq, wp_if_ne, wp_icmp_ne, wp_if_lt, wp_icmp_lt, wp_if_ge, wp_icmp_ge, wp_if_gt, wp_icmp_gt, wp_if_le, wp_icmp_le, wp_ifnull, wp_ifnonnull, wp_acmp_eq, wp_acmp_ne, wp_tableswitch, wp_get0, wp_put0, wp_get1, wp_put1, wp_get2, wp_put2, wp_get3, wp_put3, wp_new, wp_newarray, wp_anewarray, wp_alen, wp_iaload, wp_laload, wp_baload, wp_aaload, wp_iastore, wp_lastore, wp_bastore, wp_aastore, wp_return, wp_ireturnI, wp_ireturnZ, wp_lreturn, wp_areturnO, wp_areturnA, wp_max, wp_min, wp_obj, wp_virt, wp_nil, ld_I0, ld_Is, ld_J0, ld_Js, ld_A0, ld_As, ha_0, ha_s, cx_put1, cx_put2, cx_dl, cx_tgt, true_and, and_true, Nat.reduceAdd, Nat.reduceSub, Int.reduceAdd, Int.reduceNeg, Int.reduceToNat, Int.reduceSub, Int.cast_ofNat_Int, List.take_succ_cons, List.take_zero, List.drop_succ_cons, List.drop_zero, List.take_nil, List.drop_nil, Option.toList_some, Option.toList_none, List.cons_append, List.nil_append, wp_spec, ne_eq, Nat.reduceEqDiff, not_false_eq_true, true_or, or_true, Nat.left_eq_add, Nat.add_eq_left, Nat.add_left_cancel_iff, Nat.reduceEqDiff, Int.reduceEq, false_and, and_false, if_false, if_true, and_self, true_and, true_or, or_true, false_or, or_false]
    exact ⟨fun _ => j20 (by omega) _, fun w => absurd trivial w⟩
  · refine bx_X10_spoil_5 hY (pf2_ok hY) ?_
    simp only [wp_iconst, wp_bipush, wp_sipush, wp_ldc, wp_ldc2_w, wp_lconst0, wp_lconst1, wp_aconst_null, wp_iload_0, wp_istore_0, wp_iload_1, wp_istore_1, wp_iload_2, wp_istore_2, wp_iload_3, wp_istore_3, wp_iload, wp_istore, wp_lload_0, wp_lstore_0, wp_lload_1, wp_lstore_1, wp_lload_2, wp_lstore_2, wp_lload_3, wp_lstore_3, wp_lload, wp_lstore, wp_aload_0, wp_astore_0, wp_aload_1, wp_astore_1, wp_aload_2, wp_astore_2, wp_aload_3, wp_astore_3, wp_aload, wp_astore, wp_iinc, wp_iadd, wp_isub, wp_imul, wp_iand, wp_ior, wp_ixor, wp_ishl, wp_ishr, wp_iushr, wp_irem, wp_ladd, wp_lsub, wp_lmul, wp_land, wp_lor, wp_lxor, wp_lshl, wp_lshr, wp_lushr, wp_lrem, wp_lcmp, wp_i2l, wp_l2i, wp_dupI, wp_dupA, wp_dup2J, wp_dup2IA, wp_popI, wp_popA, wp_pop2, wp_goto, wp_if_eq, wp_icmp_eq, wp_if_ne, wp_icmp_ne, wp_if_lt, wp_icmp_lt, wp_if_ge, wp_icmp_ge, wp_if_gt, wp_icmp_gt, wp_if_le, wp_icmp_le, wp_ifnull, wp_ifnonnull, wp_acmp_eq, wp_acmp_ne, wp_tableswitch, wp_get0, wp_put0, wp_get1, wp_put1, wp_get2, wp_put2, wp_get3, wp_put3, wp_new, wp_newarray, wp_anewarray, wp_alen, wp_iaload, wp_laload, wp_baload, wp_aaload, wp_iastore, wp_lastore, wp_bastore, wp_aastore, wp_return, wp_ireturnI, wp_ireturnZ, wp_lreturn, wp_areturnO, wp_areturnA, wp_max, wp_min, wp_obj, wp_virt, wp_nil, ld_I0, ld_Is, ld_J0, ld_Js, ld_A0, ld_As, ha_0, ha_s, cx_put1, cx_put2, cx_dl, cx_tgt, true_and, and_true, Nat.reduceAdd, Nat.reduceSub, Int.reduceAdd, Int.reduceNeg, Int.reduceToNat, Int.reduceSub, Int.cast_ofNat_Int, List.take_succ_cons, List.take_zero, List.drop_succ_cons, List.drop_zero, List.take_nil, List.drop_nil, Option.toList_some, Option.toList_none, List.cons_append, List.nil_append, wp_spec, ne_eq, Nat.reduceEqDiff, not_false_eq_true, true_or, or_true, Nat.left_eq_add, Nat.add_eq_left, Nat.add_left_cancel_iff, Nat.reduceEqDiff, Int.reduceEq, false_and, and_false, if_false, if_true, and_self, true_and, true_or, or_true, false_or, or_false]
    refine ⟨fun w => absurd w (by decide), fun _ => ⟨fun q => j20 (by omega) _, fun q1 => ⟨fun q2 => ?_, fun q => j20 (by omega) _⟩⟩⟩
    have el := F.a1
    have sl := F.s1
    have zl : cq_z h lb = 80 := H.tz sl
    obtain ⟨e, fl⟩ := F.fl l hi.1 (by omega)
    have s := fl.s0
    have eb := fl.b0
    have sb := fl.s1
    have zb := fl.sz
    have zr := fl.zr
    have j44 : ¬ ((0 ≤ l ∧ l < cq_I g x 72) ∧ 0 ≤ p ∧ p < cq_I g (x + 63) l ∧ 1 ≤ m ∧ m ≤ 255) → ∀ lv, cw Y mi_X10_spoil K 44 lv [] h 0 0 := by
      intro q lv
      refine bx_X10_spoil_44 hY (pf2_ok hY) ?_
      simp only [wp_iconst, wp_bipush, wp_sipush, wp_ldc, wp_ldc2_w, wp_lconst0, wp_lconst1, wp_aconst_null, wp_iload_0, wp_istore_0, wp_iload_1, wp_istore_1, wp_iload_2, wp_istore_2, wp_iload_3, wp_istore_3, wp_iload, wp_istore, wp_lload_0, wp_lstore_0, wp_lload_1, wp_lstore_1, wp_lload_2, wp_lstore_2, wp_lload_3, wp_lstore_3, wp_lload, wp_lstore, wp_aload_0, wp_astore_0, wp_aload_1, wp_astore_1, wp_aload_2, wp_astore_2, wp_aload_3, wp_astore_3, wp_aload, wp_astore, wp_iinc, wp_iadd, wp_isub, wp_imul, wp_iand, wp_ior, wp_ixor, wp_ishl, wp_ishr, wp_iushr, wp_irem, wp_ladd, wp_lsub, wp_lmul, wp_land, wp_lor, wp_lxor, wp_lshl, wp_lshr, wp_lushr, wp_lrem, wp_lcmp, wp_i2l, wp_l2i, wp_dupI, wp_dupA, wp_dup2J, wp_dup2IA, wp_popI, wp_popA, wp_pop2, wp_goto, wp_if_eq, wp_icmp_eq, wp_if_ne, wp_icmp_ne, wp_if_lt, wp_icmp_lt, wp_if_ge, wp_icmp_ge, wp_if_gt, wp_icmp_gt, wp_if_le, wp_icmp_le, wp_ifnull, wp_ifnonnull, wp_acmp_eq, wp_acmp_ne, wp_tableswitch, wp_get0, wp_put0, wp_get1, wp_put1, wp_get2, wp_put2, wp_get3, wp_put3, wp_new, wp_newarray, wp_anewarray, wp_alen, wp_iaload, wp_laload, wp_baload, wp_aaload, wp_iastore, wp_lastore, wp_bastore, wp_aastore, wp_return, wp_ireturnI, wp_ireturnZ, wp_lreturn, wp_areturnO, wp_areturnA, wp_max, wp_min, wp_obj, wp_virt, wp_nil, ld_I0, ld_Is, ld_J0, ld_Js, ld_A0, ld_As, ha_0, ha_s, cx_put1, cx_put2, cx_dl, cx_tgt, true_and, and_true, Nat.reduceAdd, Nat.reduceSub, Int.reduceAdd, Int.reduceNeg, Int.reduceToNat, Int.reduceSub, Int.cast_ofNat_Int, List.take_succ_cons, List.take_zero, List.drop_succ_cons, List.drop_zero, List.take_nil, List.drop_nil, Option.toList_some, Option.toList_none, List.cons_append, List.nil_append, wp_spec, ne_eq, Nat.reduceEqDiff, not_false_eq_true, true_or, or_true]
      exact hB q
    refine bx_X10_spoil_22 hY (pf2_ok hY) ?_
    simp only [wp_iconst, wp_bipush, wp_sipush, wp_ldc, wp_ldc2_w, wp_lconst0, wp_lconst1, wp_aconst_null, wp_iload_0, wp_istore_0, wp_iload_1, wp_istore_1, wp_iload_2, wp_istore_2, wp_iload_3, wp_istore_3, wp_iload, wp_istore, wp_lload_0, wp_lstore_0, wp_lload_1, wp_lstore_1, wp_lload_2, wp_lstore_2, wp_lload_3, wp_lstore_3, wp_lload, wp_lstore, wp_aload_0, wp_astore_0, wp_aload_1, wp_astore_1, wp_aload_2, wp_astore_2, wp_aload_3, wp_astore_3, wp_aload, wp_astore, wp_iinc, wp_iadd, wp_isub, wp_imul, wp_iand, wp_ior, wp_ixor, wp_ishl, wp_ishr, wp_iushr, wp_irem, wp_ladd, wp_lsub, wp_lmul, wp_land, wp_lor, wp_lxor, wp_lshl, wp_lshr, wp_lushr, wp_lrem, wp_lcmp, wp_i2l, wp_l2i, wp_dupI, wp_dupA, wp_dup2J, wp_dup2IA, wp_popI, wp_popA, wp_pop2, wp_goto, wp_if_eq, wp_icmp_eq, wp_if_ne, wp_icmp_ne, wp_if_lt, wp_icmp_lt, wp_if_ge, wp_icmp_ge, wp_if_gt, wp_icmp_gt, wp_if_le, wp_icmp_le, wp_ifnull, wp_ifnonnull, wp_acmp_eq, wp_acmp_ne, wp_tableswitch, wp_get0, wp_put0, wp_get1, wp_put1, wp_get2, wp_put2, wp_get3, wp_put3, wp_new, wp_newarray, wp_anewarray, wp_alen, wp_iaload, wp_laload, wp_baload, wp_aaload, wp_iastore, wp_lastore, wp_bastore, wp_aastore, wp_return, wp_ireturnI, wp_ireturnZ, wp_lreturn, wp_areturnO, wp_areturnA, wp_max, wp_min, wp_obj, wp_virt, wp_nil, ld_I0, ld_Is, ld_J0, ld_Js, ld_A0, ld_As, ha_0, ha_s, cx_put1, cx_put2, cx_dl, cx_tgt, true_and, and_true, Nat.reduceAdd, Nat.reduceSub, Int.reduceAdd, Int.reduceNeg, Int.reduceToNat, Int.reduceSub, Int.cast_ofNat_Int, List.take_succ_cons, List.take_zero, List.drop_succ_cons, List.drop_zero, List.take_nil, List.drop_nil, Option.toList_some, Option.toList_none, List.cons_append, List.nil_append, wp_spec, ne_eq, Nat.reduceEqDiff, not_false_eq_true, true_or, or_true, hc, el, sl, zl, e, s, eb, sb, ra_102, ra_100]
    refine ⟨by omega, fun q => j44 (by omega) _, fun q3 => ⟨by omega, fun q4 => ?_, fun q => j44 (by omega) _⟩⟩
    have hp : 0 ≤ p ∧ p < cq_I g (x + 63) l := by omega
    have eb2 := fl.by_ p hp.1 hp.2
    refine bx_X10_spoil_46 hY (pf2_ok hY) ?_
    simp only [wp_iconst, wp_bipush, wp_sipush, wp_ldc, wp_ldc2_w, wp_lconst0, wp_lconst1, wp_aconst_null, wp_iload_0, wp_istore_0, wp_iload_1, wp_istore_1, wp_iload_2, wp_istore_2, wp_iload_3, wp_istore_3, wp_iload, wp_istore, wp_lload_0, wp_lstore_0, wp_lload_1, wp_lstore_1, wp_lload_2, wp_lstore_2, wp_lload_3, wp_lstore_3, wp_lload, wp_lstore, wp_aload_0, wp_astore_0, wp_aload_1, wp_astore_1, wp_aload_2, wp_astore_2, wp_aload_3, wp_astore_3, wp_aload, wp_astore, wp_iinc, wp_iadd, wp_isub, wp_imul, wp_iand, wp_ior, wp_ixor, wp_ishl, wp_ishr, wp_iushr, wp_irem, wp_ladd, wp_lsub, wp_lmul, wp_land, wp_lor, wp_lxor, wp_lshl, wp_lshr, wp_lushr, wp_lrem, wp_lcmp, wp_i2l, wp_l2i, wp_dupI, wp_dupA, wp_dup2J, wp_dup2IA, wp_popI, wp_popA, wp_pop2, wp_goto, wp_if_eq, wp_icmp_eq, wp_if_ne, wp_icmp_ne, wp_if_lt, wp_icmp_lt, wp_if_ge, wp_icmp_ge, wp_if_gt, wp_icmp_gt, wp_if_le, wp_icmp_le, wp_ifnull, wp_ifnonnull, wp_acmp_eq, wp_acmp_ne, wp_tableswitch, wp_get0, wp_put0, wp_get1, wp_put1, wp_get2, wp_put2, wp_get3, wp_put3, wp_new, wp_newarray, wp_anewarray, wp_alen, wp_iaload, wp_laload, wp_baload, wp_aaload, wp_iastore, wp_lastore, wp_bastore, wp_aastore, wp_return, wp_ireturnI, wp_ireturnZ, wp_lreturn, wp_areturnO, wp_areturnA, wp_max, wp_min, wp_obj, wp_virt, wp_nil, ld_I0, ld_Is, ld_J0, ld_Js, ld_A0, ld_As, ha_0, ha_s, cx_put1, cx_put2, cx_dl, cx_tgt, true_and, and_true, Nat.reduceAdd, Nat.reduceSub, Int.reduceAdd, Int.reduceNeg, Int.reduceToNat, Int.reduceSub, Int.cast_ofNat_Int, List.take_succ_cons, List.take_zero, List.drop_succ_cons, List.drop_zero, List.take_nil, List.drop_nil, Option.toList_some, Option.toList_none, List.cons_append, List.nil_append, wp_spec, ne_eq, Nat.reduceEqDiff, not_false_eq_true, true_or, or_true, sb, ra_100, mm_sI, mm_sJ, mm_sA, mm_IJ, mm_IA, mm_JI, mm_JA, mm_AI, mm_AJ, mm_ssI, mm_ssJ, mm_ssA, mm_zI, mm_zJ, mm_zA, mm_nI, mm_nJ, mm_nA, Nat.left_eq_add, Nat.add_eq_left, Nat.add_left_cancel_iff, Nat.reduceEqDiff, Int.reduceEq, false_and, and_false, if_false, if_true, and_self, true_and, true_or, or_true, false_or, or_false]
    (repeat' (with_reducible (first | refine And.intro ?_ ?_ | intro _)))
    all_goals (try omega)
    have G := H.sI (a := Lf l + 1) (j := p) (v := cx_xor (cq_I h (Lf l + 1) p) m) sb (own_m (by decide)) (xor8 (H.i100 sb) (by omega)) rfl
    have F2 := fx_spoil F (l := l) (p := p) (v := cx_xor (cq_I h (Lf l + 1) p) m) (by omega) hp
    rw [eb2] at G F2 ⊢
    exact hK ⟨by omega, hp.1, hp.2, by omega, by omega⟩ _ G F2
end
/-! class and reference side by side: a new SESSION's slot -/
theorem m_used_z {f : Int → Int} {b t : Int} : ∀ {n : Nat} {i a : Int}, m_used f b t n i a = 0 → a = 0 ∧ ∀ j : Nat, j < n → f (b + (i + j)) ≠ t
  | 0, i, a, h => ⟨h, fun j q => absurd q (Nat.not_lt_zero _)⟩
  | n + 1, i, a, h => by
    rw [m_used] at h
    obtain ⟨h1, h2⟩ := m_used_z h
    have h3 : ¬ (a ≠ 0 ∨ f (b + i) = t) := fun w => by rw [if_pos w] at h1; exact absurd h1 (by decide)
    refine ⟨Classical.byContradiction (fun w => h3 (Or.inl w)), fun j q => ?_⟩
    cases j with
    | zero =>
      have e : b + (i + ((0 : Nat) : Int)) = b + i := by omega
      rw [e]
      exact fun w => h3 (Or.inr w)
    | succ j =>
      have e : b + (i + ((j + 1 : Nat) : Int)) = b + (i + 1 + (j : Int)) := by omega
      rw [e]
      exact h2 j (by omega)
theorem slot_q {x : Nat} {g : cx_Q} {w : Int} (h4 : 0 ≤ cq_I g (x + 30) w ∧ cq_I g (x + 30) w ≤ 4) (sl : ∀ i, 0 ≤ i → i < cq_I g (x + 30) w → 4 * w ≤ cq_I g (x + 29) (4 * w + i) ∧ cq_I g (x + 29) (4 * w + i) < 4 * w + 4) : (4 * w ≤ m_slotN g x w ∧ m_slotN g x w < 4 * w + 4) ∧ (cq_I g (x + 30) w < 4 → ∀ i, 0 ≤ i → i < cq_I g (x + 30) w → cq_I g (x + 29) (4 * w + i) ≠ m_slotN g x w) ∧ (cq_I g (x + 30) w = 4 → m_slotN g x w = cq_I g (x + 29) (4 * w + 3)) := by
  unfold m_slotN
  by_cases w4 : cq_I g (x + 30) w = 4
  · rw [if_pos w4]
    have e3 : 4 * w + 4 - 1 = 4 * w + 3 := by omega
    rw [e3]
    exact ⟨sl 3 (by omega) (by omega), fun q => by omega, fun _ => rfl⟩
  · rw [if_neg w4]
    generalize hm : (cq_I g (x + 30) w).toNat = m
    have hm3 : m ≤ 3 := by omega
    have hmm : cq_I g (x + 30) w = m := by omega
    rw [hmm] at sl h4 w4 ⊢
    generalize cq_I g (x + 29) = f at sl ⊢
    clear hm hmm
    simp only [m_sl]
    have a0 := fun w' => m_used_3 (f := f) (b := 4 * w) (t := 4 * w + 0) hm3 w'
    have a1 := fun w' => m_used_3 (f := f) (b := 4 * w) (t := 4 * w + (0 + 1)) hm3 w'
    have a2 := fun w' => m_used_3 (f := f) (b := 4 * w) (t := 4 * w + (0 + 1 + 1)) hm3 w'
    have a3 := fun w' => m_used_3 (f := f) (b := 4 * w) (t := 4 * w + (0 + 1 + 1 + 1)) hm3 w'
    have z : ∀ {t : Int}, m_used f (4 * w) t m 0 0 = 0 → ∀ i, 0 ≤ i → i < (m : Int) → f (4 * w + i) ≠ t := by
      intro t q i i0 i1
      have := (m_used_z q).2 i.toNat (by omega)
      have e : 4 * w + (0 + ((i.toNat : Nat) : Int)) = 4 * w + i := by omega
      rw [e] at this
      exact this
    have goal : ∀ s : Int, 4 * w ≤ s → s < 4 * w + 4 → m_used f (4 * w) s m 0 0 = 0 → (4 * w ≤ s ∧ s < 4 * w + 4) ∧ ((m : Int) < 4 → ∀ i, 0 ≤ i → i < (m : Int) → f (4 * w + i) ≠ s) ∧ ((m : Int) = 4 → s = f (4 * w + 3)) := fun s s0 s1 q => ⟨⟨s0, s1⟩, fun _ => z q, fun q => absurd q w4⟩
    by_cases u3 : m_used f (4 * w) (4 * w + (0 + 1 + 1 + 1)) m 0 0 = 0
    · rw [if_pos u3]
      exact goal _ (by omega) (by omega) u3
    · rw [if_neg u3]
      by_cases u2 : m_used f (4 * w) (4 * w + (0 + 1 + 1)) m 0 0 = 0
      · rw [if_pos u2]
        exact goal _ (by omega) (by omega) u2
      · rw [if_neg u2]
        by_cases u1 : m_used f (4 * w) (4 * w + (0 + 1)) m 0 0 = 0
        · rw [if_pos u1]
          exact goal _ (by omega) (by omega) u1
        · rw [if_neg u1]
          by_cases u0 : m_used f (4 * w) (4 * w + 0) m 0 0 = 0
          · rw [if_pos u0]
            exact goal _ (by omega) (by omega) u0
          · have b0 := a0 u0
            have b1 := a1 u1
            have b2 := a2 u2
            have b3 := a3 u3
            omega
theorem m_sh_v {x : Nat} {r : Int} : ∀ {k : Nat} {g : cx_Q}, (∀ j, cq_I (m_sh x r k g) (x + 29) j = if 4 * r + 1 ≤ j ∧ j ≤ 4 * r + k then cq_I g (x + 29) (j - 1) else cq_I g (x + 29) j) ∧ (∀ i j, i ≠ x + 29 → cq_I (m_sh x r k g) i j = cq_I g i j) ∧ cq_J (m_sh x r k g) = cq_J g
  | 0, g => by
    rw [m_sh_0]
    exact ⟨fun j => by rw [if_neg (by omega)], fun _ _ _ => rfl, rfl⟩
  | k + 1, g => by
    rw [m_sh_s]
    obtain ⟨h1, h2, h3⟩ := m_sh_v (x := x) (r := r) (k := k) (g := cq_sI g (x + 29) (4 * r + ((k : Int) + 1)) (cq_I g (x + 29) (4 * r + ((k : Int) + 1) - 1)))
    have e : ∀ j, cq_I (cq_sI g (x + 29) (4 * r + ((k : Int) + 1)) (cq_I g (x + 29) (4 * r + ((k : Int) + 1) - 1))) (x + 29) j = if j = 4 * r + ((k : Int) + 1) then cq_I g (x + 29) (j - 1) else cq_I g (x + 29) j := fun j => by
      rw [mm_sI]
      by_cases w : j = 4 * r + ((k : Int) + 1)
      · rw [if_pos ⟨rfl, w⟩, if_pos w, w]
      · rw [if_neg (fun z => w z.2), if_neg w]
    refine ⟨fun j => ?_, fun i j w => ?_, ?_⟩
    · rw [h1]
      by_cases w : 4 * r + 1 ≤ j ∧ j ≤ 4 * r + (k : Int)
      · rw [if_pos w, e, if_neg (by omega), if_pos (by omega)]
      · rw [if_neg w, e]
        by_cases w2 : j = 4 * r + ((k : Int) + 1)
        · rw [if_pos w2, if_pos (by omega)]
        · rw [if_neg w2, if_neg (by omega)]
    · rw [h2 i j w, mm_sI, if_neg (fun z => w z.1)]
    · rw [h3]; rfl
/-- what the reference's row tells behind a new SESSION: s its slot -/
def NQ (x : Nat) (w s : Int) (g g' : cx_Q) : Prop := (cq_I g' (x + 30) w = rw1 (cq_I g (x + 30) w)) ∧ (∀ i, 0 ≤ i → i < rw1 (cq_I g (x + 30) w) → cq_I g' (x + 29) (4 * w + i) = if i = 0 then s else cq_I g (x + 29) (4 * w + (i - 1)))
theorem NQ.r30 {x : Nat} {w s : Int} {g g' : cx_Q} (F_ : NQ x w s g g') : cq_I g' (x + 30) w = rw1 (cq_I g (x + 30) w) := F_.1
theorem NQ.r29 {x : Nat} {w s : Int} {g g' : cx_Q} (F_ : NQ x w s g g') : ∀ i, 0 ≤ i → i < rw1 (cq_I g (x + 30) w) → cq_I g' (x + 29) (4 * w + i) = if i = 0 then s else cq_I g (x + 29) (4 * w + (i - 1)) := F_.2
/-- the row behind a new SESSION: a its cell -/
theorem fo_new {x r a : Nat} {w s : Int} {T : Int → Nat} {h g h' g' : cx_Q} (F : FO x r w T h g) (Q : NQ x w s g g') (hs : s = m_slotN g x w) (es : ∀ d, cq_s h d ≠ 99 → cq_s h' d = cq_s h d) (eI : cq_I h' r 1 = rw1 (cq_I h r 1)) (eA : ∀ i, cq_A h' (r + 1) i = shU (cq_A h (r + 1)) (rw1 (cq_I h r 1) - 1) (some a) i) (sr : SR x a s h' g') (old : ∀ i, 0 ≤ i → i < cq_I g (x + 30) w → cq_I g (x + 29) (4 * w + i) ≠ s → SR x (T (cq_I g (x + 29) (4 * w + i))) (cq_I g (x + 29) (4 * w + i)) h' g') : FO x r w (fun q => if q = s then a else T q) h' g' ∧ (∀ i, 0 ≤ i → i < cq_I g' (x + 30) w → (i = 0 ∧ cq_I g' (x + 29) (4 * w + i) = s) ∨ (0 < i ∧ cq_I g' (x + 29) (4 * w + i) = cq_I g (x + 29) (4 * w + (i - 1)) ∧ cq_I g (x + 29) (4 * w + (i - 1)) ≠ s ∧ i - 1 < cq_I g (x + 30) w)) := by
  have r4 := F.r4
  obtain ⟨q1, q2, q3⟩ := slot_q F.r4 F.sl
  rw [← hs] at q1 q2 q3
  have rm := F.rm
  have g30 := Q.r30
  have rr : 1 ≤ rw1 (cq_I g (x + 30) w) ∧ rw1 (cq_I g (x + 30) w) ≤ 4 ∧ rw1 (cq_I g (x + 30) w) ≤ cq_I g (x + 30) w + 1 := by unfold rw1; split <;> omega
  have ne : ∀ i, 0 < i → i < rw1 (cq_I g (x + 30) w) → cq_I g (x + 29) (4 * w + (i - 1)) ≠ s := by
    intro i i0 i1
    by_cases w4 : cq_I g (x + 30) w = 4
    · rw [q3 w4]
      exact F.di (i - 1) 3 (by omega) (by omega) (by omega)
    · exact q2 (by omega) (i - 1) (by omega) (by omega)
  have cs : ∀ i, 0 ≤ i → i < cq_I g' (x + 30) w → (i = 0 ∧ cq_I g' (x + 29) (4 * w + i) = s) ∨ (0 < i ∧ cq_I g' (x + 29) (4 * w + i) = cq_I g (x + 29) (4 * w + (i - 1)) ∧ cq_I g (x + 29) (4 * w + (i - 1)) ≠ s ∧ i - 1 < cq_I g (x + 30) w) := by
    intro i i0 i1
    rw [g30] at i1
    have := Q.r29 i i0 i1
    by_cases w0 : i = 0
    · rw [if_pos w0] at this
      exact Or.inl ⟨w0, this⟩
    · rw [if_neg w0] at this
      exact Or.inr ⟨by omega, this, ne i (by omega) i1, by omega⟩
  refine ⟨⟨(es r (by rw [F.s0]; decide)).trans F.s0, (es (r + 1) (by rw [F.s1]; decide)).trans F.s1, by rw [eI, g30, rm], by rw [g30]; omega, fun i i0 i1 => ?_, fun i i0 i1 => ?_, fun i j i0 i1 i2 => ?_, fun i i0 i1 => ?_⟩, cs⟩
  · show cq_A h' (r + 1) i = some (if cq_I g' (x + 29) (4 * w + i) = s then a else T (cq_I g' (x + 29) (4 * w + i)))
    rw [eA, rm]
    unfold shU
    rcases cs i i0 i1 with ⟨e1, e2⟩ | ⟨e1, e2, e3, e4⟩
    · rw [if_pos e1, e2, if_pos rfl]
    · rw [g30] at i1
      rw [if_neg (by omega), if_pos (by omega), e2, if_neg e3]
      exact F.at_ (i - 1) (by omega) e4
  · rcases cs i i0 i1 with ⟨e1, e2⟩ | ⟨e1, e2, e3, e4⟩
    · rw [e2]; exact q1
    · rw [e2]; exact F.sl (i - 1) (by omega) e4
  · rcases cs i i0 (by omega) with ⟨e1, e2⟩ | ⟨e1, e2, e3, e4⟩
    · rcases cs j (by omega) i2 with ⟨d1, d2⟩ | ⟨d1, d2, d3, d4⟩
      · omega
      · rw [e2, d2]; exact d3.symm
    · rcases cs j (by omega) i2 with ⟨d1, d2⟩ | ⟨d1, d2, d3, d4⟩
      · omega
      · rw [e2, d2]; exact F.di (i - 1) (j - 1) (by omega) (by omega) d4
  · show SR x (if cq_I g' (x + 29) (4 * w + i) = s then a else T (cq_I g' (x + 29) (4 * w + i))) (cq_I g' (x + 29) (4 * w + i)) h' g'
    rcases cs i i0 i1 with ⟨e1, e2⟩ | ⟨e1, e2, e3, e4⟩
    · rw [e2, if_pos rfl]; exact sr
    · rw [e2, if_neg e3]; exact old (i - 1) (by omega) e4 e3
theorem newS_q {x : Nat} {g : cx_Q} {w : Int} (h4 : 0 ≤ cq_I g (x + 30) w ∧ cq_I g (x + 30) w ≤ 4) : NQ x w (m_slotN g x w) g (m_newS g x w) ∧ (∀ i j, ¬ (i = x + 30 ∧ j = w) → ¬ (i = x + 29 ∧ 4 * w ≤ j ∧ j < 4 * w + 4) → cq_I (m_newS g x w) i j = cq_I g i j) ∧ cq_J (m_newS g x w) = cq_J g := by
  have n1 : cq_I (m_new1 g x w) (x + 30) w = rw1 (cq_I g (x + 30) w) ∧ (∀ i j, ¬ (i = x + 30 ∧ j = w) → cq_I (m_new1 g x w) i j = cq_I g i j) ∧ cq_J (m_new1 g x w) = cq_J g := by
    unfold m_new1 rw1
    by_cases w4 : cq_I g (x + 30) w = 4
    · rw [if_pos w4, if_neg (by omega)]
      exact ⟨rfl, fun _ _ _ => rfl, rfl⟩
    · rw [if_neg w4, if_pos (by omega)]
      exact ⟨by rw [mm_sI, if_pos ⟨rfl, rfl⟩], fun i j q => by rw [mm_sI, if_neg q], rfl⟩
  have rr : 1 ≤ rw1 (cq_I g (x + 30) w) ∧ rw1 (cq_I g (x + 30) w) ≤ 4 := by unfold rw1; split <;> omega
  obtain ⟨a1, a2, a3⟩ := n1
  obtain ⟨b1, b2, b3⟩ := m_sh_v (x := x) (r := w) (k := (cq_I (m_new1 g x w) (x + 30) w - 1).toNat) (g := m_new1 g x w)
  unfold m_newS
  generalize m_sh x w (cq_I (m_new1 g x w) (x + 30) w - 1).toNat (m_new1 g x w) = m at b1 b2 b3 ⊢
  rw [a1] at b1
  generalize m_new1 g x w = m' at a1 a2 a3 b1 b2 b3
  generalize m_slotN g x w = s
  refine ⟨⟨?_, fun i i0 i1 => ?_⟩, fun i j w1 w2 => ?_, ?_⟩
  · rw [mm_sI, if_neg (fun z => by omega), b2 _ _ (by omega)]
    exact a1
  · rw [mm_sI]
    by_cases w0 : i = 0
    · rw [if_pos ⟨rfl, by omega⟩, if_pos w0]
    · rw [if_neg (fun z => by omega), if_neg w0, b1, if_pos (by omega), a2 _ _ (fun z => by omega)]
      have : 4 * w + i - 1 = 4 * w + (i - 1) := by omega
      rw [this]
  · rw [mm_sI, if_neg (fun z => w2 ⟨z.1, by omega, by omega⟩)]
    by_cases e : i = x + 29
    · rw [e, b1, if_neg (fun z => w2 ⟨e, by omega, by omega⟩), a2 _ _ (fun z => by omega)]
    · rw [b2 i j e, a2 i j w1]
  · rw [mm_JI, b3, a3]
/-! class and reference side by side: a SESSION is BEGUN, the reference's side -/
/-- what the reference tells behind a SESSION that was BEGUN: s its slot, w its row, k the ONCE key, R the first ROOT, ot the other's number, eO the fresh one -/
def BN (x : Nat) (u v w s k : Int) (R ot eO : Int64) (g g' : cx_Q) : Prop := (∀ j, cq_I g' x j = cq_I g x j) ∧ (∀ o j, 1 ≤ o → ¬ (o = 12 ∧ j = u) → ¬ (o = 30 ∧ j = w) → ¬ (o = 29 ∧ 4 * w ≤ j ∧ j < 4 * w + 4) → ¬ (((31 ≤ o ∧ o ≤ 47) ∨ o = 53) ∧ j = s) → cq_I g' (x + o) j = cq_I g (x + o) j) ∧ (∀ o j, 1 ≤ o → ¬ ((31 ≤ o ∧ o ≤ 47) ∧ j = s) → cq_J g' (x + o) j = cq_J g (x + o) j) ∧ (cq_I g' (x + 12) u = cq_I g (x + 12) u + 1) ∧ (NQ x w s g g') ∧ (cq_J g' (x + 31) s = f_key 1 R (f_common (dV (cq_J g (x + 1) u) (cq_I g (x + 12) u)) ot)) ∧ (cq_J g' (x + 32) s = f_key 2 R (f_common (dV (cq_J g (x + 1) u) (cq_I g (x + 12) u)) ot)) ∧ (cq_I g' (x + 33) s = 1) ∧ (cq_I g' (x + 35) s = 0) ∧ (cq_J g' (x + 36) s = dV (cq_J g (x + 1) u) (cq_I g (x + 12) u)) ∧ (cq_J g' (x + 37) s = dO (cq_J g (x + 1) u) (cq_I g (x + 12) u)) ∧ (cq_J g' (x + 38) s = ot) ∧ (cq_I g' (x + 39) s = 1) ∧ (cq_I g' (x + 40) s = 0) ∧ (cq_I g' (x + 41) s = 0) ∧ (cq_I g' (x + 42) s = 0) ∧ (cq_I g' (x + 43) s = 1) ∧ (cq_I g' (x + 44) s = 1) ∧ (cq_J g' (x + 45) s = eO) ∧ (cq_I g' (x + 46) s = cq_I g (x + 16) v) ∧ (cq_I g' (x + 47) s = k) ∧ (cq_I g' (x + 53) s = 0)
theorem BN.x_ {x : Nat} {u v w s k : Int} {R ot eO : Int64} {g g' : cx_Q} (F_ : BN x u v w s k R ot eO g g') : ∀ j, cq_I g' x j = cq_I g x j := F_.1
theorem BN.I_ {x : Nat} {u v w s k : Int} {R ot eO : Int64} {g g' : cx_Q} (F_ : BN x u v w s k R ot eO g g') : ∀ o j, 1 ≤ o → ¬ (o = 12 ∧ j = u) → ¬ (o = 30 ∧ j = w) → ¬ (o = 29 ∧ 4 * w ≤ j ∧ j < 4 * w + 4) → ¬ (((31 ≤ o ∧ o ≤ 47) ∨ o = 53) ∧ j = s) → cq_I g' (x + o) j = cq_I g (x + o) j := F_.2.1
theorem BN.J_ {x : Nat} {u v w s k : Int} {R ot eO : Int64} {g g' : cx_Q} (F_ : BN x u v w s k R ot eO g g') : ∀ o j, 1 ≤ o → ¬ ((31 ≤ o ∧ o ≤ 47) ∧ j = s) → cq_J g' (x + o) j = cq_J g (x + o) j := F_.2.2.1
theorem BN.i12 {x : Nat} {u v w s k : Int} {R ot eO : Int64} {g g' : cx_Q} (F_ : BN x u v w s k R ot eO g g') : cq_I g' (x + 12) u = cq_I g (x + 12) u + 1 := F_.2.2.2.1
theorem BN.nq {x : Nat} {u v w s k : Int} {R ot eO : Int64} {g g' : cx_Q} (F_ : BN x u v w s k R ot eO g g') : NQ x w s g g' := F_.2.2.2.2.1
theorem BN.j31 {x : Nat} {u v w s k : Int} {R ot eO : Int64} {g g' : cx_Q} (F_ : BN x u v w s k R ot eO g g') : cq_J g' (x + 31) s = f_key 1 R (f_common (dV (cq_J g (x + 1) u) (cq_I g (x + 12) u)) ot) := F_.2.2.2.2.2.1
theorem BN.j32 {x : Nat} {u v w s k : Int} {R ot eO : Int64} {g g' : cx_Q} (F_ : BN x u v w s k R ot eO g g') : cq_J g' (x + 32) s = f_key 2 R (f_common (dV (cq_J g (x + 1) u) (cq_I g (x + 12) u)) ot) := F_.2.2.2.2.2.2.1
theorem BN.i33 {x : Nat} {u v w s k : Int} {R ot eO : Int64} {g g' : cx_Q} (F_ : BN x u v w s k R ot eO g g') : cq_I g' (x + 33) s = 1 := F_.2.2.2.2.2.2.2.1
theorem BN.i35 {x : Nat} {u v w s k : Int} {R ot eO : Int64} {g g' : cx_Q} (F_ : BN x u v w s k R ot eO g g') : cq_I g' (x + 35) s = 0 := F_.2.2.2.2.2.2.2.2.1
theorem BN.j36 {x : Nat} {u v w s k : Int} {R ot eO : Int64} {g g' : cx_Q} (F_ : BN x u v w s k R ot eO g g') : cq_J g' (x + 36) s = dV (cq_J g (x + 1) u) (cq_I g (x + 12) u) := F_.2.2.2.2.2.2.2.2.2.1
theorem BN.j37 {x : Nat} {u v w s k : Int} {R ot eO : Int64} {g g' : cx_Q} (F_ : BN x u v w s k R ot eO g g') : cq_J g' (x + 37) s = dO (cq_J g (x + 1) u) (cq_I g (x + 12) u) := F_.2.2.2.2.2.2.2.2.2.2.1
theorem BN.j38 {x : Nat} {u v w s k : Int} {R ot eO : Int64} {g g' : cx_Q} (F_ : BN x u v w s k R ot eO g g') : cq_J g' (x + 38) s = ot := F_.2.2.2.2.2.2.2.2.2.2.2.1
theorem BN.i39 {x : Nat} {u v w s k : Int} {R ot eO : Int64} {g g' : cx_Q} (F_ : BN x u v w s k R ot eO g g') : cq_I g' (x + 39) s = 1 := F_.2.2.2.2.2.2.2.2.2.2.2.2.1
theorem BN.i40 {x : Nat} {u v w s k : Int} {R ot eO : Int64} {g g' : cx_Q} (F_ : BN x u v w s k R ot eO g g') : cq_I g' (x + 40) s = 0 := F_.2.2.2.2.2.2.2.2.2.2.2.2.2.1
theorem BN.i41 {x : Nat} {u v w s k : Int} {R ot eO : Int64} {g g' : cx_Q} (F_ : BN x u v w s k R ot eO g g') : cq_I g' (x + 41) s = 0 := F_.2.2.2.2.2.2.2.2.2.2.2.2.2.2.1
theorem BN.i42 {x : Nat} {u v w s k : Int} {R ot eO : Int64} {g g' : cx_Q} (F_ : BN x u v w s k R ot eO g g') : cq_I g' (x + 42) s = 0 := F_.2.2.2.2.2.2.2.2.2.2.2.2.2.2.2.1
theorem BN.i43 {x : Nat} {u v w s k : Int} {R ot eO : Int64} {g g' : cx_Q} (F_ : BN x u v w s k R ot eO g g') : cq_I g' (x + 43) s = 1 := F_.2.2.2.2.2.2.2.2.2.2.2.2.2.2.2.2.1
theorem BN.i44 {x : Nat} {u v w s k : Int} {R ot eO : Int64} {g g' : cx_Q} (F_ : BN x u v w s k R ot eO g g') : cq_I g' (x + 44) s = 1 := F_.2.2.2.2.2.2.2.2.2.2.2.2.2.2.2.2.2.1
theorem BN.j45 {x : Nat} {u v w s k : Int} {R ot eO : Int64} {g g' : cx_Q} (F_ : BN x u v w s k R ot eO g g') : cq_J g' (x + 45) s = eO := F_.2.2.2.2.2.2.2.2.2.2.2.2.2.2.2.2.2.2.1
theorem BN.i46 {x : Nat} {u v w s k : Int} {R ot eO : Int64} {g g' : cx_Q} (F_ : BN x u v w s k R ot eO g g') : cq_I g' (x + 46) s = cq_I g (x + 16) v := F_.2.2.2.2.2.2.2.2.2.2.2.2.2.2.2.2.2.2.2.1
theorem BN.i47 {x : Nat} {u v w s k : Int} {R ot eO : Int64} {g g' : cx_Q} (F_ : BN x u v w s k R ot eO g g') : cq_I g' (x + 47) s = k := F_.2.2.2.2.2.2.2.2.2.2.2.2.2.2.2.2.2.2.2.2.1
theorem BN.i53 {x : Nat} {u v w s k : Int} {R ot eO : Int64} {g g' : cx_Q} (F_ : BN x u v w s k R ot eO g g') : cq_I g' (x + 53) s = 0 := F_.2.2.2.2.2.2.2.2.2.2.2.2.2.2.2.2.2.2.2.2.2
theorem bn2_q {x : Nat} {g : cx_Q} {u v k : Int} {R ot eO : Int64} (h4 : 0 ≤ cq_I g (x + 30) (6 * u + v) ∧ cq_I g (x + 30) (6 * u + v) ≤ 4) : BN x u v (6 * u + v) (m_slotN g x (6 * u + v)) k R ot eO g (m_bn2 g x u v k R ot eO) := by
  obtain ⟨q1, q2, q3⟩ := newS_q (x := x) (g := g) (w := 6 * u + v) h4
  unfold m_bn2
  generalize m_newS g x (6 * u + v) = m at q1 q2 q3 ⊢
  generalize m_slotN g x (6 * u + v) = s at q1 ⊢
  have m12 : ∀ j, cq_I m (x + 12) j = cq_I g (x + 12) j := fun j => q2 _ _ (by omega) (by omega)
  have m16 : ∀ j, cq_I m (x + 16) j = cq_I g (x + 16) j := fun j => q2 _ _ (by omega) (by omega)
  have mx : ∀ j, cq_I m x j = cq_I g x j := fun j => q2 _ _ (by omega) (by omega)
  have m1 : ∀ j, cq_J m (x + 1) j = cq_J g (x + 1) j := fun j => by rw [q3]
  refine ⟨fun j => ?_, fun o j ho w1 w2 w3 w4 => ?_, fun o j ho w => ?_, ?_, ⟨?_, fun i i0 i1 => ?_⟩, ?_, ?_, ?_, ?_, ?_, ?_, ?_, ?_, ?_, ?_, ?_, ?_, ?_, ?_, ?_, ?_, ?_⟩
  · unfold m_turnS m_turn3 m_draw m_bn1 m_clear
    simp only [mm_sI, mm_sJ, mm_sA, mm_IJ, mm_IA, mm_JI, mm_JA, mm_AI, mm_AJ, mm_ssI, mm_ssJ, mm_ssA, mm_zI, mm_zJ, mm_zA, mm_nI, mm_nJ, mm_nA, Nat.left_eq_add, Nat.add_eq_left, Nat.add_left_cancel_iff, Nat.reduceEqDiff, Int.reduceEq, false_and, and_false, if_false, if_true, and_self, true_and, true_or, or_true, false_or, or_false]
    exact mx j
  · have e : ∀ o', (31 ≤ o' ∧ o' ≤ 47) ∨ o' = 53 → ¬ (o = o' ∧ j = s) := fun o' z y => w4 ⟨by omega, y.2⟩
    unfold m_turnS m_turn3 m_draw m_bn1 m_clear
    simp only [mm_sI, mm_sJ, mm_sA, mm_IJ, mm_IA, mm_JI, mm_JA, mm_AI, mm_AJ, mm_ssI, mm_ssJ, mm_ssA, mm_zI, mm_zJ, mm_zA, mm_nI, mm_nJ, mm_nA, Nat.left_eq_add, Nat.add_eq_left, Nat.add_left_cancel_iff, Nat.reduceEqDiff, Int.reduceEq, false_and, and_false, if_false, if_true, and_self, true_and, true_or, or_true, false_or, or_false, w1, e 33 (by omega), e 35 (by omega), e 39 (by omega), e 40 (by omega), e 41 (by omega), e 42 (by omega), e 43 (by omega), e 44 (by omega), e 46 (by omega), e 47 (by omega), e 53 (by omega)]
    exact q2 _ _ (fun z => w2 ⟨by omega, z.2⟩) (fun z => w3 ⟨by omega, z.2⟩)
  · have e : ∀ o', (31 ≤ o' ∧ o' ≤ 47) → ¬ (o = o' ∧ j = s) := fun o' z y => w ⟨by omega, y.2⟩
    have o0 : ¬ o = 0 := by omega
    unfold m_turnS m_turn3 m_draw m_bn1 m_clear
    simp only [mm_sI, mm_sJ, mm_sA, mm_IJ, mm_IA, mm_JI, mm_JA, mm_AI, mm_AJ, mm_ssI, mm_ssJ, mm_ssA, mm_zI, mm_zJ, mm_zA, mm_nI, mm_nJ, mm_nA, Nat.left_eq_add, Nat.add_eq_left, Nat.add_left_cancel_iff, Nat.reduceEqDiff, Int.reduceEq, false_and, and_false, if_false, if_true, and_self, true_and, true_or, or_true, false_or, or_false, o0, e 31 (by omega), e 32 (by omega), e 36 (by omega), e 37 (by omega), e 38 (by omega), e 45 (by omega)]
    rw [q3]
  · unfold m_turnS m_turn3 m_draw m_bn1 m_clear
    simp only [mm_sI, mm_sJ, mm_sA, mm_IJ, mm_IA, mm_JI, mm_JA, mm_AI, mm_AJ, mm_ssI, mm_ssJ, mm_ssA, mm_zI, mm_zJ, mm_zA, mm_nI, mm_nJ, mm_nA, Nat.left_eq_add, Nat.add_eq_left, Nat.add_left_cancel_iff, Nat.reduceEqDiff, Int.reduceEq, false_and, and_false, if_false, if_true, and_self, true_and, true_or, or_true, false_or, or_false]
    rw [m12]
  · unfold m_turnS m_turn3 m_draw m_bn1 m_clear
    simp only [mm_sI, mm_sJ, mm_sA, mm_IJ, mm_IA, mm_JI, mm_JA, mm_AI, mm_AJ, mm_ssI, mm_ssJ, mm_ssA, mm_zI, mm_zJ, mm_zA, mm_nI, mm_nJ, mm_nA, Nat.left_eq_add, Nat.add_eq_left, Nat.add_left_cancel_iff, Nat.reduceEqDiff, Int.reduceEq, false_and, and_false, if_false, if_true, and_self, true_and, true_or, or_true, false_or, or_false]
    exact q1.r30
  · unfold m_turnS m_turn3 m_draw m_bn1 m_clear
    simp only [mm_sI, mm_sJ, mm_sA, mm_IJ, mm_IA, mm_JI, mm_JA, mm_AI, mm_AJ, mm_ssI, mm_ssJ, mm_ssA, mm_zI, mm_zJ, mm_zA, mm_nI, mm_nJ, mm_nA, Nat.left_eq_add, Nat.add_eq_left, Nat.add_left_cancel_iff, Nat.reduceEqDiff, Int.reduceEq, false_and, and_false, if_false, if_true, and_self, true_and, true_or, or_true, false_or, or_false]
    exact q1.r29 i i0 i1
  · unfold m_turnS m_turn3 m_draw m_bn1 m_clear dV
    simp only [mm_sI, mm_sJ, mm_sA, mm_IJ, mm_IA, mm_JI, mm_JA, mm_AI, mm_AJ, mm_ssI, mm_ssJ, mm_ssA, mm_zI, mm_zJ, mm_zA, mm_nI, mm_nJ, mm_nA, Nat.left_eq_add, Nat.add_eq_left, Nat.add_left_cancel_iff, Nat.reduceEqDiff, Int.reduceEq, false_and, and_false, if_false, if_true, and_self, true_and, true_or, or_true, false_or, or_false]
    rw [m12, m1]
  · unfold m_turnS m_turn3 m_draw m_bn1 m_clear dV
    simp only [mm_sI, mm_sJ, mm_sA, mm_IJ, mm_IA, mm_JI, mm_JA, mm_AI, mm_AJ, mm_ssI, mm_ssJ, mm_ssA, mm_zI, mm_zJ, mm_zA, mm_nI, mm_nJ, mm_nA, Nat.left_eq_add, Nat.add_eq_left, Nat.add_left_cancel_iff, Nat.reduceEqDiff, Int.reduceEq, false_and, and_false, if_false, if_true, and_self, true_and, true_or, or_true, false_or, or_false]
    rw [m12, m1]
  · unfold m_turnS m_turn3 m_draw m_bn1 m_clear
    simp only [mm_sI, mm_sJ, mm_sA, mm_IJ, mm_IA, mm_JI, mm_JA, mm_AI, mm_AJ, mm_ssI, mm_ssJ, mm_ssA, mm_zI, mm_zJ, mm_zA, mm_nI, mm_nJ, mm_nA, Nat.left_eq_add, Nat.add_eq_left, Nat.add_left_cancel_iff, Nat.reduceEqDiff, Int.reduceEq, false_and, and_false, if_false, if_true, and_self, true_and, true_or, or_true, false_or, or_false]
  · unfold m_turnS m_turn3 m_draw m_bn1 m_clear
    simp only [mm_sI, mm_sJ, mm_sA, mm_IJ, mm_IA, mm_JI, mm_JA, mm_AI, mm_AJ, mm_ssI, mm_ssJ, mm_ssA, mm_zI, mm_zJ, mm_zA, mm_nI, mm_nJ, mm_nA, Nat.left_eq_add, Nat.add_eq_left, Nat.add_left_cancel_iff, Nat.reduceEqDiff, Int.reduceEq, false_and, and_false, if_false, if_true, and_self, true_and, true_or, or_true, false_or, or_false]
  · unfold m_turnS m_turn3 m_draw m_bn1 m_clear dV
    simp only [mm_sI, mm_sJ, mm_sA, mm_IJ, mm_IA, mm_JI, mm_JA, mm_AI, mm_AJ, mm_ssI, mm_ssJ, mm_ssA, mm_zI, mm_zJ, mm_zA, mm_nI, mm_nJ, mm_nA, Nat.left_eq_add, Nat.add_eq_left, Nat.add_left_cancel_iff, Nat.reduceEqDiff, Int.reduceEq, false_and, and_false, if_false, if_true, and_self, true_and, true_or, or_true, false_or, or_false]
    rw [m12, m1]
  · unfold m_turnS m_turn3 m_draw m_bn1 m_clear dO dV
    simp only [mm_sI, mm_sJ, mm_sA, mm_IJ, mm_IA, mm_JI, mm_JA, mm_AI, mm_AJ, mm_ssI, mm_ssJ, mm_ssA, mm_zI, mm_zJ, mm_zA, mm_nI, mm_nJ, mm_nA, Nat.left_eq_add, Nat.add_eq_left, Nat.add_left_cancel_iff, Nat.reduceEqDiff, Int.reduceEq, false_and, and_false, if_false, if_true, and_self, true_and, true_or, or_true, false_or, or_false]
    rw [m12, m1]
  · unfold m_turnS m_turn3 m_draw m_bn1 m_clear
    simp only [mm_sI, mm_sJ, mm_sA, mm_IJ, mm_IA, mm_JI, mm_JA, mm_AI, mm_AJ, mm_ssI, mm_ssJ, mm_ssA, mm_zI, mm_zJ, mm_zA, mm_nI, mm_nJ, mm_nA, Nat.left_eq_add, Nat.add_eq_left, Nat.add_left_cancel_iff, Nat.reduceEqDiff, Int.reduceEq, false_and, and_false, if_false, if_true, and_self, true_and, true_or, or_true, false_or, or_false]
  · unfold m_turnS m_turn3 m_draw m_bn1 m_clear
    simp only [mm_sI, mm_sJ, mm_sA, mm_IJ, mm_IA, mm_JI, mm_JA, mm_AI, mm_AJ, mm_ssI, mm_ssJ, mm_ssA, mm_zI, mm_zJ, mm_zA, mm_nI, mm_nJ, mm_nA, Nat.left_eq_add, Nat.add_eq_left, Nat.add_left_cancel_iff, Nat.reduceEqDiff, Int.reduceEq, false_and, and_false, if_false, if_true, and_self, true_and, true_or, or_true, false_or, or_false]
  · unfold m_turnS m_turn3 m_draw m_bn1 m_clear
    simp only [mm_sI, mm_sJ, mm_sA, mm_IJ, mm_IA, mm_JI, mm_JA, mm_AI, mm_AJ, mm_ssI, mm_ssJ, mm_ssA, mm_zI, mm_zJ, mm_zA, mm_nI, mm_nJ, mm_nA, Nat.left_eq_add, Nat.add_eq_left, Nat.add_left_cancel_iff, Nat.reduceEqDiff, Int.reduceEq, false_and, and_false, if_false, if_true, and_self, true_and, true_or, or_true, false_or, or_false]
  · unfold m_turnS m_turn3 m_draw m_bn1 m_clear
    simp only [mm_sI, mm_sJ, mm_sA, mm_IJ, mm_IA, mm_JI, mm_JA, mm_AI, mm_AJ, mm_ssI, mm_ssJ, mm_ssA, mm_zI, mm_zJ, mm_zA, mm_nI, mm_nJ, mm_nA, Nat.left_eq_add, Nat.add_eq_left, Nat.add_left_cancel_iff, Nat.reduceEqDiff, Int.reduceEq, false_and, and_false, if_false, if_true, and_self, true_and, true_or, or_true, false_or, or_false]
  · unfold m_turnS m_turn3 m_draw m_bn1 m_clear
    simp only [mm_sI, mm_sJ, mm_sA, mm_IJ, mm_IA, mm_JI, mm_JA, mm_AI, mm_AJ, mm_ssI, mm_ssJ, mm_ssA, mm_zI, mm_zJ, mm_zA, mm_nI, mm_nJ, mm_nA, Nat.left_eq_add, Nat.add_eq_left, Nat.add_left_cancel_iff, Nat.reduceEqDiff, Int.reduceEq, false_and, and_false, if_false, if_true, and_self, true_and, true_or, or_true, false_or, or_false]
  · unfold m_turnS m_turn3 m_draw m_bn1 m_clear
    simp only [mm_sI, mm_sJ, mm_sA, mm_IJ, mm_IA, mm_JI, mm_JA, mm_AI, mm_AJ, mm_ssI, mm_ssJ, mm_ssA, mm_zI, mm_zJ, mm_zA, mm_nI, mm_nJ, mm_nA, Nat.left_eq_add, Nat.add_eq_left, Nat.add_left_cancel_iff, Nat.reduceEqDiff, Int.reduceEq, false_and, and_false, if_false, if_true, and_self, true_and, true_or, or_true, false_or, or_false]
  · unfold m_turnS m_turn3 m_draw m_bn1 m_clear
    simp only [mm_sI, mm_sJ, mm_sA, mm_IJ, mm_IA, mm_JI, mm_JA, mm_AI, mm_AJ, mm_ssI, mm_ssJ, mm_ssA, mm_zI, mm_zJ, mm_zA, mm_nI, mm_nJ, mm_nA, Nat.left_eq_add, Nat.add_eq_left, Nat.add_left_cancel_iff, Nat.reduceEqDiff, Int.reduceEq, false_and, and_false, if_false, if_true, and_self, true_and, true_or, or_true, false_or, or_false]
  · unfold m_turnS m_turn3 m_draw m_bn1 m_clear
    simp only [mm_sI, mm_sJ, mm_sA, mm_IJ, mm_IA, mm_JI, mm_JA, mm_AI, mm_AJ, mm_ssI, mm_ssJ, mm_ssA, mm_zI, mm_zJ, mm_zA, mm_nI, mm_nJ, mm_nA, Nat.left_eq_add, Nat.add_eq_left, Nat.add_left_cancel_iff, Nat.reduceEqDiff, Int.reduceEq, false_and, and_false, if_false, if_true, and_self, true_and, true_or, or_true, false_or, or_false]
  · unfold m_turnS m_turn3 m_draw m_bn1 m_clear
    simp only [mm_sI, mm_sJ, mm_sA, mm_IJ, mm_IA, mm_JI, mm_JA, mm_AI, mm_AJ, mm_ssI, mm_ssJ, mm_ssA, mm_zI, mm_zJ, mm_zA, mm_nI, mm_nJ, mm_nA, Nat.left_eq_add, Nat.add_eq_left, Nat.add_left_cancel_iff, Nat.reduceEqDiff, Int.reduceEq, false_and, and_false, if_false, if_true, and_self, true_and, true_or, or_true, false_or, or_false]
    rw [m16]
  · unfold m_turnS m_turn3 m_draw m_bn1 m_clear
    simp only [mm_sI, mm_sJ, mm_sA, mm_IJ, mm_IA, mm_JI, mm_JA, mm_AI, mm_AJ, mm_ssI, mm_ssJ, mm_ssA, mm_zI, mm_zJ, mm_zA, mm_nI, mm_nJ, mm_nA, Nat.left_eq_add, Nat.add_eq_left, Nat.add_left_cancel_iff, Nat.reduceEqDiff, Int.reduceEq, false_and, and_false, if_false, if_true, and_self, true_and, true_or, or_true, false_or, or_false]
  · unfold m_turnS m_turn3 m_draw m_bn1 m_clear
    simp only [mm_sI, mm_sJ, mm_sA, mm_IJ, mm_IA, mm_JI, mm_JA, mm_AI, mm_AJ, mm_ssI, mm_ssJ, mm_ssA, mm_zI, mm_zJ, mm_zA, mm_nI, mm_nJ, mm_nA, Nat.left_eq_add, Nat.add_eq_left, Nat.add_left_cancel_iff, Nat.reduceEqDiff, Int.reduceEq, false_and, and_false, if_false, if_true, and_self, true_and, true_or, or_true, false_or, or_false]
/-- a ONCE key is taken out of the DIRECTORY -/
def TQ (x : Nat) (v k : Int) (g g' : cx_Q) : Prop := (∀ j, cq_I g' x j = cq_I g x j) ∧ (∀ o j, 1 ≤ o → ¬ (o = 27 ∧ j = 61 * v + k ∧ k ≠ 0) → cq_I g' (x + o) j = cq_I g (x + o) j) ∧ (k ≠ 0 → cq_I g' (x + 27) (61 * v + k) = 0) ∧ (∀ o j, cq_J g' (x + o) j = cq_J g (x + o) j)
theorem TQ.x_ {x : Nat} {v k : Int} {g g' : cx_Q} (F_ : TQ x v k g g') : ∀ j, cq_I g' x j = cq_I g x j := F_.1
theorem TQ.I_ {x : Nat} {v k : Int} {g g' : cx_Q} (F_ : TQ x v k g g') : ∀ o j, 1 ≤ o → ¬ (o = 27 ∧ j = 61 * v + k ∧ k ≠ 0) → cq_I g' (x + o) j = cq_I g (x + o) j := F_.2.1
theorem TQ.i27 {x : Nat} {v k : Int} {g g' : cx_Q} (F_ : TQ x v k g g') : k ≠ 0 → cq_I g' (x + 27) (61 * v + k) = 0 := F_.2.2.1
theorem TQ.J_ {x : Nat} {v k : Int} {g g' : cx_Q} (F_ : TQ x v k g g') : ∀ o j, cq_J g' (x + o) j = cq_J g (x + o) j := F_.2.2.2
theorem bn0_q {x : Nat} {g : cx_Q} {v : Int} : TQ x v (m_leastOnce g x v) g (m_bn0 g x v) := by
  unfold m_bn0
  by_cases w : m_leastOnce g x v = 0
  · rw [if_pos w]
    exact ⟨fun _ => rfl, fun _ _ _ _ => rfl, fun q => absurd w q, fun _ _ => rfl⟩
  · rw [if_neg w]
    generalize m_leastOnce g x v = k at w
    exact ⟨fun j => by rw [mm_sI, if_neg (fun z => by omega)], fun o j ho z => by rw [mm_sI, if_neg (fun y => z ⟨by omega, y.2, w⟩)], fun _ => by rw [mm_sI, if_pos ⟨rfl, rfl⟩], fun _ _ => rfl⟩
section
variable {c x : Nat} {n : Int} {pe : Int → Nat} {ro : Int → Int → Nat} {pa lb tp rd en op ob : Nat} {T Lf : Int → Nat} {h g h' g' : cx_Q} {v : Int}
theorem fx_take (Q : TQ x v (m_leastOnce g x v) g g') (F : FX c x n pe ro pa lb tp rd en op ob T Lf h g) (hv : 0 ≤ v ∧ v < n) (e : h' = if cq_I h (pe v) 12 < cq_I h (pe v) 11 then cq_sI h (pe v) 12 (cq_I h (pe v) 12 + 1) else h) : FX c x n pe ro pa lb tp rd en op ob T Lf h' g' := by
  have f := F.fu v hv.1 hv.2
  have ls := f.least
  have o60 := f.o60
  have ot := f.ot
  have on := f.on
  rw [ls] at Q
  clear ls
  have ex : evx (fun a => a = pe v) h h' := by
    rw [e]
    split
    · exact evx.sI (P := fun a => a = pe v) evx.refl rfl
    · exact evx.refl
  have eI : ∀ j, j ≠ 12 → cq_I h' (pe v) j = cq_I h (pe v) j := fun j w => by
    rw [e]
    split
    · rw [mm_sI, if_neg (fun z => w z.2)]
    · rfl
  have e12 : cq_I h' (pe v) 12 = if cq_I h (pe v) 12 < cq_I h (pe v) 11 then cq_I h (pe v) 12 + 1 else cq_I h (pe v) 12 := by
    rw [e]
    split
    · rw [mm_sI, if_pos ⟨rfl, rfl⟩]
    · rfl
  have eJ : cq_J h' = cq_J h := by rw [e]; split <;> rfl
  have eA : cq_A h' = cq_A h := by rw [e]; split <;> rfl
  have es : cq_s h' = cq_s h := by rw [e]; split <;> rfl
  have pp : ∀ k, 1 ≤ k → ¬ pe v + k = pe v := fun k w => by omega
  have kr : loC (cq_I h (pe v) 11) (cq_I h (pe v) 12) = 0 ∨ (1 ≤ loC (cq_I h (pe v) 11) (cq_I h (pe v) 12) ∧ loC (cq_I h (pe v) 11) (cq_I h (pe v) 12) ≤ 60) := by unfold loC; split <;> omega
  have I : ∀ o j, 1 ≤ o → o ≠ 27 → cq_I g' (x + o) j = cq_I g (x + o) j := fun o j h1 h2 => Q.I_ o j h1 (fun z => h2 z.1)
  have J := Q.J_
  refine F.upU hv ex (fun a w => Or.inl w) (fun o j h1 h2 h3 w => ⟨Q.I_ o j h1 (fun z => w (Or.inr (Or.inr (Or.inl ⟨by omega, by omega, by omega⟩)))), J o j⟩) (fun j _ => Q.x_ j) (by rw [eA]) ?_
  have I23 := I 23 v (by decide) (by decide)
  have I16 := I 16 v (by decide) (by decide)
  have I58 := I 58 v (by decide) (by decide)
  have I11 := I 11 v (by decide) (by decide)
  refine ⟨by rw [es]; exact f.s0, by rw [es]; exact f.s1, by rw [es]; exact f.s2, by rw [es]; exact f.s3, by rw [es]; exact f.s4, by rw [es]; exact f.s5, by rw [eA]; exact f.a8, by rw [eA]; exact f.a9, by rw [eA]; exact f.a10, by rw [eA]; exact f.a14, by rw [eA]; exact f.a15, by rw [eJ, J]; exact f.sd, by rw [eI 1 (by decide), I 12 v (by decide) (by decide)]; exact f.dr, by rw [I11, eA]; exact f.n0, by rw [I11, eA, es, eJ, J, J]; exact f.n1, by rw [J]; exact f.sb, by rw [eI 4 (by decide), I16]; exact f.ln, by rw [I16]; exact f.l20, by rw [eJ, J]; exact f.lo, by rw [eJ, J]; exact f.so, by rw [eJ, J]; exact f.sp, fun k k1 k2 => ?_, by rw [eI 11 (by decide), I23]; exact f.on, by rw [I23]; exact f.o60, fun k k1 k2 => ?_, fun k k1 k2 => ?_, fun k k1 => ?_, ?_, fun k k1 k2 => ?_, by rw [eI 16 (by decide), I58]; exact f.hd, by rw [I58]; exact f.h100, fun k k1 k2 => ?_⟩
  · rw [I16] at k2
    rw [eA, es, eJ, J, J]
    exact f.lk k k1 k2
  · rw [I23] at k2
    rw [eA, es, eJ, J, J]
    exact f.ok k k1 k2
  · rw [I23] at k2
    rw [ex.I f.s3 rfl (pp 3 (by decide)), I 28 _ (by decide) (by decide)]
    exact f.ou k k1 k2
  · rw [I23] at k1
    rw [ex.I f.s3 rfl (pp 3 (by decide))]
    exact f.oz k k1
  · rw [e12, I23]
    split <;> omega
  · rw [I23] at k2
    have od := f.od k k1 k2
    rw [e12]
    unfold loC at Q
    by_cases w : cq_I h (pe v) 12 < cq_I h (pe v) 11
    · rw [if_pos w] at Q ⊢
      by_cases w2 : k = cq_I h (pe v) 12 + 1
      · rw [w2, Q.i27 (by omega)]
        exact ⟨fun q => absurd rfl q, fun q => by omega⟩
      · rw [Q.I_ 27 _ (by decide) (by omega), od]
        omega
    · rw [if_neg w] at Q ⊢
      rw [Q.I_ 27 _ (by decide) (fun z => z.2.2 rfl), od]
  · rw [I58] at k2
    rw [eJ, J, ex.I f.s5 rfl (pp 5 (by decide)), I 59 _ (by decide) (by decide)]
    exact f.he k k1 k2
/-- a SESSION more was BEGUN -/
theorem fx_begun (F : FX c x n pe ro pa lb tp rd en op ob T Lf h g) (e63 : cq_I g' x 63 = cq_I g x 63 + 1) (ex : ∀ j, j ≠ 63 → cq_I g' x j = cq_I g x j) (eI : ∀ o j, 1 ≤ o → o ≤ 65 → o ∉ tL → cq_I g' (x + o) j = cq_I g (x + o) j) (eJ : ∀ o j, 1 ≤ o → o ≤ 65 → o ∉ tL → cq_J g' (x + o) j = cq_J g (x + o) j) (e : h' = cq_sI h c 4 (cq_I h c 4 + 1)) : FX c x n pe ro pa lb tp rd en op ob T Lf h' g' := by
  have fs := F.fs
  have exx : evx (fun a => a = c) h h' := by rw [e]; exact evx.sI (P := fun a => a = c) evx.refl rfl
  have cI : ∀ j, j ≠ 4 → cq_I h' c j = cq_I h c j := fun j w => by rw [e, mm_sI, if_neg (fun z => w z.2)]
  have c4 : cq_I h' c 4 = cq_I h c 4 + 1 := by rw [e, mm_sI, if_pos ⟨rfl, rfl⟩]
  have eA : cq_A h' = cq_A h := by rw [e]; rfl
  refine F.upS exx (fun o _ => False) (fun o j h1 h2 h3 _ => ⟨eI o j h1 h2 h3, eJ o j h1 h2 h3⟩) (fun a w => by rw [w, fs.s0]; rfl) (fun o j w => w.elim) (by rw [eA]) (by rw [eA]) (ex 0 (by decide)) (ex 72 (by decide)) ?_
  refine ⟨exx.s fs.s0 (by decide), exx.s fs.s1 (by decide), exx.s fs.s2 (by decide), by rw [eA]; exact fs.a8, by rw [eA]; exact fs.a10, by rw [cI 2 (by decide), ex 72 (by decide)]; exact fs.lc, by rw [cI 3 (by decide), ex 73 (by decide)]; exact fs.cc, by rw [c4, e63, fs.bc], by rw [cI 5 (by decide), ex 85 (by decide)]; exact fs.mc, by rw [cI 6 (by decide), ex 84 (by decide)]; exact fs.oc, by rw [cI 7 (by decide), ex 86 (by decide)]; exact fs.kc, by rw [cI 9 (by decide), ex 68 (by decide)]; exact fs.tc, by rw [cI 11 (by decide), ex 75 (by decide)]; exact fs.rc, fun k k0 k1 => ?_, fun k k0 k1 => ?_, fun k k0 k1 => by rw [ex 68 (by decide)] at k1; rw [eI 61 k (by decide) (by decide) (by decide)]; exact fs.tb k k0 k1⟩
  · rw [ex 68 (by decide)] at k1
    rw [exx.I fs.s1 rfl (ns fs.s1 fs.s0 (by decide)), eI 61 k (by decide) (by decide) (by decide)]
    exact fs.tp_ k k0 k1
  · rw [ex 75 (by decide)] at k1
    rw [exx.I fs.s2 rfl (ns fs.s2 fs.s0 (by decide)), eI 65 k (by decide) (by decide) (by decide)]
    exact fs.rd_ k k0 k1
end
/-! class and reference side by side: a SESSION is BEGUN, the class's side -/
section
variable {Y : cx_Y} {K : Option cx_V → cx_Q → Prop} {c : Nat} {n L Z : Int} {E : Nat → Option Int} {h0 : cx_Q} {X : List Nat} {h : cx_Q}
theorem e_X10_firstPairs (hY : cY Y) {o0 o1 o2 o3 o4 : Option Nat} (H : CI c n L Z E h0 [] h) (q0 : ∀ b, o0 = some b → cq_s h b = 6) (q1 : ∀ b, o1 = some b → cq_s h b = 6) (q2 : ∀ b, o2 = some b → cq_s h b = 6) (q3 : ∀ b, o3 = some b → cq_s h b = 6) (q4 : ∀ b, o4 = some b → cq_s h b = 6) (hK : ∀ p h', CI c n L Z E h0 [] h' → ev h h' → cq_s h' p = 101 → K (some (.inr (.inr (some p)))) h') : cw Y mi_X10_firstPairs K 0 [some (.inr (.inr o0)), some (.inr (.inr o1)), some (.inr (.inr o2)), some (.inr (.inr o3)), some (.inr (.inr o4))] [] h 2 14 := by
  have hal := H.al h.1 (Nat.le_refl _)
  have j77 : ∀ p g bc bs, CI c n L Z E h0 [] g → ev h g → cq_s g p = 101 → cw Y mi_X10_firstPairs K 77 [some (.inr (.inr o0)), some (.inr (.inr o1)), some (.inr (.inr o2)), some (.inr (.inr o3)), some (.inr (.inr o4))] [.inr (.inr (some p))] g bc bs := by
    intro p g bc bs G kg sp
    refine bx_X10_firstPairs_77 hY (pf2_ok hY) ?_
    simp only [wp_iconst, wp_bipush, wp_sipush, wp_ldc, wp_ldc2_w, wp_lconst0, wp_lconst1, wp_aconst_null, wp_iload_0, wp_istore_0, wp_iload_1, wp_istore_1, wp_iload_2, wp_istore_2, wp_iload_3, wp_istore_3, wp_iload, wp_istore, wp_lload_0, wp_lstore_0, wp_lload_1, wp_lstore_1, wp_lload_2, wp_lstore_2, wp_lload_3, wp_lstore_3, wp_lload, wp_lstore, wp_aload_0, wp_astore_0, wp_aload_1, wp_astore_1, wp_aload_2, wp_astore_2, wp_aload_3, wp_astore_3, wp_aload, wp_astore, wp_iinc, wp_iadd, wp_isub, wp_imul, wp_iand, wp_ior, wp_ixor, wp_ishl, wp_ishr, wp_iushr, wp_irem, wp_ladd, wp_lsub, wp_lmul, wp_land, wp_lor, wp_lxor, wp_lshl, wp_lshr, wp_lushr, wp_lrem, wp_lcmp, wp_i2l, wp_l2i, wp_dupI, wp_dupA, wp_dup2J, wp_dup2IA, wp_popI, wp_popA, wp_pop2, wp_goto, wp_if_eq, wp_icmp_eq, wp_if_ne, wp_icmp_ne, wp_if_lt, wp_icmp_lt, wp_if_ge, wp_icmp_ge, wp_if_gt, wp_icmp_gt, wp_if_le, wp_icmp_le, wp_ifnull, wp_ifnonnull, wp_acmp_eq, wp_acmp_ne, wp_tableswitch, wp_get0, wp_put0, wp_get1, wp_put1, wp_get2, wp_put2, wp_get3, wp_put3, wp_new, wp_newarray, wp_anewarray, wp_alen, wp_iaload, wp_laload, wp_baload, wp_aaload, wp_iastore, wp_lastore, wp_bastore, wp_aastore, wp_return, wp_ireturnI, wp_ireturnZ, wp_lreturn, wp_areturnO, wp_areturnA, wp_max, wp_min, wp_obj, wp_virt, wp_nil, ld_I0, ld_Is, ld_J0, ld_Js, ld_A0, ld_As, ha_0, ha_s, cx_put1, cx_put2, cx_dl, cx_tgt, true_and, and_true, Nat.reduceAdd, Nat.reduceSub, Int.reduceAdd, Int.reduceNeg, Int.reduceToNat, Int.reduceSub, Int.cast_ofNat_Int, List.take_succ_cons, List.take_zero, List.drop_succ_cons, List.drop_zero, List.take_nil, List.drop_nil, Option.toList_some, Option.toList_none, List.cons_append, List.nil_append, wp_spec, ne_eq, Nat.reduceEqDiff, not_false_eq_true, true_or, or_true]
    exact hK p g G kg sp
  have st : ∀ (g : cx_Q) (j : Int) (o : Option Nat), CI c n L Z E h0 [] g → ev h g → cq_s g h.1 = 101 → (∀ b, o = some b → cq_s h b = 6) → CI c n L Z E h0 [] (cq_sA g h.1 j o) ∧ ev h (cq_sA g h.1 j o) := fun g j o G kg sg ho => ⟨G.sA sg (own_m (by decide)) (fun b q => (kg.s (ho b q) (by decide) : cq_s g b = 6)) (fun _ q => by unfold muA at q; omega) rfl, kg.fA hal⟩
  have mk : ∀ z : Int, 0 ≤ z ∧ z ≤ 8 → CI c n L Z E h0 [] (cq_nw h 101 z) ∧ ev h (cq_nw h 101 z) ∧ cq_s (cq_nw h 101 z) h.1 = 101 ∧ cq_z (cq_nw h 101 z) h.1 = z := fun z hz => ⟨H.new (s := 101) hz (by decide) (by decide) (fun j q => by unfold muA at q; omega), ev.refl.nw hal, nw_n.1, nw_n.2.1⟩
  obtain ⟨M6, k6, s6, z6⟩ := mk 6 (by omega)
  obtain ⟨M8, k8, s8, z8⟩ := mk 8 (by omega)
  refine bx_X10_firstPairs_0 hY (pf2_ok hY) ?_
  simp only [wp_iconst, wp_bipush, wp_sipush, wp_ldc, wp_ldc2_w, wp_lconst0, wp_lconst1, wp_aconst_null, wp_iload_0, wp_istore_0, wp_iload_1, wp_istore_1, wp_iload_2, wp_istore_2, wp_iload_3, wp_istore_3, wp_iload, wp_istore, wp_lload_0, wp_lstore_0, wp_lload_1, wp_lstore_1, wp_lload_2, wp_lstore_2, wp_lload_3, wp_lstore_3, wp_lload, wp_lstore, wp_aload_0, wp_astore_0, wp_aload_1, wp_astore_1, wp_aload_2, wp_astore_2, wp_aload_3, wp_astore_3, wp_aload, wp_astore, wp_iinc, wp_iadd, wp_isub, wp_imul, wp_iand, wp_ior, wp_ixor, wp_ishl, wp_ishr, wp_iushr, wp_irem, wp_ladd, wp_lsub, wp_lmul, wp_land, wp_lor, wp_lxor, wp_lshl, wp_lshr, wp_lushr, wp_lrem, wp_lcmp, wp_i2l, wp_l2i, wp_dupI, wp_dupA, wp_dup2J, wp_dup2IA, wp_popI, wp_popA, wp_pop2, wp_goto, wp_if_eq, wp_icmp_eq, wp_if_ne, wp_icmp_ne, wp_if_lt, wp_icmp_lt, wp_if_ge, wp_icmp_ge, wp_if_gt, wp_icmp_gt, wp_if_le, wp_icmp_le, wp_ifnull, wp_ifnonnull, wp_acmp_eq, wp_acmp_ne, wp_tableswitch, wp_get0, wp_put0, wp_get1, wp_put1, wp_get2, wp_put2, wp_get3, wp_put3, wp_new, wp_newarray, wp_anewarray, wp_alen, wp_iaload, wp_laload, wp_baload, wp_aaload, wp_iastore, wp_lastore, wp_bastore, wp_aastore, wp_return, wp_ireturnI, wp_ireturnZ, wp_lreturn, wp_areturnO, wp_areturnA, wp_max, wp_min, wp_obj, wp_virt, wp_nil, ld_I0, ld_Is, ld_J0, ld_Js, ld_A0, ld_As, ha_0, ha_s, cx_put1, cx_put2, cx_dl, cx_tgt, true_and, and_true, Nat.reduceAdd, Nat.reduceSub, Int.reduceAdd, Int.reduceNeg, Int.reduceToNat, Int.reduceSub, Int.cast_ofNat_Int, List.take_succ_cons, List.take_zero, List.drop_succ_cons, List.drop_zero, List.take_nil, List.drop_nil, Option.toList_some, Option.toList_none, List.cons_append, List.nil_append, wp_spec, ne_eq, Nat.reduceEqDiff, not_false_eq_true, true_or, or_true, s6, z6, ra_101, mm_sI, mm_sJ, mm_sA, mm_IJ, mm_IA, mm_JI, mm_JA, mm_AI, mm_AJ, mm_ssI, mm_ssJ, mm_ssA, mm_zI, mm_zJ, mm_zA, mm_nI, mm_nJ, mm_nA]
  refine ⟨fun i _ => ?_, fun _ => ?_⟩
  · refine bx_X10_firstPairs_37 hY (pf2_ok hY) ?_
    simp only [wp_iconst, wp_bipush, wp_sipush, wp_ldc, wp_ldc2_w, wp_lconst0, wp_lconst1, wp_aconst_null, wp_iload_0, wp_istore_0, wp_iload_1, wp_istore_1, wp_iload_2, wp_istore_2, wp_iload_3, wp_istore_3, wp_iload, wp_istore, wp_lload_0, wp_lstore_0, wp_lload_1, wp_lstore_1, wp_lload_2, wp_lstore_2, wp_lload_3, wp_lstore_3, wp_lload, wp_lstore, wp_aload_0, wp_astore_0, wp_aload_1, wp_astore_1, wp_aload_2, wp_astore_2, wp_aload_3, wp_astore_3, wp_aload, wp_astore, wp_iinc, wp_iadd, wp_isub, wp_imul, wp_iand, wp_ior, wp_ixor, wp_ishl, wp_ishr, wp_iushr, wp_irem, wp_ladd, wp_lsub, wp_lmul, wp_land, wp_lor, wp_lxor, wp_lshl, wp_lshr, wp_lushr, wp_lrem, wp_lcmp, wp_i2l, wp_l2i, wp_dupI, wp_dupA, wp_dup2J, wp_dup2IA, wp_popI, wp_popA, wp_pop2, wp_goto, wp_if_eq, wp_icmp_eq, wp_if_ne, wp_icmp_ne, wp_if_lt, wp_icmp_lt, wp_if_ge, wp_icmp_ge, wp_if_gt, wp_icmp_gt, wp_if_le, wp_icmp_le, wp_ifnull, wp_ifnonnull, wp_acmp_eq, wp_acmp_ne, wp_tableswitch, wp_get0, wp_put0, wp_get1, wp_put1, wp_get2, wp_put2, wp_get3, wp_put3, wp_new, wp_newarray, wp_anewarray, wp_alen, wp_iaload, wp_laload, wp_baload, wp_aaload, wp_iastore, wp_lastore, wp_bastore, wp_aastore, wp_return, wp_ireturnI, wp_ireturnZ, wp_lreturn, wp_areturnO, wp_areturnA, wp_max, wp_min, wp_obj, wp_virt, wp_nil, ld_I0, ld_Is, ld_J0, ld_Js, ld_A0, ld_As, ha_0, ha_s, cx_put1, cx_put2, cx_dl, cx_tgt, true_and, and_true, Nat.reduceAdd, Nat.reduceSub, Int.reduceAdd, Int.reduceNeg, Int.reduceToNat, Int.reduceSub, Int.cast_ofNat_Int, List.take_succ_cons, List.take_zero, List.drop_succ_cons, List.drop_zero, List.take_nil, List.drop_nil, Option.toList_some, Option.toList_none, List.cons_append, List.nil_append, wp_spec, ne_eq, Nat.reduceEqDiff, not_false_eq_true, true_or, or_true, s8, z8, ra_101, mm_sI, mm_sJ, mm_sA, mm_IJ, mm_IA, mm_JI, mm_JA, mm_AI, mm_AJ, mm_ssI, mm_ssJ, mm_ssA, mm_zI, mm_zJ, mm_zA, mm_nI, mm_nJ, mm_nA]
    (repeat' (with_reducible (first | refine And.intro ?_ ?_ | intro _)))
    all_goals (try omega)
    · exact isC_i (fun b q => k8.s (q0 b q) (by decide))
    · exact isC_i (fun b q => k8.s (q3 b q) (by decide))
    · exact isC_i (fun b q => k8.s (q2 b q) (by decide))
    · exact isC_i (fun b q => k8.s (q1 b q) (by decide))
    · exact isC_i (fun b q => k8.s (q2 b q) (by decide))
    · exact isC_i (fun b q => k8.s (q3 b q) (by decide))
    · exact isC_i (fun b q => k8.s (q2 b q) (by decide))
    · exact isC_i (fun b q => k8.s (q4 b q) (by decide))
    · obtain ⟨a1, b1⟩ := st _ 0 o0 M8 k8 s8 q0
      obtain ⟨a2, b2⟩ := st _ 1 o3 a1 b1 s8 q3
      obtain ⟨a3, b3⟩ := st _ 2 o2 a2 b2 s8 q2
      obtain ⟨a4, b4⟩ := st _ 3 o1 a3 b3 s8 q1
      obtain ⟨a5, b5⟩ := st _ 4 o2 a4 b4 s8 q2
      obtain ⟨a6, b6⟩ := st _ 5 o3 a5 b5 s8 q3
      obtain ⟨a7, b7⟩ := st _ 6 o2 a6 b6 s8 q2
      obtain ⟨a8, b8⟩ := st _ 7 o4 a7 b7 s8 q4
      exact j77 _ _ _ _ a8 b8 s8
  · (repeat' (with_reducible (first | refine And.intro ?_ ?_ | intro _)))
    all_goals (try omega)
    · exact isC_i (fun b q => k6.s (q0 b q) (by decide))
    · exact isC_i (fun b q => k6.s (q3 b q) (by decide))
    · exact isC_i (fun b q => k6.s (q2 b q) (by decide))
    · exact isC_i (fun b q => k6.s (q1 b q) (by decide))
    · exact isC_i (fun b q => k6.s (q2 b q) (by decide))
    · exact isC_i (fun b q => k6.s (q3 b q) (by decide))
    · obtain ⟨a1, b1⟩ := st _ 0 o0 M6 k6 s6 q0
      obtain ⟨a2, b2⟩ := st _ 1 o3 a1 b1 s6 q3
      obtain ⟨a3, b3⟩ := st _ 2 o2 a2 b2 s6 q2
      obtain ⟨a4, b4⟩ := st _ 3 o1 a3 b3 s6 q1
      obtain ⟨a5, b5⟩ := st _ 4 o2 a4 b4 s6 q2
      obtain ⟨a6, b6⟩ := st _ 5 o3 a5 b5 s6 q3
      exact j77 _ _ _ _ a6 b6 s6
theorem e_X10_openOf (hY : cY Y) {o : Option Nat} (ho : ∀ b, o = some b → cq_s h b = 6) {w : Int64} (hw : ∀ b, o = some b → cq_J h b 1 = w) (h0' : o = none → w = Int64.ofInt 0) (hK : K (some (.inr (.inl w))) h) : cw Y mi_X10_openOf K 0 [some (.inr (.inr o))] [] h 0 0 := by
  have j12 : ∀ u, u = w → cw Y mi_X10_openOf K 12 [some (.inr (.inr o))] [.inr (.inl u)] h 0 0 := by
    intro u q
    refine bx_X10_openOf_12 hY (pf2_ok hY) ?_
    simp only [wp_iconst, wp_bipush, wp_sipush, wp_ldc, wp_ldc2_w, wp_lconst0, wp_lconst1, wp_aconst_null, wp_iload_0, wp_istore_0, wp_iload_1, wp_istore_1, wp_iload_2, wp_istore_2, wp_iload_3, wp_istore_3, wp_iload, wp_istore, wp_lload_0, wp_lstore_0, wp_lload_1, wp_lstore_1, wp_lload_2, wp_lstore_2, wp_lload_3, wp_lstore_3, wp_lload, wp_lstore, wp_aload_0, wp_astore_0, wp_aload_1, wp_astore_1, wp_aload_2, wp_astore_2, wp_aload_3, wp_astore_3, wp_aload, wp_astore, wp_iinc, wp_iadd, wp_isub, wp_imul, wp_iand, wp_ior, wp_ixor, wp_ishl, wp_ishr, wp_iushr, wp_irem, wp_ladd, wp_lsub, wp_lmul, wp_land, wp_lor, wp_lxor, wp_lshl, wp_lshr, wp_lushr, wp_lrem, wp_lcmp, wp_i2l, wp_l2i, wp_dupI, wp_dupA, wp_dup2J, wp_dup2IA, wp_popI, wp_popA, wp_pop2, wp_goto, wp_if_eq, wp_icmp_eq, wp_if_ne, wp_icmp_ne, wp_if_lt, wp_icmp_lt, wp_if_ge, wp_icmp_ge, wp_if_gt, wp_icmp_gt, wp_if_le, wp_icmp_le, wp_ifnull, wp_ifnonnull, wp_acmp_eq, wp_acmp_ne, wp_tableswitch, wp_get0, wp_put0, wp_get1, wp_put1, wp_get2, wp_put2, wp_get3, wp_put3, wp_new, wp_newarray, wp_anewarray, wp_alen, wp_iaload, wp_laload, wp_baload, wp_aaload, wp_iastore, wp_lastore, wp_bastore, wp_aastore, wp_return, wp_ireturnI, wp_ireturnZ, wp_lreturn, wp_areturnO, wp_areturnA, wp_max, wp_min, wp_obj, wp_virt, wp_nil, ld_I0, ld_Is, ld_J0, ld_Js, ld_A0, ld_As, ha_0, ha_s, cx_put1, cx_put2, cx_dl, cx_tgt, true_and, and_true, Nat.reduceAdd, Nat.reduceSub, Int.reduceAdd, Int.reduceNeg, Int.reduceToNat, Int.reduceSub, Int.cast_ofNat_Int, List.take_succ_cons, List.take_zero, List.drop_succ_cons, List.drop_zero, List.take_nil, List.drop_nil, Option.toList_some, Option.toList_none, List.cons_append, List.nil_append, wp_spec, ne_eq, Nat.reduceEqDiff, not_false_eq_true, true_or, or_true]
    rw [q]
    exact hK
  cases o with
  | none =>
    refine bx_X10_openOf_0 hY (pf2_ok hY) ?_
    simp only [wp_iconst, wp_bipush, wp_sipush, wp_ldc, wp_ldc2_w, wp_lconst0, wp_lconst1, wp_aconst_null, wp_iload_0, wp_istore_0, wp_iload_1, wp_istore_1, wp_iload_2, wp_istore_2, wp_iload_3, wp_istore_3, wp_iload, wp_istore, wp_lload_0, wp_lstore_0, wp_lload_1, wp_lstore_1, wp_lload_2, wp_lstore_2, wp_lload_3, wp_lstore_3, wp_lload, wp_lstore, wp_aload_0, wp_astore_0, wp_aload_1, wp_astore_1, wp_aload_2, wp_astore_2, wp_aload_3, wp_astore_3, wp_aload, wp_astore, wp_iinc, wp_iadd, wp_isub, wp_imul, wp_iand, wp_ior, wp_ixor, wp_ishl, wp_ishr, wp_iushr, wp_irem, wp_ladd, wp_lsub, wp_lmul, wp_land, wp_lor, wp_lxor, wp_lshl, wp_lshr, wp_lushr, wp_lrem, wp_lcmp, wp_i2l, wp_l2i, wp_dupI, wp_dupA, wp_dup2J, wp_dup2IA, wp_popI, wp_popA, wp_pop2, wp_goto, wp_if_eq, wp_icmp_eq, wp_if_ne, wp_icmp_ne, wp_if_lt, wp_icmp_lt, wp_if_ge, wp_icmp_ge, wp_if_gt, wp_icmp_gt, wp_if_le, wp_icmp_le, wp_ifnull, wp_ifnonnull, wp_acmp_eq, wp_acmp_ne, wp_tableswitch, wp_get0, wp_put0, wp_get1, wp_put1, wp_get2, wp_put2, wp_get3, wp_put3, wp_new, wp_newarray, wp_anewarray, wp_alen, wp_iaload, wp_laload, wp_baload, wp_aaload, wp_iastore, wp_lastore, wp_bastore, wp_aastore, wp_return, wp_ireturnI, wp_ireturnZ, wp_lreturn, wp_areturnO, wp_areturnA, wp_max, wp_min, wp_obj, wp_virt, wp_nil, ld_I0, ld_Is, ld_J0, ld_Js, ld_A0, ld_As, ha_0, ha_s, cx_put1, cx_put2, cx_dl, cx_tgt, true_and, and_true, Nat.reduceAdd, Nat.reduceSub, Int.reduceAdd, Int.reduceNeg, Int.reduceToNat, Int.reduceSub, Int.cast_ofNat_Int, List.take_succ_cons, List.take_zero, List.drop_succ_cons, List.drop_zero, List.take_nil, List.drop_nil, Option.toList_some, Option.toList_none, List.cons_append, List.nil_append, wp_spec, ne_eq, Nat.reduceEqDiff, not_false_eq_true, true_or, or_true]
    exact ⟨fun i q => (nomatch q), fun _ => j12 _ (h0' rfl).symm⟩
  | some b =>
    have sb := ho b rfl
    refine bx_X10_openOf_0 hY (pf2_ok hY) ?_
    simp only [wp_iconst, wp_bipush, wp_sipush, wp_ldc, wp_ldc2_w, wp_lconst0, wp_lconst1, wp_aconst_null, wp_iload_0, wp_istore_0, wp_iload_1, wp_istore_1, wp_iload_2, wp_istore_2, wp_iload_3, wp_istore_3, wp_iload, wp_istore, wp_lload_0, wp_lstore_0, wp_lload_1, wp_lstore_1, wp_lload_2, wp_lstore_2, wp_lload_3, wp_lstore_3, wp_lload, wp_lstore, wp_aload_0, wp_astore_0, wp_aload_1, wp_astore_1, wp_aload_2, wp_astore_2, wp_aload_3, wp_astore_3, wp_aload, wp_astore, wp_iinc, wp_iadd, wp_isub, wp_imul, wp_iand, wp_ior, wp_ixor, wp_ishl, wp_ishr, wp_iushr, wp_irem, wp_ladd, wp_lsub, wp_lmul, wp_land, wp_lor, wp_lxor, wp_lshl, wp_lshr, wp_lushr, wp_lrem, wp_lcmp, wp_i2l, wp_l2i, wp_dupI, wp_dupA, wp_dup2J, wp_dup2IA, wp_popI, wp_popA, wp_pop2, wp_goto, wp_if_eq, wp_icmp_eq, wp_if_ne, wp_icmp_ne, wp_if_lt, wp_icmp_lt, wp_if_ge, wp_icmp_ge, wp_if_gt, wp_icmp_gt, wp_if_le, wp_icmp_le, wp_ifnull, wp_ifnonnull, wp_acmp_eq, wp_acmp_ne, wp_tableswitch, wp_get0, wp_put0, wp_get1, wp_put1, wp_get2, wp_put2, wp_get3, wp_put3, wp_new, wp_newarray, wp_anewarray, wp_alen, wp_iaload, wp_laload, wp_baload, wp_aaload, wp_iastore, wp_lastore, wp_bastore, wp_aastore, wp_return, wp_ireturnI, wp_ireturnZ, wp_lreturn, wp_areturnO, wp_areturnA, wp_max, wp_min, wp_obj, wp_virt, wp_nil, ld_I0, ld_Is, ld_J0, ld_Js, ld_A0, ld_As, ha_0, ha_s, cx_put1, cx_put2, cx_dl, cx_tgt, true_and, and_true, Nat.reduceAdd, Nat.reduceSub, Int.reduceAdd, Int.reduceNeg, Int.reduceToNat, Int.reduceSub, Int.cast_ofNat_Int, List.take_succ_cons, List.take_zero, List.drop_succ_cons, List.drop_zero, List.take_nil, List.drop_nil, Option.toList_some, Option.toList_none, List.cons_append, List.nil_append, wp_spec, ne_eq, Nat.reduceEqDiff, not_false_eq_true, true_or, or_true]
    refine ⟨fun i q => ?_, fun q => (nomatch q)⟩
    refine bx_X10_openOf_8 hY (pf2_ok hY) ?_
    simp only [wp_iconst, wp_bipush, wp_sipush, wp_ldc, wp_ldc2_w, wp_lconst0, wp_lconst1, wp_aconst_null, wp_iload_0, wp_istore_0, wp_iload_1, wp_istore_1, wp_iload_2, wp_istore_2, wp_iload_3, wp_istore_3, wp_iload, wp_istore, wp_lload_0, wp_lstore_0, wp_lload_1, wp_lstore_1, wp_lload_2, wp_lstore_2, wp_lload_3, wp_lstore_3, wp_lload, wp_lstore, wp_aload_0, wp_astore_0, wp_aload_1, wp_astore_1, wp_aload_2, wp_astore_2, wp_aload_3, wp_astore_3, wp_aload, wp_astore, wp_iinc, wp_iadd, wp_isub, wp_imul, wp_iand, wp_ior, wp_ixor, wp_ishl, wp_ishr, wp_iushr, wp_irem, wp_ladd, wp_lsub, wp_lmul, wp_land, wp_lor, wp_lxor, wp_lshl, wp_lshr, wp_lushr, wp_lrem, wp_lcmp, wp_i2l, wp_l2i, wp_dupI, wp_dupA, wp_dup2J, wp_dup2IA, wp_popI, wp_popA, wp_pop2, wp_goto, wp_if_eq, wp_icmp_eq, wp_if_ne, wp_icmp_ne, wp_if_lt, wp_icmp_lt, wp_if_ge, wp_icmp_ge, wp_if_gt, wp_icmp_gt, wp_if_le, wp_icmp_le, wp_ifnull, wp_ifnonnull, wp_acmp_eq, wp_acmp_ne, wp_tableswitch, wp_get0, wp_put0, wp_get1, wp_put1, wp_get2, wp_put2, wp_get3, wp_put3, wp_new, wp_newarray, wp_anewarray, wp_alen, wp_iaload, wp_laload, wp_baload, wp_aaload, wp_iastore, wp_lastore, wp_bastore, wp_aastore, wp_return, wp_ireturnI, wp_ireturnZ, wp_lreturn, wp_areturnO, wp_areturnA, wp_max, wp_min, wp_obj, wp_virt, wp_nil, ld_I0, ld_Is, ld_J0, ld_Js, ld_A0, ld_As, ha_0, ha_s, cx_put1, cx_put2, cx_dl, cx_tgt, true_and, and_true, Nat.reduceAdd, Nat.reduceSub, Int.reduceAdd, Int.reduceNeg, Int.reduceToNat, Int.reduceSub, Int.cast_ofNat_Int, List.take_succ_cons, List.take_zero, List.drop_succ_cons, List.drop_zero, List.take_nil, List.drop_nil, Option.toList_some, Option.toList_none, List.cons_append, List.nil_append, wp_spec, ne_eq, Nat.reduceEqDiff, not_false_eq_true, true_or, or_true, sb]
    exact j12 _ (hw b rfl)
/-- a SESSION that is just BEGUN: a its cell, r the pair's SECRET -/
def NS (a r : Nat) (ln z5 : Int) (R X ot eO : Int64) (m : cx_Q) : Prop := (cq_s m a = 7) ∧ (cq_s m (a + 1) = 1) ∧ (cq_A m a 19 = some (a + 1)) ∧ (cq_A m (a + 1) 0 = some (a + 2)) ∧ (cq_A m (a + 1) 1 = some (a + 3)) ∧ (cq_A m (a + 1) 2 = some (a + 4)) ∧ (cq_I m a 0 = 1) ∧ (cq_J m a 2 = eO) ∧ (cq_I m a 3 = ln) ∧ (cq_I m a 4 = z5) ∧ (cq_I m a 5 = 1) ∧ (cq_J m a 6 = f_key 1 R X) ∧ (cq_J m a 8 = f_key 2 R X) ∧ (cq_A m a 9 ≠ none) ∧ (cq_A m a 11 = none) ∧ (cq_J m a 10 = Int64.ofInt 0) ∧ (cq_A m a 12 = some r) ∧ (cq_J m a 13 = ot) ∧ (cq_I m a 15 = 1) ∧ (cq_I m a 16 = 0) ∧ (cq_I m a 17 = 0) ∧ (cq_I m a 18 = 0) ∧ (cq_I m (a + 1) 4 = 0)
theorem NS.s0 {a r : Nat} {ln z5 : Int} {R X ot eO : Int64} {m : cx_Q} (F_ : NS a r ln z5 R X ot eO m) : cq_s m a = 7 := F_.1
theorem NS.s1 {a r : Nat} {ln z5 : Int} {R X ot eO : Int64} {m : cx_Q} (F_ : NS a r ln z5 R X ot eO m) : cq_s m (a + 1) = 1 := F_.2.1
theorem NS.a19 {a r : Nat} {ln z5 : Int} {R X ot eO : Int64} {m : cx_Q} (F_ : NS a r ln z5 R X ot eO m) : cq_A m a 19 = some (a + 1) := F_.2.2.1
theorem NS.k0 {a r : Nat} {ln z5 : Int} {R X ot eO : Int64} {m : cx_Q} (F_ : NS a r ln z5 R X ot eO m) : cq_A m (a + 1) 0 = some (a + 2) := F_.2.2.2.1
theorem NS.k1 {a r : Nat} {ln z5 : Int} {R X ot eO : Int64} {m : cx_Q} (F_ : NS a r ln z5 R X ot eO m) : cq_A m (a + 1) 1 = some (a + 3) := F_.2.2.2.2.1
theorem NS.k2 {a r : Nat} {ln z5 : Int} {R X ot eO : Int64} {m : cx_Q} (F_ : NS a r ln z5 R X ot eO m) : cq_A m (a + 1) 2 = some (a + 4) := F_.2.2.2.2.2.1
theorem NS.i0 {a r : Nat} {ln z5 : Int} {R X ot eO : Int64} {m : cx_Q} (F_ : NS a r ln z5 R X ot eO m) : cq_I m a 0 = 1 := F_.2.2.2.2.2.2.1
theorem NS.j2 {a r : Nat} {ln z5 : Int} {R X ot eO : Int64} {m : cx_Q} (F_ : NS a r ln z5 R X ot eO m) : cq_J m a 2 = eO := F_.2.2.2.2.2.2.2.1
theorem NS.i3 {a r : Nat} {ln z5 : Int} {R X ot eO : Int64} {m : cx_Q} (F_ : NS a r ln z5 R X ot eO m) : cq_I m a 3 = ln := F_.2.2.2.2.2.2.2.2.1
theorem NS.i4 {a r : Nat} {ln z5 : Int} {R X ot eO : Int64} {m : cx_Q} (F_ : NS a r ln z5 R X ot eO m) : cq_I m a 4 = z5 := F_.2.2.2.2.2.2.2.2.2.1
theorem NS.i5 {a r : Nat} {ln z5 : Int} {R X ot eO : Int64} {m : cx_Q} (F_ : NS a r ln z5 R X ot eO m) : cq_I m a 5 = 1 := F_.2.2.2.2.2.2.2.2.2.2.1
theorem NS.j6 {a r : Nat} {ln z5 : Int} {R X ot eO : Int64} {m : cx_Q} (F_ : NS a r ln z5 R X ot eO m) : cq_J m a 6 = f_key 1 R X := F_.2.2.2.2.2.2.2.2.2.2.2.1
theorem NS.j8 {a r : Nat} {ln z5 : Int} {R X ot eO : Int64} {m : cx_Q} (F_ : NS a r ln z5 R X ot eO m) : cq_J m a 8 = f_key 2 R X := F_.2.2.2.2.2.2.2.2.2.2.2.2.1
theorem NS.a9 {a r : Nat} {ln z5 : Int} {R X ot eO : Int64} {m : cx_Q} (F_ : NS a r ln z5 R X ot eO m) : cq_A m a 9 ≠ none := F_.2.2.2.2.2.2.2.2.2.2.2.2.2.1
theorem NS.a11 {a r : Nat} {ln z5 : Int} {R X ot eO : Int64} {m : cx_Q} (F_ : NS a r ln z5 R X ot eO m) : cq_A m a 11 = none := F_.2.2.2.2.2.2.2.2.2.2.2.2.2.2.1
theorem NS.j10 {a r : Nat} {ln z5 : Int} {R X ot eO : Int64} {m : cx_Q} (F_ : NS a r ln z5 R X ot eO m) : cq_J m a 10 = Int64.ofInt 0 := F_.2.2.2.2.2.2.2.2.2.2.2.2.2.2.2.1
theorem NS.a12 {a r : Nat} {ln z5 : Int} {R X ot eO : Int64} {m : cx_Q} (F_ : NS a r ln z5 R X ot eO m) : cq_A m a 12 = some r := F_.2.2.2.2.2.2.2.2.2.2.2.2.2.2.2.2.1
theorem NS.j13 {a r : Nat} {ln z5 : Int} {R X ot eO : Int64} {m : cx_Q} (F_ : NS a r ln z5 R X ot eO m) : cq_J m a 13 = ot := F_.2.2.2.2.2.2.2.2.2.2.2.2.2.2.2.2.2.1
theorem NS.i15 {a r : Nat} {ln z5 : Int} {R X ot eO : Int64} {m : cx_Q} (F_ : NS a r ln z5 R X ot eO m) : cq_I m a 15 = 1 := F_.2.2.2.2.2.2.2.2.2.2.2.2.2.2.2.2.2.2.1
theorem NS.i16 {a r : Nat} {ln z5 : Int} {R X ot eO : Int64} {m : cx_Q} (F_ : NS a r ln z5 R X ot eO m) : cq_I m a 16 = 0 := F_.2.2.2.2.2.2.2.2.2.2.2.2.2.2.2.2.2.2.2.1
theorem NS.i17 {a r : Nat} {ln z5 : Int} {R X ot eO : Int64} {m : cx_Q} (F_ : NS a r ln z5 R X ot eO m) : cq_I m a 17 = 0 := F_.2.2.2.2.2.2.2.2.2.2.2.2.2.2.2.2.2.2.2.2.1
theorem NS.i18 {a r : Nat} {ln z5 : Int} {R X ot eO : Int64} {m : cx_Q} (F_ : NS a r ln z5 R X ot eO m) : cq_I m a 18 = 0 := F_.2.2.2.2.2.2.2.2.2.2.2.2.2.2.2.2.2.2.2.2.2.1
theorem NS.i4' {a r : Nat} {ln z5 : Int} {R X ot eO : Int64} {m : cx_Q} (F_ : NS a r ln z5 R X ot eO m) : cq_I m (a + 1) 4 = 0 := F_.2.2.2.2.2.2.2.2.2.2.2.2.2.2.2.2.2.2.2.2.2.2
theorem bs_x (hY : cY Y) {u v z5 : Int} {p q t r f ra rr : Nat} {x9 : Int64} {o6 o7 : Option Nat} (H : CI c n L Z E h0 [] h) (hv : 0 ≤ v ∧ v < n) (sp : cq_s h p = 4) (sq : cq_s h q = 4) (st : cq_s h t = 6) (sr : cq_s h r = 6) (sf : cq_s h f = 8) (ho7 : ∀ b, o7 = some b → cq_s h b = 6) (hb : cq_I h c 4 < 100) (er : cq_A h p 13 = some ra) (e2 : cq_A h ra v = some rr) (hK : ∀ m, CI c n L Z E h0 [] m → ev h m → NS h.1 r (cq_I h q 4) z5 x9 (f_common (cq_J h r 0) (cq_J h q 5)) (cq_J h q 5) (cq_J h t 1) m → ∀ h', CI c n L Z E h0 [] h' → h' = cq_sI (rwF m rr h.1) c 4 (cq_I h c 4 + 1) → K (some (.inl 1)) h') : cw Y mi_X10_beginSession K 164 [some (.inr (.inr (some c))), some (.inl u), some (.inl v), some (.inr (.inr (some p))), some (.inr (.inr (some q))), some (.inl z5), some (.inr (.inr o6)), some (.inr (.inr o7)), some (.inr (.inr (some t))), some (.inr (.inl x9)), none, some (.inr (.inr (some r))), none, none] [.inr (.inr (some f))] h 9 194 := by
  have hal := H.al h.1 (Nat.le_refl _)
  have hal1 := H.al (h.1 + 1) (by omega)
  have H2 : CI c n L Z E h0 (h.1 :: []) (cq_nw h 7 0) := H.nw (s := 7) True.intro (fun q => absurd q (by decide))
  have k2 : ev h (cq_nw h 7 0) := ev.refl.nw hal
  have s2 : cq_s (cq_nw h 7 0) h.1 = 7 := nw_n.1
  obtain ⟨_, _, nI, nJ, nA⟩ := nw_n (h := h) (s := 7) (z := 0)
  have nt : t ≠ h.1 := fun e => by have := H.lt st (by decide); omega
  have ot := nw_o (h := h) (s := 7) (z := 0) nt
  refine bx_X10_beginSession_164 hY (pf2_ok hY) ?_
  simp only [wp_iconst, wp_bipush, wp_sipush, wp_ldc, wp_ldc2_w, wp_lconst0, wp_lconst1, wp_aconst_null, wp_iload_0, wp_istore_0, wp_iload_1, wp_istore_1, wp_iload_2, wp_istore_2, wp_iload_3, wp_istore_3, wp_iload, wp_istore, wp_lload_0, wp_lstore_0, wp_lload_1, wp_lstore_1, wp_lload_2, wp_lstore_2, wp_lload_3, wp_lstore_3, wp_lload, wp_lstore, wp_aload_0, wp_astore_0, wp_aload_1, wp_astore_1, wp_aload_2, wp_astore_2, wp_aload_3, wp_astore_3, wp_aload, wp_astore, wp_iinc, wp_iadd, wp_isub, wp_imul, wp_iand, wp_ior, wp_ixor, wp_ishl, wp_ishr, wp_iushr, wp_irem, wp_ladd, wp_lsub, wp_lmul, wp_land, wp_lor, wp_lxor, wp_lshl, wp_lshr, wp_lushr, wp_lrem, wp_lcmp, wp_i2l, wp_l2i, wp_dupI, wp_dupA, wp_dup2J, wp_dup2IA, wp_popI, wp_popA, wp_pop2, wp_goto, wp_if_eq, wp_icmp_eq, wp_if_ne, wp_icmp_ne, wp_if_lt, wp_icmp_lt, wp_if_ge, wp_icmp_ge, wp_if_gt, wp_icmp_gt, wp_if_le, wp_icmp_le, wp_ifnull, wp_ifnonnull, wp_acmp_eq, wp_acmp_ne, wp_tableswitch, wp_get0, wp_put0, wp_get1, wp_put1, wp_get2, wp_put2, wp_get3, wp_put3, wp_new, wp_newarray, wp_anewarray, wp_alen, wp_iaload, wp_laload, wp_baload, wp_aaload, wp_iastore, wp_lastore, wp_bastore, wp_aastore, wp_return, wp_ireturnI, wp_ireturnZ, wp_lreturn, wp_areturnO, wp_areturnA, wp_max, wp_min, wp_obj, wp_virt, wp_nil, ld_I0, ld_Is, ld_J0, ld_Js, ld_A0, ld_As, ha_0, ha_s, cx_put1, cx_put2, cx_dl, cx_tgt, true_and, and_true, Nat.reduceAdd, Nat.reduceSub, Int.reduceAdd, Int.reduceNeg, Int.reduceToNat, Int.reduceSub, Int.cast_ofNat_Int, List.take_succ_cons, List.take_zero, List.drop_succ_cons, List.drop_zero, List.take_nil, List.drop_nil, Option.toList_some, Option.toList_none, List.cons_append, List.nil_append, wp_spec, ne_eq, Nat.reduceEqDiff, not_false_eq_true, true_or, or_true, wf_X3_mix, wf_X3_key, wf_X3_times, wf_X3_timesModuloQ, wf_X3_power, wf_X3_rest, wf_X3_secretOf, wf_X3_sealSum, wf_X3_sum, wf_X3_letterKey, wf_X3_nextOf, wf_X3_isOpen, wf_X3_veil, wf_X3_sealIsRight, cx_sz, cx_c2, cond_true, cond_false, Nat.reduceLeDiff, ot.1, ot.2.2.2.1, st]
  (repeat' (with_reducible (first | refine And.intro ?_ ?_ | intro _)))
  all_goals (try omega)
  refine cl_X8_init (Nat.le_of_ble_eq_true rfl) (by omega) (by omega) (e_X8_init hY H2 s2 (Or.inr rfl) (k2.s sr (by decide)) (k2.s sf (by decide)) (fun g1 G1 k1 w1 w2 w3 w4 w5 => ?_))
  have kn : (cq_nw h 7 0).1 = h.1 + 1 := rfl
  rw [kn] at k1 w1 w2 w3 w4 w5
  have es : cq_s (seW (cq_nw h 7 0) h.1 (h.1 + 1) r f 1 x9 (cq_J h t 1)) = cq_s (cq_nw h 7 0) := Eq.trans rfl rfl
  have k21 : ev h g1 := by
    refine ev.trans ?_ k1
    unfold seW
    exact (((((((k2.fA hal).fI hal).fI hal).fJ hal).fJ hal).fJ hal).fA hal).fA hal
  have ss1 : cq_s g1 h.1 = 7 := k1.s (by rw [es]; exact s2) (by decide)
  have a1 : ∀ j, cq_I g1 h.1 j = if j = 5 then 1 else if j = 0 then 1 else 0 := fun j => by
    rw [k1.I (k0 := 7) (by rw [es]; exact s2) rfl]
    unfold seW
    simp only [mm_sI, mm_sJ, mm_sA, mm_IJ, mm_IA, mm_JI, mm_JA, mm_AI, mm_AJ, mm_ssI, mm_ssJ, mm_ssA, mm_zI, mm_zJ, mm_zA, mm_nI, mm_nJ, mm_nA, Nat.left_eq_add, Nat.add_eq_left, Nat.add_left_cancel_iff, Nat.reduceEqDiff, Int.reduceEq, false_and, and_false, if_false, if_true, and_self, true_and, true_or, or_true, false_or, or_false]
    rw [nI]
  have a2 : ∀ j, cq_J g1 h.1 j = if j = 2 then cq_J h t 1 else if j = 6 then x9 else if j = 1 then x9 else 0 := fun j => by
    rw [k1.J (k0 := 7) (by rw [es]; exact s2) (by decide)]
    unfold seW
    simp only [mm_sI, mm_sJ, mm_sA, mm_IJ, mm_IA, mm_JI, mm_JA, mm_AI, mm_AJ, mm_ssI, mm_ssJ, mm_ssA, mm_zI, mm_zJ, mm_zA, mm_nI, mm_nJ, mm_nA, Nat.left_eq_add, Nat.add_eq_left, Nat.add_left_cancel_iff, Nat.reduceEqDiff, Int.reduceEq, false_and, and_false, if_false, if_true, and_self, true_and, true_or, or_true, false_or, or_false]
    rw [nJ]
  have a3 : ∀ j, cq_A g1 h.1 j = if j = 7 then some f else if j = 12 then some r else if j = 19 then some (h.1 + 1) else none := fun j => by
    rw [k1.A (k0 := 7) (by rw [es]; exact s2) rfl]
    unfold seW
    simp only [mm_sI, mm_sJ, mm_sA, mm_IJ, mm_IA, mm_JI, mm_JA, mm_AI, mm_AJ, mm_ssI, mm_ssJ, mm_ssA, mm_zI, mm_zJ, mm_zA, mm_nI, mm_nJ, mm_nA, Nat.left_eq_add, Nat.add_eq_left, Nat.add_left_cancel_iff, Nat.reduceEqDiff, Int.reduceEq, false_and, and_false, if_false, if_true, and_self, true_and, true_or, or_true, false_or, or_false]
    rw [nA]
  have q1 : cq_s g1 q = 4 := k21.s sq (by decide)
  have iq : cq_I g1 q = cq_I h q := k21.I sq rfl
  have jq : cq_J g1 q = cq_J h q := k21.J sq (by decide)
  have jr : cq_J g1 r = cq_J h r := k21.J sr (by decide)
  have nq : ¬ q = h.1 := fun e => by have := H.lt sq (by decide); omega
  have nr : ¬ r = h.1 := fun e => by have := H.lt sr (by decide); omega
  have G2 := (G1.sI (a := h.1) (j := 3) (v := cq_I h q 4) ss1 (own_9 (by decide)) True.intro rfl).sI (a := h.1) (j := 4) (v := z5) ss1 (own_9 (by decide)) True.intro rfl
  refine bx_X10_beginSession_185 hY (pf2_ok hY) ?_
  simp only [wp_iconst, wp_bipush, wp_sipush, wp_ldc, wp_ldc2_w, wp_lconst0, wp_lconst1, wp_aconst_null, wp_iload_0, wp_istore_0, wp_iload_1, wp_istore_1, wp_iload_2, wp_istore_2, wp_iload_3, wp_istore_3, wp_iload, wp_istore, wp_lload_0, wp_lstore_0, wp_lload_1, wp_lstore_1, wp_lload_2, wp_lstore_2, wp_lload_3, wp_lstore_3, wp_lload, wp_lstore, wp_aload_0, wp_astore_0, wp_aload_1, wp_astore_1, wp_aload_2, wp_astore_2, wp_aload_3, wp_astore_3, wp_aload, wp_astore, wp_iinc, wp_iadd, wp_isub, wp_imul, wp_iand, wp_ior, wp_ixor, wp_ishl, wp_ishr, wp_iushr, wp_irem, wp_ladd, wp_lsub, wp_lmul, wp_land, wp_lor, wp_lxor, wp_lshl, wp_lshr, wp_lushr, wp_lrem, wp_lcmp, wp_i2l, wp_l2i, wp_dupI, wp_dupA, wp_dup2J, wp_dup2IA, wp_popI, wp_popA, wp_pop2, wp_goto, wp_if_eq, wp_icmp_eq, wp_if_ne, wp_icmp_ne, wp_if_lt, wp_icmp_lt, wp_if_ge, wp_icmp_ge, wp_if_gt, wp_icmp_gt, wp_if_le, wp_icmp_le, wp_ifnull, wp_ifnonnull, wp_acmp_eq, wp_acmp_ne, wp_tableswitch, wp_get0, wp_put0, wp_get1, wp_put1, wp_get2, wp_put2, wp_get3, wp_put3, wp_new, wp_newarray, wp_anewarray, wp_alen, wp_iaload, wp_laload, wp_baload, wp_aaload, wp_iastore, wp_lastore, wp_bastore, wp_aastore, wp_return, wp_ireturnI, wp_ireturnZ, wp_lreturn, wp_areturnO, wp_areturnA, wp_max, wp_min, wp_obj, wp_virt, wp_nil, ld_I0, ld_Is, ld_J0, ld_Js, ld_A0, ld_As, ha_0, ha_s, cx_put1, cx_put2, cx_dl, cx_tgt, true_and, and_true, Nat.reduceAdd, Nat.reduceSub, Int.reduceAdd, Int.reduceNeg, Int.reduceToNat, Int.reduceSub, Int.cast_ofNat_Int, List.take_succ_cons, List.take_zero, List.drop_succ_cons, List.drop_zero, List.take_nil, List.drop_nil, Option.toList_some, Option.toList_none, List.cons_append, List.nil_append, wp_spec, ne_eq, Nat.reduceEqDiff, not_false_eq_true, true_or, or_true, ss1, q1, nq, iq, jq, mm_sI, mm_sJ, mm_sA, mm_IJ, mm_IA, mm_JI, mm_JA, mm_AI, mm_AJ, mm_ssI, mm_ssJ, mm_ssA, mm_zI, mm_zJ, mm_zA, mm_nI, mm_nJ, mm_nA, Nat.left_eq_add, Nat.add_eq_left, Nat.add_left_cancel_iff, Nat.reduceEqDiff, Int.reduceEq, false_and, and_false, if_false, if_true, and_self, true_and, true_or, or_true, false_or, or_false]
  have k3 : ev h (cq_sI (cq_sI g1 h.1 3 (cq_I h q 4)) h.1 4 z5) := (k21.fI hal).fI hal
  refine cl_X8_meet (Nat.le_of_ble_eq_true rfl) ss1 (by omega) (by omega) (e_X8_meet hY G2 ss1 (fun b w => k3.s (ho7 b w) (by decide)) (fun g3 G3 e3 => ?_))
  have k4 : ev h g3 := by rw [e3]; exact ((k3.fJ hal).fA hal).fI hal
  have ss3 : cq_s g3 h.1 = 7 := by rw [e3]; exact ss1
  have sr3 : cq_s g3 r = 6 := k4.s sr (by decide)
  have b1 : ∀ j, cq_I g3 h.1 j = if j = 15 then 1 else if j = 4 then z5 else if j = 3 then cq_I h q 4 else cq_I g1 h.1 j := fun j => by
    rw [e3]
    simp only [mm_sI, mm_sJ, mm_sA, mm_IJ, mm_IA, mm_JI, mm_JA, mm_AI, mm_AJ, mm_ssI, mm_ssJ, mm_ssA, mm_zI, mm_zJ, mm_zA, mm_nI, mm_nJ, mm_nA, Nat.left_eq_add, Nat.add_eq_left, Nat.add_left_cancel_iff, Nat.reduceEqDiff, Int.reduceEq, false_and, and_false, if_false, if_true, and_self, true_and, true_or, or_true, false_or, or_false]
  have b2 : ∀ j, cq_J g3 h.1 j = if j = 13 then cq_J h q 5 else cq_J g1 h.1 j := fun j => by
    rw [e3]
    simp only [mm_sI, mm_sJ, mm_sA, mm_IJ, mm_IA, mm_JI, mm_JA, mm_AI, mm_AJ, mm_ssI, mm_ssJ, mm_ssA, mm_zI, mm_zJ, mm_zA, mm_nI, mm_nJ, mm_nA, Nat.left_eq_add, Nat.add_eq_left, Nat.add_left_cancel_iff, Nat.reduceEqDiff, Int.reduceEq, false_and, and_false, if_false, if_true, and_self, true_and, true_or, or_true, false_or, or_false]
  have b3 : ∀ j, cq_A g3 h.1 j = if j = 14 then o7 else cq_A g1 h.1 j := fun j => by
    rw [e3]
    simp only [mm_sI, mm_sJ, mm_sA, mm_IJ, mm_IA, mm_JI, mm_JA, mm_AI, mm_AJ, mm_ssI, mm_ssJ, mm_ssA, mm_zI, mm_zJ, mm_zA, mm_nI, mm_nJ, mm_nA, Nat.left_eq_add, Nat.add_eq_left, Nat.add_left_cancel_iff, Nat.reduceEqDiff, Int.reduceEq, false_and, and_false, if_false, if_true, and_self, true_and, true_or, or_true, false_or, or_false]
  have jr3 : cq_J g3 r = cq_J h r := k4.J sr (by decide)
  have c1 : cq_s g3 (h.1 + 1) = 1 := by rw [e3]; exact w1
  have n1 : ¬ h.1 + 1 = h.1 := by omega
  have c2 : cq_I g3 (h.1 + 1) 4 = 0 := by
    rw [e3]
    simp only [mm_sI, mm_sJ, mm_sA, mm_IJ, mm_IA, mm_JI, mm_JA, mm_AI, mm_AJ, mm_ssI, mm_ssJ, mm_ssA, mm_zI, mm_zJ, mm_zA, mm_nI, mm_nJ, mm_nA, n1, Nat.left_eq_add, Nat.add_eq_left, Nat.add_left_cancel_iff, Nat.reduceEqDiff, Int.reduceEq, false_and, and_false, if_false, if_true, and_self, true_and, true_or, or_true, false_or, or_false]
    exact w2
  have c3 : ∀ j, cq_A g3 (h.1 + 1) j = cq_A g1 (h.1 + 1) j := fun j => by
    rw [e3]
    simp only [mm_sI, mm_sJ, mm_sA, mm_IJ, mm_IA, mm_JI, mm_JA, mm_AI, mm_AJ, mm_ssI, mm_ssJ, mm_ssA, mm_zI, mm_zJ, mm_zA, mm_nI, mm_nJ, mm_nA, n1, Nat.left_eq_add, Nat.add_eq_left, Nat.add_left_cancel_iff, Nat.reduceEqDiff, Int.reduceEq, false_and, and_false, if_false, if_true, and_self, true_and, true_or, or_true, false_or, or_false]
  clear e3 G2 k3
  have j63 : cq_J g3 h.1 6 = x9 := by rw [b2, if_neg (by decide), a2, if_neg (by decide), if_pos rfl]
  have j133 : cq_J g3 h.1 13 = cq_J h q 5 := by rw [b2, if_pos rfl]
  refine bx_X10_beginSession_216 hY (pf2_ok hY) ?_
  simp only [wp_iconst, wp_bipush, wp_sipush, wp_ldc, wp_ldc2_w, wp_lconst0, wp_lconst1, wp_aconst_null, wp_iload_0, wp_istore_0, wp_iload_1, wp_istore_1, wp_iload_2, wp_istore_2, wp_iload_3, wp_istore_3, wp_iload, wp_istore, wp_lload_0, wp_lstore_0, wp_lload_1, wp_lstore_1, wp_lload_2, wp_lstore_2, wp_lload_3, wp_lstore_3, wp_lload, wp_lstore, wp_aload_0, wp_astore_0, wp_aload_1, wp_astore_1, wp_aload_2, wp_astore_2, wp_aload_3, wp_astore_3, wp_aload, wp_astore, wp_iinc, wp_iadd, wp_isub, wp_imul, wp_iand, wp_ior, wp_ixor, wp_ishl, wp_ishr, wp_iushr, wp_irem, wp_ladd, wp_lsub, wp_lmul, wp_land, wp_lor, wp_lxor, wp_lshl, wp_lshr, wp_lushr, wp_lrem, wp_lcmp, wp_i2l, wp_l2i, wp_dupI, wp_dupA, wp_dup2J, wp_dup2IA, wp_popI, wp_popA, wp_pop2, wp_goto, wp_if_eq, wp_icmp_eq, wp_if_ne, wp_icmp_ne, wp_if_lt, wp_icmp_lt, wp_if_ge, wp_icmp_ge, wp_if_gt, wp_icmp_gt, wp_if_le, wp_icmp_le, wp_ifnull, wp_ifnonnull, wp_acmp_eq, wp_acmp_ne, wp_tableswitch, wp_get0, wp_put0, wp_get1, wp_put1, wp_get2, wp_put2, wp_get3, wp_put3, wp_new, wp_newarray, wp_anewarray, wp_alen, wp_iaload, wp_laload, wp_baload, wp_aaload, wp_iastore, wp_lastore, wp_bastore, wp_aastore, wp_return, wp_ireturnI, wp_ireturnZ, wp_lreturn, wp_areturnO, wp_areturnA, wp_max, wp_min, wp_obj, wp_virt, wp_nil, ld_I0, ld_Is, ld_J0, ld_Js, ld_A0, ld_As, ha_0, ha_s, cx_put1, cx_put2, cx_dl, cx_tgt, true_and, and_true, Nat.reduceAdd, Nat.reduceSub, Int.reduceAdd, Int.reduceNeg, Int.reduceToNat, Int.reduceSub, Int.cast_ofNat_Int, List.take_succ_cons, List.take_zero, List.drop_succ_cons, List.drop_zero, List.take_nil, List.drop_nil, Option.toList_some, Option.toList_none, List.cons_append, List.nil_append, wp_spec, ne_eq, Nat.reduceEqDiff, not_false_eq_true, true_or, or_true]
  refine cl_X8_turnSending (Nat.le_of_ble_eq_true rfl) ss3 (by omega) (by omega) (e_X8_turnSending hY G3 ss3 sr3 (fun g4 qq G4 k5 => ?_))
  rw [jr3, j63, j133] at k5
  have k6 : ev h g4 := by
    refine ev.trans ?_ k5
    unfold tsW
    exact ((((k4.fA hal).fJ hal).fJ hal).fA hal).fA hal
  have ss4 : cq_s g4 h.1 = 7 := k5.s (by rw [tsW_s]; exact ss3) (by decide)
  have p4 : cq_s g4 p = 4 := k6.s sp (by decide)
  have d1 : ∀ j, cq_I g4 h.1 j = cq_I g3 h.1 j := fun j => by
    rw [k5.I (k0 := 7) (by rw [tsW_s]; exact ss3) rfl]
    unfold tsW
    simp only [mm_sI, mm_sJ, mm_sA, mm_IJ, mm_IA, mm_JI, mm_JA, mm_AI, mm_AJ, mm_ssI, mm_ssJ, mm_ssA, mm_zI, mm_zJ, mm_zA, mm_nI, mm_nJ, mm_nA]
  have d2 : ∀ j, cq_J g4 h.1 j = if j = 6 then f_key 1 x9 (f_common (cq_J h r 0) (cq_J h q 5)) else if j = 8 then f_key 2 x9 (f_common (cq_J h r 0) (cq_J h q 5)) else cq_J g3 h.1 j := fun j => by
    rw [k5.J (k0 := 7) (by rw [tsW_s]; exact ss3) (by decide)]
    unfold tsW
    simp only [mm_sI, mm_sJ, mm_sA, mm_IJ, mm_IA, mm_JI, mm_JA, mm_AI, mm_AJ, mm_ssI, mm_ssJ, mm_ssA, mm_zI, mm_zJ, mm_zA, mm_nI, mm_nJ, mm_nA, Nat.left_eq_add, Nat.add_eq_left, Nat.add_left_cancel_iff, Nat.reduceEqDiff, Int.reduceEq, false_and, and_false, if_false, if_true, and_self, true_and, true_or, or_true, false_or, or_false]
  have d3 : ∀ j, cq_A g4 h.1 j = if j = 9 then some qq else if j = 7 then some qq else if j = 12 then some r else cq_A g3 h.1 j := fun j => by
    rw [k5.A (k0 := 7) (by rw [tsW_s]; exact ss3) rfl]
    unfold tsW
    simp only [mm_sI, mm_sJ, mm_sA, mm_IJ, mm_IA, mm_JI, mm_JA, mm_AI, mm_AJ, mm_ssI, mm_ssJ, mm_ssA, mm_zI, mm_zJ, mm_zA, mm_nI, mm_nJ, mm_nA, Nat.left_eq_add, Nat.add_eq_left, Nat.add_left_cancel_iff, Nat.reduceEqDiff, Int.reduceEq, false_and, and_false, if_false, if_true, and_self, true_and, true_or, or_true, false_or, or_false]
  have d4 : cq_s g4 (h.1 + 1) = 1 := k5.s (by rw [tsW_s]; exact c1) (by decide)
  have d5 : cq_I g4 (h.1 + 1) = cq_I g3 (h.1 + 1) := by
    rw [k5.I (k0 := 1) (by rw [tsW_s]; exact c1) rfl]
    rfl
  have d6 : ∀ j, cq_A g4 (h.1 + 1) j = cq_A g1 (h.1 + 1) j := fun j => by
    rw [k5.A (k0 := 1) (by rw [tsW_s]; exact c1) rfl]
    unfold tsW
    simp only [mm_sI, mm_sJ, mm_sA, mm_IJ, mm_IA, mm_JI, mm_JA, mm_AI, mm_AJ, mm_ssI, mm_ssJ, mm_ssA, mm_zI, mm_zJ, mm_zA, mm_nI, mm_nJ, mm_nA, n1, Nat.left_eq_add, Nat.add_eq_left, Nat.add_left_cancel_iff, Nat.reduceEqDiff, Int.reduceEq, false_and, and_false, if_false, if_true, and_self, true_and, true_or, or_true, false_or, or_false]
    exact c3 j
  have ns' : NS h.1 r (cq_I h q 4) z5 x9 (f_common (cq_J h r 0) (cq_J h q 5)) (cq_J h q 5) (cq_J h t 1) g4 := by
    refine ⟨ss4, d4, ?_, ?_, ?_, ?_, ?_, ?_, ?_, ?_, ?_, ?_, ?_, ?_, ?_, ?_, ?_, ?_, ?_, ?_, ?_, ?_, ?_⟩
    · rw [d3, if_neg (by decide), if_neg (by decide), if_neg (by decide), b3, if_neg (by decide), a3, if_neg (by decide), if_neg (by decide), if_pos rfl]
    · rw [d6]; exact w3
    · rw [d6]; exact w4
    · rw [d6]; exact w5
    · rw [d1, b1, if_neg (by decide), if_neg (by decide), if_neg (by decide), a1, if_neg (by decide), if_pos rfl]
    · rw [d2, if_neg (by decide), if_neg (by decide), b2, if_neg (by decide), a2, if_pos rfl]
    · rw [d1, b1, if_neg (by decide), if_neg (by decide), if_pos rfl]
    · rw [d1, b1, if_neg (by decide), if_pos rfl]
    · rw [d1, b1, if_neg (by decide), if_neg (by decide), if_neg (by decide), a1, if_pos rfl]
    · rw [d2, if_pos rfl]
    · rw [d2, if_neg (by decide), if_pos rfl]
    · rw [d3, if_pos rfl]; exact Option.some_ne_none _
    · rw [d3, if_neg (by decide), if_neg (by decide), if_neg (by decide), b3, if_neg (by decide), a3, if_neg (by decide), if_neg (by decide), if_neg (by decide)]
    · rw [d2, if_neg (by decide), if_neg (by decide), b2, if_neg (by decide), a2, if_neg (by decide), if_neg (by decide), if_neg (by decide)]; rfl
    · rw [d3, if_neg (by decide), if_neg (by decide), if_pos rfl]
    · rw [d2, if_neg (by decide), if_neg (by decide), b2, if_pos rfl]
    · rw [d1, b1, if_pos rfl]
    · rw [d1, b1, if_neg (by decide), if_neg (by decide), if_neg (by decide), a1, if_neg (by decide), if_neg (by decide)]
    · rw [d1, b1, if_neg (by decide), if_neg (by decide), if_neg (by decide), a1, if_neg (by decide), if_neg (by decide)]
    · rw [d1, b1, if_neg (by decide), if_neg (by decide), if_neg (by decide), a1, if_neg (by decide), if_neg (by decide)]
    · rw [d5]; exact c2
  have sra : cq_s h ra = 181 := H.ta sp (own_9 (by decide)) er
  have s5 : cq_s h rr = 5 := H.ta sra (own_h (by decide)) e2
  have er4 : cq_A g4 p 13 = some ra := by rw [k6.A sp rfl]; exact er
  have sra4 : cq_s g4 ra = 181 := k6.s sra (by decide)
  have zra4 : cq_z g4 ra = n := G4.tz sra4
  have e24 : cq_A g4 ra v = some rr := by rw [k6.A sra rfl]; exact e2
  have s54 : cq_s g4 rr = 5 := k6.s s5 (by decide)
  refine bx_X10_beginSession_223 hY (pf2_ok hY) ?_
  simp only [wp_iconst, wp_bipush, wp_sipush, wp_ldc, wp_ldc2_w, wp_lconst0, wp_lconst1, wp_aconst_null, wp_iload_0, wp_istore_0, wp_iload_1, wp_istore_1, wp_iload_2, wp_istore_2, wp_iload_3, wp_istore_3, wp_iload, wp_istore, wp_lload_0, wp_lstore_0, wp_lload_1, wp_lstore_1, wp_lload_2, wp_lstore_2, wp_lload_3, wp_lstore_3, wp_lload, wp_lstore, wp_aload_0, wp_astore_0, wp_aload_1, wp_astore_1, wp_aload_2, wp_astore_2, wp_aload_3, wp_astore_3, wp_aload, wp_astore, wp_iinc, wp_iadd, wp_isub, wp_imul, wp_iand, wp_ior, wp_ixor, wp_ishl, wp_ishr, wp_iushr, wp_irem, wp_ladd, wp_lsub, wp_lmul, wp_land, wp_lor, wp_lxor, wp_lshl, wp_lshr, wp_lushr, wp_lrem, wp_lcmp, wp_i2l, wp_l2i, wp_dupI, wp_dupA, wp_dup2J, wp_dup2IA, wp_popI, wp_popA, wp_pop2, wp_goto, wp_if_eq, wp_icmp_eq, wp_if_ne, wp_icmp_ne, wp_if_lt, wp_icmp_lt, wp_if_ge, wp_icmp_ge, wp_if_gt, wp_icmp_gt, wp_if_le, wp_icmp_le, wp_ifnull, wp_ifnonnull, wp_acmp_eq, wp_acmp_ne, wp_tableswitch, wp_get0, wp_put0, wp_get1, wp_put1, wp_get2, wp_put2, wp_get3, wp_put3, wp_new, wp_newarray, wp_anewarray, wp_alen, wp_iaload, wp_laload, wp_baload, wp_aaload, wp_iastore, wp_lastore, wp_bastore, wp_aastore, wp_return, wp_ireturnI, wp_ireturnZ, wp_lreturn, wp_areturnO, wp_areturnA, wp_max, wp_min, wp_obj, wp_virt, wp_nil, ld_I0, ld_Is, ld_J0, ld_Js, ld_A0, ld_As, ha_0, ha_s, cx_put1, cx_put2, cx_dl, cx_tgt, true_and, and_true, Nat.reduceAdd, Nat.reduceSub, Int.reduceAdd, Int.reduceNeg, Int.reduceToNat, Int.reduceSub, Int.cast_ofNat_Int, List.take_succ_cons, List.take_zero, List.drop_succ_cons, List.drop_zero, List.take_nil, List.drop_nil, Option.toList_some, Option.toList_none, List.cons_append, List.nil_append, wp_spec, ne_eq, Nat.reduceEqDiff, not_false_eq_true, true_or, or_true, p4, er4, sra4, zra4, e24, ra_181]
  refine ⟨by omega, ?_⟩
  refine cl_X6_putFirst (Nat.le_of_ble_eq_true rfl) s54 (by omega) (by omega) (e_X6_putFirst hY G4 List.not_mem_nil s54 ss4 ns'.a9 (fun g5 G5 e5 => ?_))
  have gc := G5.cs
  have hc := H.cs
  have ncr : ¬ c = rr := ns hc s5 (by decide)
  have i4 : cq_I g5 c 4 = cq_I h c 4 := by
    rw [e5]
    unfold rwF
    simp only [rr_IA, mm_sI, mm_sJ, mm_sA, mm_IJ, mm_IA, mm_JI, mm_JA, mm_AI, mm_AJ, mm_ssI, mm_ssJ, mm_ssA, mm_zI, mm_zJ, mm_zA, mm_nI, mm_nJ, mm_nA, ncr, Nat.left_eq_add, Nat.add_eq_left, Nat.add_left_cancel_iff, Nat.reduceEqDiff, Int.reduceEq, false_and, and_false, if_false, if_true, and_self, true_and, true_or, or_true, false_or, or_false]
    rw [k6.I hc rfl]
  have i4b := G5.i9_4 gc
  refine bx_X10_beginSession_234 hY (pf2_ok hY) ?_
  simp only [wp_iconst, wp_bipush, wp_sipush, wp_ldc, wp_ldc2_w, wp_lconst0, wp_lconst1, wp_aconst_null, wp_iload_0, wp_istore_0, wp_iload_1, wp_istore_1, wp_iload_2, wp_istore_2, wp_iload_3, wp_istore_3, wp_iload, wp_istore, wp_lload_0, wp_lstore_0, wp_lload_1, wp_lstore_1, wp_lload_2, wp_lstore_2, wp_lload_3, wp_lstore_3, wp_lload, wp_lstore, wp_aload_0, wp_astore_0, wp_aload_1, wp_astore_1, wp_aload_2, wp_astore_2, wp_aload_3, wp_astore_3, wp_aload, wp_astore, wp_iinc, wp_iadd, wp_isub, wp_imul, wp_iand, wp_ior, wp_ixor, wp_ishl, wp_ishr, wp_iushr, wp_irem, wp_ladd, wp_lsub, wp_lmul, wp_land, wp_lor, wp_lxor, wp_lshl, wp_lshr, wp_lushr, wp_lrem, wp_lcmp, wp_i2l, wp_l2i, wp_dupI, wp_dupA, wp_dup2J, wp_dup2IA, wp_popI, wp_popA, wp_pop2, wp_goto, wp_if_eq, wp_icmp_eq, wp_if_ne, wp_icmp_ne, wp_if_lt, wp_icmp_lt, wp_if_ge, wp_icmp_ge, wp_if_gt, wp_icmp_gt, wp_if_le, wp_icmp_le, wp_ifnull, wp_ifnonnull, wp_acmp_eq, wp_acmp_ne, wp_tableswitch, wp_get0, wp_put0, wp_get1, wp_put1, wp_get2, wp_put2, wp_get3, wp_put3, wp_new, wp_newarray, wp_anewarray, wp_alen, wp_iaload, wp_laload, wp_baload, wp_aaload, wp_iastore, wp_lastore, wp_bastore, wp_aastore, wp_return, wp_ireturnI, wp_ireturnZ, wp_lreturn, wp_areturnO, wp_areturnA, wp_max, wp_min, wp_obj, wp_virt, wp_nil, ld_I0, ld_Is, ld_J0, ld_Js, ld_A0, ld_As, ha_0, ha_s, cx_put1, cx_put2, cx_dl, cx_tgt, true_and, and_true, Nat.reduceAdd, Nat.reduceSub, Int.reduceAdd, Int.reduceNeg, Int.reduceToNat, Int.reduceSub, Int.cast_ofNat_Int, List.take_succ_cons, List.take_zero, List.drop_succ_cons, List.drop_zero, List.take_nil, List.drop_nil, Option.toList_some, Option.toList_none, List.cons_append, List.nil_append, wp_spec, ne_eq, Nat.reduceEqDiff, not_false_eq_true, true_or, or_true, gc, cx_rg, i4]
  refine ⟨by omega, ?_⟩
  exact hK g4 G4 k6 ns' _ (G5.sI gc (own_9 (by decide)) ⟨by omega, by omega⟩ rfl) (by rw [e5])
end
/-! class and reference side by side: begin -/
theorem slot_c {x : Nat} {g g' : cx_Q} {w : Int} (e29 : cq_I g' (x + 29) = cq_I g (x + 29)) (e30 : cq_I g' (x + 30) = cq_I g (x + 30)) : m_slotN g' x w = m_slotN g x w := by
  unfold m_slotN
  rw [e29, e30]
/-- two draws, with a SESSION more BEGUN or not -/
theorem dd63 {x : Nat} {g0 : cx_Q} {u V : Int} : (∀ o j, 1 ≤ o → cq_I (m_draw (m_draw (cq_sI g0 x 63 V) x u) x u) (x + o) j = cq_I (m_draw (m_draw g0 x u) x u) (x + o) j) ∧ (∀ o j, 1 ≤ o → cq_J (m_draw (m_draw (cq_sI g0 x 63 V) x u) x u) (x + o) j = cq_J (m_draw (m_draw g0 x u) x u) (x + o) j) ∧ cq_I (m_draw (m_draw (cq_sI g0 x 63 V) x u) x u) x 63 = V ∧ cq_I (m_draw (m_draw g0 x u) x u) x 63 = cq_I g0 x 63 ∧ ∀ j, j ≠ 63 → cq_I (m_draw (m_draw (cq_sI g0 x 63 V) x u) x u) x j = cq_I (m_draw (m_draw g0 x u) x u) x j := by
  refine ⟨fun o j ho => ?_, fun o j ho => ?_, ?_, ?_, fun j w => ?_⟩
  · have o0 : ¬ o = 0 := by omega
    unfold m_draw
    simp only [mm_sI, mm_sJ, mm_sA, mm_IJ, mm_IA, mm_JI, mm_JA, mm_AI, mm_AJ, mm_ssI, mm_ssJ, mm_ssA, mm_zI, mm_zJ, mm_zA, mm_nI, mm_nJ, mm_nA, Nat.left_eq_add, Nat.add_eq_left, Nat.add_left_cancel_iff, Nat.reduceEqDiff, Int.reduceEq, false_and, and_false, if_false, if_true, and_self, true_and, true_or, or_true, false_or, or_false, o0]
  · have o0 : ¬ o = 0 := by omega
    unfold m_draw
    simp only [mm_sI, mm_sJ, mm_sA, mm_IJ, mm_IA, mm_JI, mm_JA, mm_AI, mm_AJ, mm_ssI, mm_ssJ, mm_ssA, mm_zI, mm_zJ, mm_zA, mm_nI, mm_nJ, mm_nA, Nat.left_eq_add, Nat.add_eq_left, Nat.add_left_cancel_iff, Nat.reduceEqDiff, Int.reduceEq, false_and, and_false, if_false, if_true, and_self, true_and, true_or, or_true, false_or, or_false, o0]
  · unfold m_draw
    simp only [mm_sI, mm_sJ, mm_sA, mm_IJ, mm_IA, mm_JI, mm_JA, mm_AI, mm_AJ, mm_ssI, mm_ssJ, mm_ssA, mm_zI, mm_zJ, mm_zA, mm_nI, mm_nJ, mm_nA, Nat.left_eq_add, Nat.add_eq_left, Nat.add_left_cancel_iff, Nat.reduceEqDiff, Int.reduceEq, false_and, and_false, if_false, if_true, and_self, true_and, true_or, or_true, false_or, or_false]
  · unfold m_draw
    simp only [mm_sI, mm_sJ, mm_sA, mm_IJ, mm_IA, mm_JI, mm_JA, mm_AI, mm_AJ, mm_ssI, mm_ssJ, mm_ssA, mm_zI, mm_zJ, mm_zA, mm_nI, mm_nJ, mm_nA, Nat.left_eq_add, Nat.add_eq_left, Nat.add_left_cancel_iff, Nat.reduceEqDiff, Int.reduceEq, false_and, and_false, if_false, if_true, and_self, true_and, true_or, or_true, false_or, or_false]
  · unfold m_draw
    simp only [mm_sI, mm_sJ, mm_sA, mm_IJ, mm_IA, mm_JI, mm_JA, mm_AI, mm_AJ, mm_ssI, mm_ssJ, mm_ssA, mm_zI, mm_zJ, mm_zA, mm_nI, mm_nJ, mm_nA, Nat.left_eq_add, Nat.add_eq_left, Nat.add_left_cancel_iff, Nat.reduceEqDiff, Int.reduceEq, false_and, and_false, if_false, if_true, and_self, true_and, true_or, or_true, false_or, or_false, w]
section
variable {c x : Nat} {n L Z : Int} {E : Nat → Option Int} {h0 : cx_Q} {pe : Int → Nat} {ro : Int → Int → Nat} {pa lb tp rd en op ob : Nat} {T Lf : Int → Nat} {m h' g gC g' : cx_Q} {u v k : Int} {a r : Nat} {R ot eO : Int64}
/-- the new SESSION goes into its row: m and g with both draws made and it counted as BEGUN -/
theorem fx_enter (F : FX c x n pe ro pa lb tp rd en op ob T Lf m g) (H : CI c n L Z E h0 [] m) (hu : 0 ≤ u ∧ u < n) (hv : 0 ≤ v ∧ v < n) (D : DQ x u gC g) (B : BN x u v (6 * u + v) (m_slotN gC x (6 * u + v)) k R ot eO gC g') (N : NS a r (cq_I g (x + 16) v) k R (f_common (dV (cq_J gC (x + 1) u) (cq_I gC (x + 12) u)) ot) ot eO m) (fr : ∀ u' v' i, 0 ≤ u' → u' < n → 0 ≤ v' → v' < n → 0 ≤ i → i < cq_I g (x + 30) (6 * u' + v') → T (cq_I g (x + 29) (4 * (6 * u' + v') + i)) ≠ a) (sr : cq_s m r = 6) (r0 : cq_J m r 0 = dV (cq_J gC (x + 1) u) (cq_I gC (x + 12) u)) (r1 : cq_J m r 1 = dO (cq_J gC (x + 1) u) (cq_I gC (x + 12) u)) (e : h' = rwF m (ro u v) a) : FX c x n pe ro pa lb tp rd en op ob (fun q => if q = m_slotN gC x (6 * u + v) then a else T q) Lf h' g' := by
  have fo := F.fo u v hu.1 hu.2 hv.1 hv.2
  have gI : ∀ o j, 1 ≤ o → o ≠ 12 → cq_I g (x + o) j = cq_I gC (x + o) j := fun o j h1 h2 => D.I_ o j h1 (fun z => h2 z.1)
  have gJ := D.J_
  have e29 : cq_I g (x + 29) = cq_I gC (x + 29) := funext fun j => gI 29 j (by decide) (by decide)
  have e30 : cq_I g (x + 30) = cq_I gC (x + 30) := funext fun j => gI 30 j (by decide) (by decide)
  have hs : m_slotN gC x (6 * u + v) = m_slotN g x (6 * u + v) := (slot_c e29 e30).symm
  obtain ⟨q1, q2, q3⟩ := slot_q fo.r4 fo.sl
  rw [← hs] at q1 q2 q3
  clear hs
  have hs' : m_slotN gC x (6 * u + v) = m_slotN g x (6 * u + v) := (slot_c e29 e30).symm
  generalize m_slotN gC x (6 * u + v) = s at B q1 q2 q3 hs'
  have Q : NQ x (6 * u + v) s g g' := ⟨by rw [B.nq.r30, gI 30 _ (by decide) (by decide)], fun i i0 i1 => by rw [gI 30 _ (by decide) (by decide)] at i1; rw [B.nq.r29 i i0 i1, gI 29 _ (by decide) (by decide)]⟩
  have ex : evx (fun d => d = ro u v ∨ d = ro u v + 1) m h' := by
    rw [e]
    unfold rwF
    exact (evx.refl.sI (Or.inl rfl)).rA (Or.inr rfl)
  have n01 : ¬ ro u v = ro u v + 1 := by omega
  have n10 : ¬ ro u v + 1 = ro u v := by omega
  have eI1 : cq_I h' (ro u v) 1 = rw1 (cq_I m (ro u v) 1) := by
    rw [e]
    unfold rwF
    rw [rr_IA, mm_sI, if_pos ⟨rfl, rfl⟩]
  have eA1 : ∀ i, cq_A h' (ro u v + 1) i = shU (cq_A m (ro u v + 1)) (rw1 (cq_I m (ro u v) 1) - 1) (some a) i := fun i => by
    rw [e]
    unfold rwF
    rw [rr_A, if_pos rfl]
  have np : ∀ {d q : Nat}, cq_s m d = q → q ≠ 5 → q ≠ 182 → ¬ (d = ro u v ∨ d = ro u v + 1) := fun {d q} w w1 w2 z => z.elim (ns w fo.s0 w1) (ns w fo.s1 w2)
  -- the session's own facts behind all
  have s2 : cq_s m (a + 2) = 171 := H.ta N.s1 (own_9 (by decide)) N.k0
  have s3 : cq_s m (a + 3) = 172 := H.ta N.s1 (own_9 (by decide)) N.k1
  have s4 : cq_s m (a + 4) = 173 := H.ta N.s1 (own_9 (by decide)) N.k2
  have eI := ex.I N.s0 rfl (np N.s0 (by decide) (by decide))
  have eJ := ex.J N.s0 (by decide) (np N.s0 (by decide) (by decide))
  have eA := ex.A N.s0 rfl (np N.s0 (by decide) (by decide))
  have eI1' := ex.I N.s1 rfl (np N.s1 (by decide) (by decide))
  have eA1' := ex.A N.s1 rfl (np N.s1 (by decide) (by decide))
  have er := ex.2.1 r sr
  have SRn : SR x a s h' g' := by
    refine ⟨ex.s N.s0 (by decide), ex.s N.s1 (by decide), ex.s s2 (by decide), ex.s s3 (by decide), ex.s s4 (by decide), by rw [eA]; exact N.a19, by rw [eA1']; exact N.k0, by rw [eA1']; exact N.k1, by rw [eA1']; exact N.k2, by rw [eI, B.i44]; exact N.i0, by rw [eJ, B.j45]; exact N.j2, by rw [eI, B.i43]; exact N.i5, fun _ => ⟨by rw [eI, B.i46, N.i3, gI 16 _ (by decide) (by decide)], by rw [eI, B.i47]; exact N.i4⟩, by rw [eJ, B.j31]; exact N.j6, by rw [eJ, B.j32]; exact N.j8, by rw [eA]; exact N.a9, by rw [B.i33]; decide, ?_, fun q => absurd B.i35 q, fun _ => by rw [eJ]; exact N.j10, ⟨r, by rw [eA]; exact N.a12, ex.s sr (by decide), by rw [er, B.j36]; exact r0, by rw [er, B.j37]; exact r1⟩, by rw [eJ, B.j38]; exact N.j13, by rw [eI, B.i39]; exact N.i15, by rw [eI, B.i40]; exact N.i16, by rw [eI, B.i41]; exact N.i17, by rw [eI, B.i42]; exact N.i18, by rw [eI1', B.i53]; exact N.i4', by rw [B.i53]; omega, fun k k0 k1 => by rw [B.i53] at k1; omega⟩
    rw [eA, B.i35, N.a11]
    exact ⟨fun _ => rfl, fun _ => rfl⟩
  have old : ∀ i, 0 ≤ i → i < cq_I g (x + 30) (6 * u + v) → cq_I g (x + 29) (4 * (6 * u + v) + i) ≠ s → SR x (T (cq_I g (x + 29) (4 * (6 * u + v) + i))) (cq_I g (x + 29) (4 * (6 * u + v) + i)) h' g' := by
    intro i i0 i1 ne
    have f := fo.ss i i0 i1
    have sl := fo.sl i i0 i1
    refine f.ex ex (np f.s0 (by decide) (by decide)) (np f.s1 (by decide) (by decide)) (np f.s2 (by decide) (by decide)) (np f.s3 (by decide) (by decide)) (np f.s4 (by decide) (by decide)) (fun o j z => ?_)
    have o1 : 1 ≤ o := (inS_r z).1
    rw [gJ o j o1, gI o j o1 (by unfold inS at z; omega)]
    refine ⟨B.I_ o j o1 ?_ ?_ ?_ ?_, B.J_ o j o1 ?_⟩ <;> (unfold inS at z; omega)
  obtain ⟨FO', cs⟩ := fo_new fo Q hs' (fun d w => (ex.1 d w).1) eI1 eA1 SRn old
  refine F.upO hu hv ex (fun o j h1 h2 h3 w => ?_) (fun d w => w.elim Or.inl (fun z => Or.inr (Or.inl z))) (fun j _ => by rw [B.x_, D.x_]) (fun q w => if_neg (fun z => w (by omega))) FO' (fun i j i0 i1 j0 j1 ne => ?_) (fun i u' v' j i0 i1 a1 a2 a3 a4 ne j0 j1 => ?_)
  · refine ⟨?_, ?_⟩
    · by_cases w12 : o = 12 ∧ j = u
      · rw [w12.1, w12.2, B.i12, D.i12]
      · rw [D.I_ o j h1 w12]
        refine B.I_ o j h1 w12 ?_ ?_ ?_ <;> (intro z; apply w; unfold inO; omega)
    · rw [gJ o j h1]
      refine B.J_ o j h1 ?_
      intro z; apply w; unfold inO; omega
  · rcases cs i i0 i1 with ⟨e1, e2⟩ | ⟨e1, e2, e3, e4⟩
    · rcases cs j j0 j1 with ⟨d1, d2⟩ | ⟨d1, d2, d3, d4⟩
      · omega
      · rw [e2, d2, if_pos rfl, if_neg d3]
        exact (fr u v (j - 1) hu.1 hu.2 hv.1 hv.2 (by omega) d4).symm
    · rcases cs j j0 j1 with ⟨d1, d2⟩ | ⟨d1, d2, d3, d4⟩
      · rw [e2, d2, if_pos rfl, if_neg e3]
        exact fr u v (i - 1) hu.1 hu.2 hv.1 hv.2 (by omega) e4
      · rw [e2, d2, if_neg e3, if_neg d3]
        exact F.ti u v u v (i - 1) (j - 1) hu.1 hu.2 hv.1 hv.2 hu.1 hu.2 hv.1 hv.2 (by omega) e4 (by omega) d4 (fun z => ne (by omega))
  · rcases cs i i0 i1 with ⟨e1, e2⟩ | ⟨e1, e2, e3, e4⟩
    · rw [e2, if_pos rfl]
      exact (fr u' v' j a1 a2 a3 a4 j0 j1).symm
    · rw [e2, if_neg e3]
      exact F.ti u v u' v' (i - 1) j hu.1 hu.2 hv.1 hv.2 a1 a2 a3 a4 (by omega) e4 j0 j1 (fun z => ne ⟨z.1.symm, z.2.1.symm⟩)
end
