/-! class and reference side by side: copy, spoil -/
/-- a letter more in the reference: its bytes, its size -/
def CQ (x : Nat) (sz : Int) (b : Int → Int) (g g' : cx_Q) : Prop := (∀ j, j ≠ 72 → j ≠ 73 → j ≠ 76 → j ≠ 68 → j ≠ 2 → j ≠ 10 → j ≠ 33 → cq_I g' x j = cq_I g x j) ∧ (cq_I g' x 72 = cq_I g x 72 + 1) ∧ (∀ o j, 1 ≤ o → o ≤ 65 → o ∉ tL → ¬ (o = 63 ∧ j = cq_I g x 72) → ¬ (o = 62 ∧ 100 * cq_I g x 72 ≤ j ∧ j < 100 * cq_I g x 72 + 100) → cq_I g' (x + o) j = cq_I g (x + o) j) ∧ (∀ o j, 1 ≤ o → o ≤ 65 → o ∉ tL → cq_J g' (x + o) j = cq_J g (x + o) j) ∧ (cq_I g' (x + 63) (cq_I g x 72) = sz) ∧ (∀ k, 0 ≤ k → k < sz → cq_I g' (x + 62) (100 * cq_I g x 72 + k) = b k)
theorem CQ.x_ {x : Nat} {sz : Int} {b : Int → Int} {g g' : cx_Q} (F_ : CQ x sz b g g') : ∀ j, j ≠ 72 → j ≠ 73 → j ≠ 76 → j ≠ 68 → j ≠ 2 → j ≠ 10 → j ≠ 33 → cq_I g' x j = cq_I g x j := F_.1
theorem CQ.x72 {x : Nat} {sz : Int} {b : Int → Int} {g g' : cx_Q} (F_ : CQ x sz b g g') : cq_I g' x 72 = cq_I g x 72 + 1 := F_.2.1
theorem CQ.I_ {x : Nat} {sz : Int} {b : Int → Int} {g g' : cx_Q} (F_ : CQ x sz b g g') : ∀ o j, 1 ≤ o → o ≤ 65 → o ∉ tL → ¬ (o = 63 ∧ j = cq_I g x 72) → ¬ (o = 62 ∧ 100 * cq_I g x 72 ≤ j ∧ j < 100 * cq_I g x 72 + 100) → cq_I g' (x + o) j = cq_I g (x + o) j := F_.2.2.1
theorem CQ.J_ {x : Nat} {sz : Int} {b : Int → Int} {g g' : cx_Q} (F_ : CQ x sz b g g') : ∀ o j, 1 ≤ o → o ≤ 65 → o ∉ tL → cq_J g' (x + o) j = cq_J g (x + o) j := F_.2.2.2.1
theorem CQ.z {x : Nat} {sz : Int} {b : Int → Int} {g g' : cx_Q} (F_ : CQ x sz b g g') : cq_I g' (x + 63) (cq_I g x 72) = sz := F_.2.2.2.2.1
theorem CQ.b_ {x : Nat} {sz : Int} {b : Int → Int} {g g' : cx_Q} (F_ : CQ x sz b g g') : ∀ k, 0 ≤ k → k < sz → cq_I g' (x + 62) (100 * cq_I g x 72 + k) = b k := F_.2.2.2.2.2
section
variable {Y : cx_Y} {K : Option cx_V → cx_Q → Prop} {c x : Nat} {n L Z : Int} {E : Nat → Option Int} {h0 : cx_Q} {h h' g g' : cx_Q} {pe : Int → Nat} {ro : Int → Int → Nat} {pa lb tp rd en op ob : Nat} {T Lf : Int → Nat}
theorem m_cp_v {l t : Int} (hn : l ≠ t) : ∀ (r : Nat) {k : Int} {g : cx_Q}, 0 ≤ k → k + r ≤ 100 → ∀ j, cq_I (m_cp x l t r k g) (x + 62) j = if 100 * t + k ≤ j ∧ j < 100 * t + k + r then cq_I g (x + 62) (100 * l + (j - 100 * t)) else cq_I g (x + 62) j
  | 0, k, g, h1, h2, j => by rw [m_cp, if_neg (by omega)]
  | r + 1, k, g, h1, h2, j => by
    have e : ∀ j, cq_I (cq_sI g (x + 62) (100 * t + k) (cq_I g (x + 62) (100 * l + k))) (x + 62) j = if j = 100 * t + k then cq_I g (x + 62) (100 * l + k) else cq_I g (x + 62) j := fun j => by
      rw [mm_sI]
      by_cases w : j = 100 * t + k
      · rw [if_pos ⟨rfl, w⟩, if_pos w]
      · rw [if_neg (fun z => w z.2), if_neg w]
    rw [m_cp, m_cp_v hn r (by omega) (by omega) j]
    by_cases w : 100 * t + (k + 1) ≤ j ∧ j < 100 * t + (k + 1) + (r : Int)
    · rw [if_pos w, e, if_neg (by omega), if_pos (by omega)]
    · rw [if_neg w, e]
      by_cases w2 : j = 100 * t + k
      · rw [if_pos w2, if_pos (by omega)]
        have : 100 * l + (j - 100 * t) = 100 * l + k := by omega
        rw [this]
      · rw [if_neg w2, if_neg (by omega)]
theorem copy_q {l : Int} (hl : 0 ≤ l ∧ l < cq_I g x 72) (hz : 0 ≤ cq_I g (x + 63) l ∧ cq_I g (x + 63) l ≤ 100) : CQ x (cq_I g (x + 63) l) (fun k => cq_I g (x + 62) (100 * l + k)) g (m_copy g x l) ∧ cq_I (m_copy g x l) x 73 = cq_I g x 73 + 1 ∧ cq_I (m_copy g x l) x 68 = cq_I g x 68 := by
  have q := m_cp_q (x := x) (l := l) (t := cq_I g x 72) (n := (cq_I g (x + 63) l).toNat) (k := 0) (h := g)
  have v := m_cp_v (x := x) (l := l) (t := cq_I g x 72) (by omega) (cq_I g (x + 63) l).toNat (k := 0) (g := g) (by omega) (by omega)
  have o : ∀ i j, i ≠ x + 62 → cq_I (m_cp x l (cq_I g x 72) (cq_I g (x + 63) l).toNat 0 g) i j = cq_I g i j := fun i j w => m_cp_I w
  unfold m_copy
  generalize m_cp x l (cq_I g x 72) (cq_I g (x + 63) l).toNat 0 g = m at q v o
  have ox : ∀ j, cq_I m x j = cq_I g x j := fun j => o x j (by omega)
  refine ⟨⟨fun j w1 w2 _ _ _ _ _ => ?_, ?_, fun o' j h1 h2 h3 w1 w2 => ?_, fun o' j h1 h2 h3 => ?_, ?_, fun k k0 k1 => ?_⟩, ?_, ?_⟩
  · rw [mm_sI, if_neg (fun z => w2 z.2), mm_sI, if_neg (fun z => w1 z.2), mm_sI, if_neg (fun z => by omega), ox]
  · rw [mm_sI, if_neg (fun z => absurd z.2 (by decide)), mm_sI, if_pos ⟨rfl, rfl⟩]
  · rw [mm_sI, if_neg (fun z => by omega), mm_sI, if_neg (fun z => by omega), mm_sI, if_neg (fun z => w1 ⟨by omega, z.2⟩)]
    by_cases e : o' = 62
    · rw [e, v, if_neg (fun z => w2 ⟨e, by omega, by omega⟩)]
    · exact o (x + o') j (by omega)
  · rw [mm_JI, mm_JI, mm_JI, q.2.2.2.1]
  · rw [mm_sI, if_neg (fun z => by omega), mm_sI, if_neg (fun z => by omega), mm_sI, if_pos ⟨rfl, rfl⟩]
  · rw [mm_sI, if_neg (fun z => by omega), mm_sI, if_neg (fun z => by omega), mm_sI, if_neg (fun z => by omega), v, if_pos (by omega)]
    have : 100 * l + (100 * cq_I g x 72 + k - 100 * cq_I g x 72) = 100 * l + k := by omega
    rw [this]
  · rw [mm_sI, if_pos ⟨rfl, rfl⟩]
  · rw [mm_sI, if_neg (fun z => absurd z.2 (by decide)), mm_sI, if_neg (fun z => absurd z.2 (by decide)), mm_sI, if_neg (fun z => by omega), ox]
/-- a letter more at both sides: t the new one's cell; fs what is told of the objects themselves -/
theorem fx_more (F : FX c x n pe ro pa lb tp rd en op ob T Lf h g) {P : Nat → Prop} {t : Nat} {sz : Int} {b : Int → Int} (Q : CQ x sz b g g') (hz : 0 ≤ sz ∧ sz ≤ 100) (hr : cq_I g x 72 < 80) (e : evx P h h') (hP : ∀ a, P a → a = c ∨ a = lb) (ft : cq_s h t = 99) (st : cq_s h' t = 2) (st1 : cq_s h' (t + 1) = 100) (at0 : cq_A h' t 0 = some (t + 1)) (zt : cq_z h' (t + 1) = sz) (bt : ∀ k, 0 ≤ k → k < sz → cq_I h' (t + 1) k = b k) (eA : cq_A h' c = cq_A h c) (eL : ∀ j, cq_A h' lb j = if j = cq_I g x 72 then some t else cq_A h lb j) (fs : FS x c tp rd h' g') : FX c x n pe ro pa lb tp rd en op ob T (fun l => if l = cq_I g x 72 then t else Lf l) h' g' := by
  have l80 := F.l80
  have x72 := Q.x72
  refine F.upL e (fun o j h1 h2 h3 w => ⟨Q.I_ o j h1 h2 h3 (by omega) (by omega), Q.J_ o j h1 h2 h3⟩) (fun a w => ?_) eA (Q.x_ 0 (by decide) (by decide) (by decide) (by decide) (by decide) (by decide) (by decide)) fs (by omega) (fun l l0 l1 => ?_) (fun l m l0 l1 l2 => ?_)
  · rcases hP a w with rfl | rfl
    · exact Or.inl F.fs.s0
    · exact Or.inr (Or.inl F.s1)
  · by_cases w : l = cq_I g x 72
    · rw [eL, if_pos w, w]
      rw [if_pos rfl]
      exact ⟨rfl, st, st1, at0, by rw [zt, Q.z], by rw [Q.z]; exact hz, fun k k0 k1 => by rw [Q.z] at k1; rw [bt k k0 k1, Q.b_ k k0 k1]⟩
    · rw [eL, if_neg w]
      rw [if_neg w]
      obtain ⟨f1, f2⟩ := F.fl l l0 (by omega)
      have np : ∀ {a k : Nat}, cq_s h a = k → k ≠ 9 → k ≠ 102 → ¬ P a := fun q w1 w2 z => by
        rcases hP _ z with y | y
        · rw [y, F.fs.s0] at q; exact w1 q.symm
        · rw [y, F.s1] at q; exact w2 q.symm
      exact ⟨f1, f2.ex e (np f2.s0 (by decide) (by decide)) (np f2.s1 (by decide) (by decide)) (Q.I_ 63 l (by decide) (by decide) (by decide) (fun z => w z.2) (by omega)) (fun k k0 k1 => Q.I_ 62 _ (by decide) (by decide) (by decide) (by omega) (by omega))⟩
  · have nt : ∀ i, 0 ≤ i → i < cq_I g x 72 → Lf i ≠ t := fun i i0 i1 q => by
      have := (F.fl i i0 i1).2.s0
      rw [q, ft] at this
      exact absurd this (by decide)
    rw [if_neg (show ¬ l = cq_I g x 72 by omega)]
    by_cases w : m = cq_I g x 72
    · rw [if_pos w]
      exact nt l l0 (by omega)
    · rw [if_neg w]
      exact F.li l m l0 l1 (by omega)
theorem f_X10_copy (hY : cY Y) {l : Int} (H : CI c n L Z E h0 [] h) (hZ : Z ≤ 1000000) (F : FX c x n pe ro pa lb tp rd en op ob T Lf h g) (hB : ¬ (0 ≤ l ∧ l < cq_I g x 72) → K (some (.inl (-1))) h) (hF : 0 ≤ l ∧ l < cq_I g x 72 → cq_I g x 72 = 80 → K (some (.inl (-3))) h) (hK : 0 ≤ l ∧ l < cq_I g x 72 → cq_I g x 72 ≠ 80 → ∀ h' Lf', CI c n L (Z + 1) E h0 [] h' → FX c x n pe ro pa lb tp rd en op ob T Lf' h' (m_copy g x l) → (∀ k, k ≠ cq_I g x 72 → Lf' k = Lf k) → cq_A h' (Lf' (cq_I g x 72)) 2 = cq_A h (Lf l) 2 → cq_I h' (Lf' (cq_I g x 72)) 3 = cq_I h (Lf l) 3 → K (some (.inl (cq_I g x 72))) h') : cw Y mi_X10_copy K 0 [some (.inr (.inr (some c))), some (.inl l)] [] h 2 104 := by
  have hc := H.cs
  have i2 := H.i9_2 hc
  have i3 := H.i9_3 hc
  have fs := F.fs
  have lc := fs.lc
  have l80 := F.l80
  refine bx_X10_copy_0 hY (pf2_ok hY) ?_
  simp only [wp_iconst, wp_bipush, wp_sipush, wp_ldc, wp_ldc2_w, wp_lconst0, wp_lconst1, wp_aconst_null, wp_iload_0, wp_istore_0, wp_iload_1, wp_istore_1, wp_iload_2, wp_istore_2, wp_iload_3, wp_istore_3, wp_iload, wp_istore, wp_lload_0, wp_lstore_0, wp_lload_1, wp_lstore_1, wp_lload_2, wp_lstore_2, wp_lload_3, wp_lstore_3, wp_lload, wp_lstore, wp_aload_0, wp_astore_0, wp_aload_1, wp_astore_1, wp_aload_2, wp_astore_2, wp_aload_3, wp_astore_3, wp_aload, wp_astore, wp_iinc, wp_iadd, wp_isub, wp_imul, wp_iand, wp_ior, wp_ixor, wp_ishl, wp_ishr, wp_iushr, wp_irem, wp_ladd, wp_lsub, wp_lmul, wp_land, wp_lor, wp_lxor, wp_lshl, wp_lshr, wp_lushr, wp_lrem, wp_lcmp, wp_i2l, wp_l2i, wp_dupI, wp_dupA, wp_dup2J, wp_dup2IA, wp_popI, wp_popA, wp_pop2, wp_goto, wp_if_eq, wp_icmp_eq, wp_if_ne, wp_icmp_ne, wp_if_lt, wp_icmp_lt, wp_if_ge, wp_icmp_ge, wp_if_gt, wp_icmp_gt, wp_if_le, wp_icmp_le, wp_ifnull, wp_ifnonnull, wp_acmp_eq, wp_acmp_ne, wp_tableswitch, wp_get0, wp_put0, wp_get1, wp_put1, wp_get2, wp_put2, wp_get3, wp_put3, wp_new, wp_newarray, wp_anewarray, wp_alen, wp_iaload, wp_laload, wp_baload, wp_aaload, wp_iastore, wp_lastore, wp_bastore, wp_aastore, wp_return, wp_ireturnI, wp_ireturnZ, wp_lreturn, wp_areturnO, wp_areturnA, wp_max, wp_min, wp_obj, wp_virt, wp_nil, ld_I0, ld_Is, ld_J0, ld_Js, ld_A0, ld_As, ha_0, ha_s, cx_put1, cx_put2, cx_dl, cx_tgt, true_and, and_true, Nat.reduceAdd, Nat.reduceSub, Int.reduceAdd, Int.reduceNeg, Int.reduceToNat, Int.reduceSub, Int.cast_ofNat_Int, List.take_succ_cons, List.take_zero, List.drop_succ_cons, List.drop_zero, List.take_nil, List.drop_nil, Option.toList_some, Option.toList_none, List.cons_append, List.nil_append, wp_spec, ne_eq, Nat.reduceEqDiff, not_false_eq_true, true_or, or_true]
  refine cl_X10_isLetter (Nat.le_of_ble_eq_true rfl) hc (by omega) (by omega) (c_X10_isLetter hY H (fun q => ?_) (fun hi => ?_))
  · refine bx_X10_copy_5 hY (pf2_ok hY) ?_
    simp only [wp_iconst, wp_bipush, wp_sipush, wp_ldc, wp_ldc2_w, wp_lconst0, wp_lconst1, wp_aconst_null, wp_iload_0, wp_istore_0, wp_iload_1, wp_istore_1, wp_iload_2, wp_istore_2, wp_iload_3, wp_istore_3, wp_iload, wp_istore, wp_lload_0, wp_lstore_0, wp_lload_1, wp_lstore_1, wp_lload_2, wp_lstore_2, wp_lload_3, wp_lstore_3, wp_lload, wp_lstore, wp_aload_0, wp_astore_0, wp_aload_1, wp_astore_1, wp_aload_2, wp_astore_2, wp_aload_3, wp_astore_3, wp_aload, wp_astore, wp_iinc, wp_iadd, wp_isub, wp_imul, wp_iand, wp_ior, wp_ixor, wp_ishl, wp_ishr, wp_iushr, wp_irem, wp_ladd, wp_lsub, wp_lmul, wp_land, wp_lor, wp_lxor, wp_lshl, wp_lshr, wp_lushr, wp_lrem, wp_lcmp, wp_i2l, wp_l2i, wp_dupI, wp_dupA, wp_dup2J, wp_dup2IA, wp_popI, wp_popA, wp_pop2, wp_goto, wp_if_eq, wp_icmp_eq, wp_if_ne, wp_icmp_ne, wp_if_lt, wp_icmp_lt, wp_if_ge, wp_icmp_ge, wp_if_gt, wp_icmp_gt, wp_if_le, wp_icmp_le, wp_ifnull, wp_ifnonnull, wp_acmp_eq, wp_acmp_ne, wp_tableswitch, wp_get0, wp_put0, wp_get1, wp_put1, wp_get2, wp_put2, wp_get3, wp_put3, wp_new, wp_newarray, wp_anewarray, wp_alen, wp_iaload, wp_laload, wp_baload, wp_aaload, wp_iastore, wp_lastore, wp_bastore, wp_aastore, wp_return, wp_ireturnI, wp_ireturnZ, wp_lreturn, wp_areturnO, wp_areturnA, wp_max, wp_min, wp_obj, wp_virt, wp_nil, ld_I0, ld_Is, ld_J0, ld_Js, ld_A0, ld_As, ha_0, ha_s, cx_put1, cx_put2, cx_dl, cx_tgt, true_and, and_true, Nat.reduceAdd, Nat.reduceSub, Int.reduceAdd, Int.reduceNeg, Int.reduceToNat, Int.reduceSub, Int.cast_ofNat_Int, List.take_succ_cons, List.take_zero, List.drop_succ_cons, List.drop_zero, List.take_nil, List.drop_nil, Option.toList_some, Option.toList_none, List.cons_append, List.nil_append, wp_spec, ne_eq, Nat.reduceEqDiff, not_false_eq_true, true_or, or_true, Nat.left_eq_add, Nat.add_eq_left, Nat.add_left_cancel_iff, Nat.reduceEqDiff, Int.reduceEq, false_and, and_false, if_false, if_true, and_self, true_and, true_or, or_true, false_or, or_false]
    exact ⟨fun w => absurd trivial w, fun _ => hB (by omega)⟩
  · refine bx_X10_copy_5 hY (pf2_ok hY) ?_
    simp only [wp_iconst, wp_bipush, wp_sipush, wp_ldc, wp_ldc2_w, wp_lconst0, wp_lconst1, wp_aconst_null, wp_iload_0, wp_istore_0, wp_iload_1, wp_istore_1, wp_iload_2, wp_istore_2, wp_iload_3, wp_istore_3, wp_iload, wp_istore, wp_lload_0, wp_lstore_0, wp_lload_1, wp_lstore_1, wp_lload_2, wp_lstore_2, wp_lload_3, wp_lstore_3, wp_lload, wp_lstore, wp_aload_0, wp_astore_0, wp_aload_1, wp_astore_1, wp_aload_2, wp_astore_2, wp_aload_3, wp_astore_3, wp_aload, wp_astore, wp_iinc, wp_iadd, wp_isub, wp_imul, wp_iand, wp_ior, wp_ixor, wp_ishl, wp_ishr, wp_iushr, wp_irem, wp_ladd, wp_lsub, wp_lmul, wp_land, wp_lor, wp_lxor, wp_lshl, wp_lshr, wp_lushr, wp_lrem, wp_lcmp, wp_i2l, wp_l2i, wp_dupI, wp_dupA, wp_dup2J, wp_dup2IA, wp_popI, wp_popA, wp_pop2, wp_goto, wp_if_eq, wp_icmp_eq, wp_if_ne, wp_icmp_ne, wp_if_lt, wp_icmp_lt, wp_if_ge, wp_icmp_ge, wp_if_gt, wp_icmp_gt, wp_if_le, wp_icmp_le, wp_ifnull, wp_ifnonnull, wp_acmp_eq, wp_acmp_ne, wp_tableswitch, wp_get0, wp_put0, wp_get1, wp_put1, wp_get2, wp_put2, wp_get3, wp_put3, wp_new, wp_newarray, wp_anewarray, wp_alen, wp_iaload, wp_laload, wp_baload, wp_aaload, wp_iastore, wp_lastore, wp_bastore, wp_aastore, wp_return, wp_ireturnI, wp_ireturnZ, wp_lreturn, wp_areturnO, wp_areturnA, wp_max, wp_min, wp_obj, wp_virt, wp_nil, ld_I0, ld_Is, ld_J0, ld_Js, ld_A0, ld_As, ha_0, ha_s, cx_put1, cx_put2, cx_dl, cx_tgt, true_and, and_true, Nat.reduceAdd, Nat.reduceSub, Int.reduceAdd, Int.reduceNeg, Int.reduceToNat, Int.reduceSub, Int.cast_ofNat_Int, List.take_succ_cons, List.take_zero, List.drop_succ_cons, List.drop_zero, List.take_nil, List.drop_nil, Option.toList_some, Option.toList_none, List.cons_append, List.nil_append, wp_spec, ne_eq, Nat.reduceEqDiff, not_false_eq_true, true_or, or_true, Nat.left_eq_add, Nat.add_eq_left, Nat.add_left_cancel_iff, Nat.reduceEqDiff, Int.reduceEq, false_and, and_false, if_false, if_true, and_self, true_and, true_or, or_true, false_or, or_false]
    refine ⟨fun _ => ?_, fun w => absurd (by decide) w⟩
    refine bx_X10_copy_10 hY (pf2_ok hY) ?_
    simp only [wp_iconst, wp_bipush, wp_sipush, wp_ldc, wp_ldc2_w, wp_lconst0, wp_lconst1, wp_aconst_null, wp_iload_0, wp_istore_0, wp_iload_1, wp_istore_1, wp_iload_2, wp_istore_2, wp_iload_3, wp_istore_3, wp_iload, wp_istore, wp_lload_0, wp_lstore_0, wp_lload_1, wp_lstore_1, wp_lload_2, wp_lstore_2, wp_lload_3, wp_lstore_3, wp_lload, wp_lstore, wp_aload_0, wp_astore_0, wp_aload_1, wp_astore_1, wp_aload_2, wp_astore_2, wp_aload_3, wp_astore_3, wp_aload, wp_astore, wp_iinc, wp_iadd, wp_isub, wp_imul, wp_iand, wp_ior, wp_ixor, wp_ishl, wp_ishr, wp_iushr, wp_irem, wp_ladd, wp_lsub, wp_lmul, wp_land, wp_lor, wp_lxor, wp_lshl, wp_lshr, wp_lushr, wp_lrem, wp_lcmp, wp_i2l, wp_l2i, wp_dupI, wp_dupA, wp_dup2J, wp_dup2IA, wp_popI, wp_popA, wp_pop2, wp_goto, wp_if_eq, wp_icmp_eq, wp_if_ne, wp_icmp_ne, wp_if_lt, wp_icmp_lt, wp_if_ge, wp_icmp_ge, wp_if_gt, wp_icmp_gt, wp_if_le, wp_icmp_le, wp_ifnull, wp_ifnonnull, wp_acmp_eq, wp_acmp_ne, wp_tableswitch, wp_get0, wp_put0, wp_get1, wp_put1, wp_get2, wp_put2, wp_get3, wp_put3, wp_new, wp_newarray, wp_anewarray, wp_alen, wp_iaload, wp_laload, wp_baload, wp_aaload, wp_iastore, wp_lastore, wp_bastore, wp_aastore, wp_return, wp_ireturnI, wp_ireturnZ, wp_lreturn, wp_areturnO, wp_areturnA, wp_max, wp_min, wp_obj, wp_virt, wp_nil, ld_I0, ld_Is, ld_J0, ld_Js, ld_A0, ld_As, ha_0, ha_s, cx_put1, cx_put2, cx_dl, cx_tgt, true_and, and_true, Nat.reduceAdd, Nat.reduceSub, Int.reduceAdd, Int.reduceNeg, Int.reduceToNat, Int.reduceSub, Int.cast_ofNat_Int, List.take_succ_cons, List.take_zero, List.drop_succ_cons, List.drop_zero, List.take_nil, List.drop_nil, Option.toList_some, Option.toList_none, List.cons_append, List.nil_append, wp_spec, ne_eq, Nat.reduceEqDiff, not_false_eq_true, true_or, or_true, hc]
    refine ⟨fun q => ?_, fun q => hF (by omega) (by omega)⟩
    have el := F.a1
    have sl := F.s1
    have zl : cq_z h lb = 80 := H.tz sl
    obtain ⟨e, fl⟩ := F.fl l hi.1 (by omega)
    have s := fl.s0
    have zr := fl.zr
    have sz := fl.sz
    refine bx_X10_copy_22 hY (pf2_ok hY) ?_
    simp only [wp_iconst, wp_bipush, wp_sipush, wp_ldc, wp_ldc2_w, wp_lconst0, wp_lconst1, wp_aconst_null, wp_iload_0, wp_istore_0, wp_iload_1, wp_istore_1, wp_iload_2, wp_istore_2, wp_iload_3, wp_istore_3, wp_iload, wp_istore, wp_lload_0, wp_lstore_0, wp_lload_1, wp_lstore_1, wp_lload_2, wp_lstore_2, wp_lload_3, wp_lstore_3, wp_lload, wp_lstore, wp_aload_0, wp_astore_0, wp_aload_1, wp_astore_1, wp_aload_2, wp_astore_2, wp_aload_3, wp_astore_3, wp_aload, wp_astore, wp_iinc, wp_iadd, wp_isub, wp_imul, wp_iand, wp_ior, wp_ixor, wp_ishl, wp_ishr, wp_iushr, wp_irem, wp_ladd, wp_lsub, wp_lmul, wp_land, wp_lor, wp_lxor, wp_lshl, wp_lshr, wp_lushr, wp_lrem, wp_lcmp, wp_i2l, wp_l2i, wp_dupI, wp_dupA, wp_dup2J, wp_dup2IA, wp_popI, wp_popA, wp_pop2, wp_goto, wp_if_eq, wp_icmp_eq, wp_if_ne, wp_icmp_ne, wp_if_lt, wp_icmp_lt, wp_if_ge, wp_icmp_ge, wp_if_gt, wp_icmp_gt, wp_if_le, wp_icmp_le, wp_ifnull, wp_ifnonnull, wp_acmp_eq, wp_acmp_ne, wp_tableswitch, wp_get0, wp_put0, wp_get1, wp_put1, wp_get2, wp_put2, wp_get3, wp_put3, wp_new, wp_newarray, wp_anewarray, wp_alen, wp_iaload, wp_laload, wp_baload, wp_aaload, wp_iastore, wp_lastore, wp_bastore, wp_aastore, wp_return, wp_ireturnI, wp_ireturnZ, wp_lreturn, wp_areturnO, wp_areturnA, wp_max, wp_min, wp_obj, wp_virt, wp_nil, ld_I0, ld_Is, ld_J0, ld_Js, ld_A0, ld_As, ha_0, ha_s, cx_put1, cx_put2, cx_dl, cx_tgt, true_and, and_true, Nat.reduceAdd, Nat.reduceSub, Int.reduceAdd, Int.reduceNeg, Int.reduceToNat, Int.reduceSub, Int.cast_ofNat_Int, List.take_succ_cons, List.take_zero, List.drop_succ_cons, List.drop_zero, List.take_nil, List.drop_nil, Option.toList_some, Option.toList_none, List.cons_append, List.nil_append, wp_spec, ne_eq, Nat.reduceEqDiff, not_false_eq_true, true_or, or_true, hc, el, sl, zl, e, ra_102]
    refine ⟨by omega, ?_⟩
    refine cl_X2_twin (Nat.le_of_ble_eq_true rfl) s (by omega) (by omega) (e_X2_twin hY H s fl.b0 (fun m G kg st a0 s1 z1 b1 a2 i3 => ?_))
    have gc := G.cs
    have gA : cq_A m c = cq_A h c := kg.A hc rfl
    have gl : cq_A m c 1 = some lb := by rw [gA]; exact el
    have gsl : cq_s m lb = 102 := kg.s sl (by decide)
    have gzl : cq_z m lb = 80 := G.tz gsl
    have gi : cq_I m c = cq_I h c := kg.I hc rfl
    have nc : ¬ c = lb := ns gc gsl (by decide)
    have G1 := G.more gl gsl st (by rw [gi]; omega)
    rw [gi] at G1
    refine bx_X10_copy_39 hY (pf2_ok hY) ?_
    simp only [wp_iconst, wp_bipush, wp_sipush, wp_ldc, wp_ldc2_w, wp_lconst0, wp_lconst1, wp_aconst_null, wp_iload_0, wp_istore_0, wp_iload_1, wp_istore_1, wp_iload_2, wp_istore_2, wp_iload_3, wp_istore_3, wp_iload, wp_istore, wp_lload_0, wp_lstore_0, wp_lload_1, wp_lstore_1, wp_lload_2, wp_lstore_2, wp_lload_3, wp_lstore_3, wp_lload, wp_lstore, wp_aload_0, wp_astore_0, wp_aload_1, wp_astore_1, wp_aload_2, wp_astore_2, wp_aload_3, wp_astore_3, wp_aload, wp_astore, wp_iinc, wp_iadd, wp_isub, wp_imul, wp_iand, wp_ior, wp_ixor, wp_ishl, wp_ishr, wp_iushr, wp_irem, wp_ladd, wp_lsub, wp_lmul, wp_land, wp_lor, wp_lxor, wp_lshl, wp_lshr, wp_lushr, wp_lrem, wp_lcmp, wp_i2l, wp_l2i, wp_dupI, wp_dupA, wp_dup2J, wp_dup2IA, wp_popI, wp_popA, wp_pop2, wp_goto, wp_if_eq, wp_icmp_eq, wp_if_ne, wp_icmp_ne, wp_if_lt, wp_icmp_lt, wp_if_ge, wp_icmp_ge, wp_if_gt, wp_icmp_gt, wp_if_le, wp_icmp_le, wp_ifnull, wp_ifnonnull, wp_acmp_eq, wp_acmp_ne, wp_tableswitch, wp_get0, wp_put0, wp_get1, wp_put1, wp_get2, wp_put2, wp_get3, wp_put3, wp_new, wp_newarray, wp_anewarray, wp_alen, wp_iaload, wp_laload, wp_baload, wp_aaload, wp_iastore, wp_lastore, wp_bastore, wp_aastore, wp_return, wp_ireturnI, wp_ireturnZ, wp_lreturn, wp_areturnO, wp_areturnA, wp_max, wp_min, wp_obj, wp_virt, wp_nil, ld_I0, ld_Is, ld_J0, ld_Js, ld_A0, ld_As, ha_0, ha_s, cx_put1, cx_put2, cx_dl, cx_tgt, true_and, and_true, Nat.reduceAdd, Nat.reduceSub, Int.reduceAdd, Int.reduceNeg, Int.reduceToNat, Int.reduceSub, Int.cast_ofNat_Int, List.take_succ_cons, List.take_zero, List.drop_succ_cons, List.drop_zero, List.take_nil, List.drop_nil, Option.toList_some, Option.toList_none, List.cons_append, List.nil_append, wp_spec, ne_eq, Nat.reduceEqDiff, not_false_eq_true, true_or, or_true, gc, gsl, gzl, gi, ra_102, mm_sI, mm_sJ, mm_sA, mm_IJ, mm_IA, mm_JI, mm_JA, mm_AI, mm_AJ, mm_ssI, mm_ssJ, mm_ssA, mm_zI, mm_zJ, mm_zA, mm_nI, mm_nJ, mm_nA, Nat.left_eq_add, Nat.add_eq_left, Nat.add_left_cancel_iff, Nat.reduceEqDiff, Int.reduceEq, false_and, and_false, if_false, if_true, and_self, true_and, true_or, or_true, false_or, or_false, cx_rg]
    (repeat' (with_reducible (first | refine And.intro ?_ ?_ | intro _)))
    all_goals (try omega)
    · exact st
    · have G2 := (G1.up (Z' := Z + 1) (by omega)).sI (a := c) (j := 3) (v := cq_I h c 3 + 1) gc (own_9 (by decide)) ⟨by omega, by omega⟩ rfl
      obtain ⟨Q, Q73, Q68⟩ := copy_q (g := g) (x := x) (l := l) (by omega) zr
      have rr : cq_I h c 2 + 1 - 1 = cq_I g x 72 := by omega
      have ans : cq_I h c 2 + 1 - 1 = cq_I g x 72 := rr
      first | rw [ans] | skip
      have fin : ∀ h', CI c n L (Z + 1) E h0 [] h' → h' = cq_sI (cq_sI (cq_sA m lb (cq_I h c 2) (some h.1)) c 2 (cq_I h c 2 + 1)) c 3 (cq_I h c 3 + 1) → K (some (.inl (cq_I g x 72))) h' := by
        intro h' C e'
        have nlc : ¬ lb = c := fun z => nc z.symm
        have ft : cq_s h h.1 = 99 := H.al h.1 (Nat.le_refl _)
        have nt : ¬ h.1 = lb := fun z => by rw [z, sl] at ft; exact absurd ft (by decide)
        have ntc : ¬ h.1 = c := fun z => by rw [z, hc] at ft; exact absurd ft (by decide)
        have ft1 : cq_s h (h.1 + 1) = 99 := H.al _ (by omega)
        have nt1 : ¬ h.1 + 1 = c := fun z => by rw [z, hc] at ft1; exact absurd ft1 (by decide)
        have eI : ∀ j, cq_I h' c j = if j = 3 then cq_I h c 3 + 1 else if j = 2 then cq_I h c 2 + 1 else cq_I h c j := fun j => by
          rw [e']
          simp only [mm_sI, mm_sJ, mm_sA, mm_IJ, mm_IA, mm_JI, mm_JA, mm_AI, mm_AJ, mm_ssI, mm_ssJ, mm_ssA, mm_zI, mm_zJ, mm_zA, mm_nI, mm_nJ, mm_nA, Nat.left_eq_add, Nat.add_eq_left, Nat.add_left_cancel_iff, Nat.reduceEqDiff, Int.reduceEq, false_and, and_false, if_false, if_true, and_self, true_and, true_or, or_true, false_or, or_false]
          rw [gi]
        have eIo : ∀ j, j ≠ 3 → j ≠ 2 → cq_I h' c j = cq_I h c j := fun j w1 w2 => by rw [eI, if_neg w1, if_neg w2]
        have eA' : cq_A h' c = cq_A h c := by
          rw [← gA, e']
          funext j
          simp only [mm_sI, mm_sJ, mm_sA, mm_IJ, mm_IA, mm_JI, mm_JA, mm_AI, mm_AJ, mm_ssI, mm_ssJ, mm_ssA, mm_zI, mm_zJ, mm_zA, mm_nI, mm_nJ, mm_nA, nc, Nat.left_eq_add, Nat.add_eq_left, Nat.add_left_cancel_iff, Nat.reduceEqDiff, Int.reduceEq, false_and, and_false, if_false, if_true, and_self, true_and, true_or, or_true, false_or, or_false]
        have ex : evx (fun a => a = c ∨ a = lb) h h' := by
          rw [e']
          exact ((kg.x.sA (Or.inr rfl)).sI (Or.inl rfl)).sI (Or.inl rfl)
        have gx := Q.x_
        refine hK (by omega) (by omega) h' _ C (fx_more F Q zr (by omega) ex (fun a w => w) ft (by rw [e']; exact st) (by rw [e']; exact s1) ?_ (by rw [e']; exact z1.trans sz) (fun k k0 k1 => ?_) eA' (fun j => ?_) ?_) (fun k w => if_neg w) (by rw [if_pos rfl, e']; simp only [mm_sI, mm_sJ, mm_sA, mm_IJ, mm_IA, mm_JI, mm_JA, mm_AI, mm_AJ, mm_ssI, mm_ssJ, mm_ssA, mm_zI, mm_zJ, mm_zA, mm_nI, mm_nJ, mm_nA, nt, Nat.left_eq_add, Nat.add_eq_left, Nat.add_left_cancel_iff, Nat.reduceEqDiff, Int.reduceEq, false_and, and_false, if_false, if_true, and_self, true_and, true_or, or_true, false_or, or_false]; exact a2) (by rw [if_pos rfl, e']; simp only [mm_sI, mm_sJ, mm_sA, mm_IJ, mm_IA, mm_JI, mm_JA, mm_AI, mm_AJ, mm_ssI, mm_ssJ, mm_ssA, mm_zI, mm_zJ, mm_zA, mm_nI, mm_nJ, mm_nA, ntc, Nat.left_eq_add, Nat.add_eq_left, Nat.add_left_cancel_iff, Nat.reduceEqDiff, Int.reduceEq, false_and, and_false, if_false, if_true, and_self, true_and, true_or, or_true, false_or, or_false]; exact i3)
        · rw [e']
          simp only [mm_sI, mm_sJ, mm_sA, mm_IJ, mm_IA, mm_JI, mm_JA, mm_AI, mm_AJ, mm_ssI, mm_ssJ, mm_ssA, mm_zI, mm_zJ, mm_zA, mm_nI, mm_nJ, mm_nA, nt, Nat.left_eq_add, Nat.add_eq_left, Nat.add_left_cancel_iff, Nat.reduceEqDiff, Int.reduceEq, false_and, and_false, if_false, if_true, and_self, true_and, true_or, or_true, false_or, or_false]
          exact a0
        · rw [e']
          simp only [mm_sI, mm_sJ, mm_sA, mm_IJ, mm_IA, mm_JI, mm_JA, mm_AI, mm_AJ, mm_ssI, mm_ssJ, mm_ssA, mm_zI, mm_zJ, mm_zA, mm_nI, mm_nJ, mm_nA, nt1, Nat.left_eq_add, Nat.add_eq_left, Nat.add_left_cancel_iff, Nat.reduceEqDiff, Int.reduceEq, false_and, and_false, if_false, if_true, and_self, true_and, true_or, or_true, false_or, or_false]
          rw [b1 k k0 (by omega)]
          exact fl.by_ k k0 k1
        · rw [e']
          simp only [mm_sI, mm_sJ, mm_sA, mm_IJ, mm_IA, mm_JI, mm_JA, mm_AI, mm_AJ, mm_ssI, mm_ssJ, mm_ssA, mm_zI, mm_zJ, mm_zA, mm_nI, mm_nJ, mm_nA, Nat.left_eq_add, Nat.add_eq_left, Nat.add_left_cancel_iff, Nat.reduceEqDiff, Int.reduceEq, false_and, and_false, if_false, if_true, and_self, true_and, true_or, or_true, false_or, or_false]
          rw [kg.A sl rfl, lc]
        · refine ⟨ex.s fs.s0 (by decide), ex.s fs.s1 (by decide), ex.s fs.s2 (by decide), by rw [eA']; exact fs.a8, by rw [eA']; exact fs.a10, by rw [eI, if_neg (by decide), if_pos rfl, Q.x72, fs.lc], by rw [eI, if_pos rfl, Q73, fs.cc], by rw [eIo 4 (by decide) (by decide), gx 63 (by decide) (by decide) (by decide) (by decide) (by decide) (by decide) (by decide)]; exact fs.bc, by rw [eIo 5 (by decide) (by decide), gx 85 (by decide) (by decide) (by decide) (by decide) (by decide) (by decide) (by decide)]; exact fs.mc, by rw [eIo 6 (by decide) (by decide), gx 84 (by decide) (by decide) (by decide) (by decide) (by decide) (by decide) (by decide)]; exact fs.oc, by rw [eIo 7 (by decide) (by decide), gx 86 (by decide) (by decide) (by decide) (by decide) (by decide) (by decide) (by decide)]; exact fs.kc, by rw [eIo 9 (by decide) (by decide), Q68]; exact fs.tc, by rw [eIo 11 (by decide) (by decide), gx 75 (by decide) (by decide) (by decide) (by decide) (by decide) (by decide) (by decide)]; exact fs.rc, fun k k0 k1 => ?_, fun k k0 k1 => ?_, fun k k0 k1 => by rw [Q68] at k1; rw [Q.I_ 61 k (by decide) (by decide) (by decide) (by omega) (by omega)]; exact fs.tb k k0 k1⟩
          · rw [Q68] at k1
            rw [ex.I fs.s1 rfl (fun z => z.elim (ns fs.s1 fs.s0 (by decide)) (ns fs.s1 F.s1 (by decide))), Q.I_ 61 k (by decide) (by decide) (by decide) (by omega) (by omega)]
            exact fs.tp_ k k0 k1
          · rw [gx 75 (by decide) (by decide) (by decide) (by decide) (by decide) (by decide) (by decide)] at k1
            rw [ex.I fs.s2 rfl (fun z => z.elim (ns fs.s2 fs.s0 (by decide)) (ns fs.s2 F.s1 (by decide))), Q.I_ 65 k (by decide) (by decide) (by decide) (by omega) (by omega)]
            exact fs.rd_ k k0 k1
      have := fin _ G2 rfl
      first | exact this | (rw [← ans] at this; exact this)
/-- a byte of a letter is other -/
theorem fx_spoil (F : FX c x n pe ro pa lb tp rd en op ob T Lf h g) {l p v : Int} (hl : 0 ≤ l ∧ l < cq_I g x 72) (hp : 0 ≤ p ∧ p < cq_I g (x + 63) l) : FX c x n pe ro pa lb tp rd en op ob T Lf (cq_sI h (Lf l + 1) p v) (cq_sI g (x + 62) (100 * l + p) v) := by
  obtain ⟨f1, f2⟩ := F.fl l hl.1 hl.2
  have zr := f2.zr
  have fs := F.fs
  have ex : evx (fun a => a = Lf l + 1) h (cq_sI h (Lf l + 1) p v) := evx.sI (P := fun a => a = Lf l + 1) evx.refl rfl
  have nc : ¬ c = Lf l + 1 := ns fs.s0 f2.s1 (by decide)
  have gx : ∀ j, cq_I (cq_sI g (x + 62) (100 * l + p) v) x j = cq_I g x j := fun j => by rw [mm_sI, if_neg (fun z => by omega)]
  have go : ∀ o j, ¬ (o = 62 ∧ j = 100 * l + p) → cq_I (cq_sI g (x + 62) (100 * l + p) v) (x + o) j = cq_I g (x + o) j := fun o j w => by rw [mm_sI, if_neg (fun z => w ⟨by omega, z.2⟩)]
  refine F.upL ex (fun o j h1 h2 h3 w => ⟨go o j (fun z => w (Or.inl z.1)), rfl⟩) (fun a w => Or.inr (Or.inr (Or.inr (by rw [w]; exact f2.s1)))) rfl (gx 0) (fs.ex ex nc (ns fs.s1 f2.s1 (by decide)) (ns fs.s2 f2.s1 (by decide)) (fun j _ => gx j) (fun j => go 61 j (by omega)) (fun j => go 65 j (by omega))) (by rw [gx]; exact F.l80) (fun m m0 m1 => ?_) (by rw [gx]; exact F.li)
  rw [gx] at m1
  obtain ⟨d1, d2⟩ := F.fl m m0 m1
  refine ⟨d1, ?_⟩
  by_cases w : m = l
  · rw [w]
    refine ⟨f2.s0, f2.s1, f2.b0, by rw [go 63 l (by omega)]; exact f2.sz, by rw [go 63 l (by omega)]; exact zr, fun k k0 k1 => ?_⟩
    rw [go 63 l (by omega)] at k1
    rw [mm_sI, mm_sI]
    by_cases w2 : k = p
    · rw [if_pos ⟨rfl, w2⟩, if_pos ⟨rfl, by omega⟩]
    · rw [if_neg (fun z => w2 z.2), if_neg (fun z => w2 (by omega))]
      exact f2.by_ k k0 k1
  · have ne : Lf m ≠ Lf l := by
      rcases Int.lt_or_lt_of_ne w with q | q
      · exact F.li m l m0 q hl.2
      · exact (F.li l m hl.1 q m1).symm
    exact d2.ex ex (ns d2.s0 f2.s1 (by decide)) (fun z => ne (by omega)) (go 63 m (by omega)) (fun k k0 k1 => go 62 _ (by omega))
theorem f_X10_spoil (hY : cY Y) {l p m : Int} (H : CI c n L Z E h0 [] h) (F : FX c x n pe ro pa lb tp rd en op ob T Lf h g) (hB : ¬ ((0 ≤ l ∧ l < cq_I g x 72) ∧ 0 ≤ p ∧ p < cq_I g (x + 63) l ∧ 1 ≤ m ∧ m ≤ 255) → K (some (.inl (-1))) h) (hK : (0 ≤ l ∧ l < cq_I g x 72) ∧ 0 ≤ p ∧ p < cq_I g (x + 63) l ∧ 1 ≤ m ∧ m ≤ 255 → ∀ h', CI c n L Z E h0 [] h' → FX c x n pe ro pa lb tp rd en op ob T Lf h' (cq_sI g (x + 62) (100 * l + p) (cx_xor (cq_I g (x + 62) (100 * l + p)) m)) → K (some (.inl (cx_xor (cq_I g (x + 62) (100 * l + p)) m))) h') : cw Y mi_X10_spoil K 0 [some (.inr (.inr (some c))), some (.inl l), some (.inl p), some (.inl m), none] [] h 0 0 := by
  have hc := H.cs
  have i2 := H.i9_2 hc
  have lc := F.fs.lc
  have j20 : ¬ ((0 ≤ l ∧ l < cq_I g x 72) ∧ 0 ≤ p ∧ p < cq_I g (x + 63) l ∧ 1 ≤ m ∧ m ≤ 255) → ∀ lv, cw Y mi_X10_spoil K 20 lv [] h 0 0 := by
    intro q lv
    refine bx_X10_spoil_20 hY (pf2_ok hY) ?_
    simp only [wp_iconst, wp_bipush, wp_sipush, wp_ldc, wp_ldc2_w, wp_lconst0, wp_lconst1, wp_aconst_null, wp_iload_0, wp_istore_0, wp_iload_1, wp_istore_1, wp_iload_2, wp_istore_2, wp_iload_3, wp_istore_3, wp_iload, wp_istore, wp_lload_0, wp_lstore_0, wp_lload_1, wp_lstore_1, wp_lload_2, wp_lstore_2, wp_lload_3, wp_lstore_3, wp_lload, wp_lstore, wp_aload_0, wp_astore_0, wp_aload_1, wp_astore_1, wp_aload_2, wp_astore_2, wp_aload_3, wp_astore_3, wp_aload, wp_astore, wp_iinc, wp_iadd, wp_isub, wp_imul, wp_iand, wp_ior, wp_ixor, wp_ishl, wp_ishr, wp_iushr, wp_irem, wp_ladd, wp_lsub, wp_lmul, wp_land, wp_lor, wp_lxor, wp_lshl, wp_lshr, wp_lushr, wp_lrem, wp_lcmp, wp_i2l, wp_l2i, wp_dupI, wp_dupA, wp_dup2J, wp_dup2IA, wp_popI, wp_popA, wp_pop2, wp_goto, wp_if_eq, wp_icmp_eq, wp_if_ne, wp_icmp_ne, wp_if_lt, wp_icmp_lt, wp_if_ge, wp_icmp_ge, wp_if_gt, wp_icmp_gt, wp_if_le, wp_icmp_le, wp_ifnull, wp_ifnonnull, wp_acmp_eq, wp_acmp_ne, wp_tableswitch, wp_get0, wp_put0, wp_get1, wp_put1, wp_get2, wp_put2, wp_get3, wp_put3, wp_new, wp_newarray, wp_anewarray, wp_alen, wp_iaload, wp_laload, wp_baload, wp_aaload, wp_iastore, wp_lastore, wp_bastore, wp_aastore, wp_return, wp_ireturnI, wp_ireturnZ, wp_lreturn, wp_areturnO, wp_areturnA, wp_max, wp_min, wp_obj, wp_virt, wp_nil, ld_I0, ld_Is, ld_J0, ld_Js, ld_A0, ld_As, ha_0, ha_s, cx_put1, cx_put2, cx_dl, cx_tgt, true_and, and_true, Nat.reduceAdd, Nat.reduceSub, Int.reduceAdd, Int.reduceNeg, Int.reduceToNat, Int.reduceSub, Int.cast_ofNat_Int, List.take_succ_cons, List.take_zero, List.drop_succ_cons, List.drop_zero, List.take_nil, List.drop_nil, Option.toList_some, Option.toList_none, List.cons_append, List.nil_append, wp_spec, ne_eq, Nat.reduceEqDiff, not_false_eq_true, true_or, or_true]
    exact hB q
  refine bx_X10_spoil_0 hY (pf2_ok hY) ?_
  simp only [wp_iconst, wp_bipush, wp_sipush, wp_ldc, wp_ldc2_w, wp_lconst0, wp_lconst1, wp_aconst_null, wp_iload_0, wp_istore_0, wp_iload_1, wp_istore_1, wp_iload_2, wp_istore_2, wp_iload_3, wp_istore_3, wp_iload, wp_istore, wp_lload_0, wp_lstore_0, wp_lload_1, wp_lstore_1, wp_lload_2, wp_lstore_2, wp_lload_3, wp_lstore_3, wp_lload, wp_lstore, wp_aload_0, wp_astore_0, wp_aload_1, wp_astore_1, wp_aload_2, wp_astore_2, wp_aload_3, wp_astore_3, wp_aload, wp_astore, wp_iinc, wp_iadd, wp_isub, wp_imul, wp_iand, wp_ior, wp_ixor, wp_ishl, wp_ishr, wp_iushr, wp_irem, wp_ladd, wp_lsub, wp_lmul, wp_land, wp_lor, wp_lxor, wp_lshl, wp_lshr, wp_lushr, wp_lrem, wp_lcmp, wp_i2l, wp_l2i, wp_dupI, wp_dupA, wp_dup2J, wp_dup2IA, wp_popI, wp_popA, wp_pop2, wp_goto, wp_if_eq, wp_icmp_eq, wp_if_ne, wp_icmp_ne, wp_if_lt, wp_icmp_lt, wp_if_ge, wp_icmp_ge, wp_if_gt, wp_icmp_gt, wp_if_le, wp_icmp_le, wp_ifnull, wp_ifnonnull, wp_acmp_eq, wp_acmp_ne, wp_tableswitch, wp_get0, wp_put0, wp_get1, wp_put1, wp_get2, wp_put2, wp_get3, wp_put3, wp_new, wp_newarray, wp_anewarray, wp_alen, wp_iaload, wp_laload, wp_baload, wp_aaload, wp_iastore, wp_lastore, wp_bastore, wp_aastore, wp_return, wp_ireturnI, wp_ireturnZ, wp_lreturn, wp_areturnO, wp_areturnA, wp_max, wp_min, wp_obj, wp_virt, wp_nil, ld_I0, ld_Is, ld_J0, ld_Js, ld_A0, ld_As, ha_0, ha_s, cx_put1, cx_put2, cx_dl, cx_tgt, true_and, and_true, Nat.reduceAdd, Nat.reduceSub, Int.reduceAdd, Int.reduceNeg, Int.reduceToNat, Int.reduceSub, Int.cast_ofNat_Int, List.take_succ_cons, List.take_zero, List.drop_succ_cons, List.drop_zero, List.take_nil, List.drop_nil, Option.toList_some, Option.toList_none, List.cons_append, List.nil_append, wp_spec, ne_eq, Nat.reduceEqDiff, not_false_eq_true, true_or, or_true]
  refine cl_X10_isLetter (Nat.le_of_ble_eq_true rfl) hc (Nat.le_refl _) (Nat.le_refl _) (c_X10_isLetter hY H (fun q => ?_) (fun hi => ?_))
  · refine bx_X10_spoil_5 hY (pf2_ok hY) ?_
    simp only [wp_iconst, wp_bipush, wp_sipush, wp_ldc, wp_ldc2_w, wp_lconst0, wp_lconst1, wp_aconst_null, wp_iload_0, wp_istore_0, wp_iload_1, wp_istore_1, wp_iload_2, wp_istore_2, wp_iload_3, wp_istore_3, wp_iload, wp_istore, wp_lload_0, wp_lstore_0, wp_lload_1, wp_lstore_1, wp_lload_2, wp_lstore_2, wp_lload_3, wp_lstore_3, wp_lload, wp_lstore, wp_aload_0, wp_astore_0, wp_aload_1, wp_astore_1, wp_aload_2, wp_astore_2, wp_aload_3, wp_astore_3, wp_aload, wp_astore, wp_iinc, wp_iadd, wp_isub, wp_imul, wp_iand, wp_ior, wp_ixor, wp_ishl, wp_ishr, wp_iushr, wp_irem, wp_ladd, wp_lsub, wp_lmul, wp_land, wp_lor, wp_lxor, wp_lshl, wp_lshr, wp_lushr, wp_lrem, wp_lcmp, wp_i2l, wp_l2i, wp_dupI, wp_dupA, wp_dup2J, wp_dup2IA, wp_popI, wp_popA, wp_pop2, wp_goto, wp_if_eq, wp_icmp_eq, wp_if_ne, wp_icmp_ne, wp_if_lt, wp_icmp_lt, wp_if_ge, wp_icmp_ge, wp_if_gt, wp_icmp_gt, wp_if_le, wp_icmp_le, wp_ifnull, wp_ifnonnull, wp_acmp_eq, wp_acmp_ne, wp_tableswitch, wp_get0, wp_put0, wp_get1, wp_put1, wp_get2, wp_put2, wp_get3, wp_put3, wp_new, wp_newarray, wp_anewarray, wp_alen, wp_iaload, wp_laload, wp_baload, wp_aaload, wp_iastore, wp_lastore, wp_bastore, wp_aastore, wp_return, wp_ireturnI, wp_ireturnZ, wp_lreturn, wp_areturnO, wp_areturnA, wp_max, wp_min, wp_obj, wp_virt, wp_nil, ld_I0, ld_Is, ld_J0, ld_Js, ld_A0, ld_As, ha_0, ha_s, cx_put1, cx_put2, cx_dl, cx_tgt, true_and, and_true, Nat.reduceAdd, Nat.reduceSub, Int.reduceAdd, Int.reduceNeg, Int.reduceToNat, Int.reduceSub, Int.cast_ofNat_Int, List.take_succ_cons, List.take_zero, List.drop_succ_cons, List.drop_zero, List.take_nil, List.drop_nil, Option.toList_some, Option.toList_none, List.cons_append, List.nil_append, wp_spec, ne_eq, Nat.reduceEqDiff, not_false_eq_true, true_or, or_true, Nat.left_eq_add, Nat.add_eq_left, Nat.add_left_cancel_iff, Nat.reduceEqDiff, Int.reduceEq, false_and, and_false, if_false, if_true, and_self, true_and, true_or, or_true, false_or, or_false]
    exact ⟨fun _ => j20 (by omega) _, fun w => absurd trivial w⟩
  · refine bx_X10_spoil_5 hY (pf2_ok hY) ?_
    simp only [wp_iconst, wp_bipush, wp_sipush, wp_ldc, wp_ldc2_w, wp_lconst0, wp_lconst1, wp_aconst_null, wp_iload_0, wp_istore_0, wp_iload_1, wp_istore_1, wp_iload_2, wp_istore_2, wp_iload_3, wp_istore_3, wp_iload, wp_istore, wp_lload_0, wp_lstore_0, wp_lload_1, wp_lstore_1, wp_lload_2, wp_lstore_2, wp_lload_3, wp_lstore_3, wp_lload, wp_lstore, wp_aload_0, wp_astore_0, wp_aload_1, wp_astore_1, wp_aload_2, wp_astore_2, wp_aload_3, wp_astore_3, wp_aload, wp_astore, wp_iinc, wp_iadd, wp_isub, wp_imul, wp_iand, wp_ior, wp_ixor, wp_ishl, wp_ishr, wp_iushr, wp_irem, wp_ladd, wp_lsub, wp_lmul, wp_land, wp_lor, wp_lxor, wp_lshl, wp_lshr, wp_lushr, wp_lrem, wp_lcmp, wp_i2l, wp_l2i, wp_dupI, wp_dupA, wp_dup2J, wp_dup2IA, wp_popI, wp_popA, wp_pop2, wp_goto, wp_if_eq, wp_icmp_eq, wp_if_ne, wp_icmp_ne, wp_if_lt, wp_icmp_lt, wp_if_ge, wp_icmp_ge, wp_if_gt, wp_icmp_gt, wp_if_le, wp_icmp_le, wp_ifnull, wp_ifnonnull, wp_acmp_eq, wp_acmp_ne, wp_tableswitch, wp_get0, wp_put0, wp_get1, wp_put1, wp_get2, wp_put2, wp_get3, wp_put3, wp_new, wp_newarray, wp_anewarray, wp_alen, wp_iaload, wp_laload, wp_baload, wp_aaload, wp_iastore, wp_lastore, wp_bastore, wp_aastore, wp_return, wp_ireturnI, wp_ireturnZ, wp_lreturn, wp_areturnO, wp_areturnA, wp_max, wp_min, wp_obj, wp_virt, wp_nil, ld_I0, ld_Is, ld_J0, ld_Js, ld_A0, ld_As, ha_0, ha_s, cx_put1, cx_put2, cx_dl, cx_tgt, true_and, and_true, Nat.reduceAdd, Nat.reduceSub, Int.reduceAdd, Int.reduceNeg, Int.reduceToNat, Int.reduceSub, Int.cast_ofNat_Int, List.take_succ_cons, List.take_zero, List.drop_succ_cons, List.drop_zero, List.take_nil, List.drop_nil, Option.toList_some, Option.toList_none, List.cons_append, List.nil_append, wp_spec, ne_eq, Nat.reduceEqDiff, not_false_eq_true, true_or, or_true, Nat.left_eq_add, Nat.add_eq_left, Nat.add_left_cancel_iff, Nat.reduceEqDiff, Int.reduceEq, false_and, and_false, if_false, if_true, and_self, true_and, true_or, or_true, false_or, or_false]
    refine ⟨fun w => absurd w (by decide), fun _ => ⟨fun q => j20 (by omega) _, fun q1 => ⟨fun q2 => ?_, fun q => j20 (by omega) _⟩⟩⟩
    have el := F.a1
    have sl := F.s1
    have zl : cq_z h lb = 80 := H.tz sl
    obtain ⟨e, fl⟩ := F.fl l hi.1 (by omega)
    have s := fl.s0
    have eb := fl.b0
    have sb := fl.s1
    have zb := fl.sz
    have zr := fl.zr
    have j44 : ¬ ((0 ≤ l ∧ l < cq_I g x 72) ∧ 0 ≤ p ∧ p < cq_I g (x + 63) l ∧ 1 ≤ m ∧ m ≤ 255) → ∀ lv, cw Y mi_X10_spoil K 44 lv [] h 0 0 := by
      intro q lv
      refine bx_X10_spoil_44 hY (pf2_ok hY) ?_
      simp only [wp_iconst, wp_bipush, wp_sipush, wp_ldc, wp_ldc2_w, wp_lconst0, wp_lconst1, wp_aconst_null, wp_iload_0, wp_istore_0, wp_iload_1, wp_istore_1, wp_iload_2, wp_istore_2, wp_iload_3, wp_istore_3, wp_iload, wp_istore, wp_lload_0, wp_lstore_0, wp_lload_1, wp_lstore_1, wp_lload_2, wp_lstore_2, wp_lload_3, wp_lstore_3, wp_lload, wp_lstore, wp_aload_0, wp_astore_0, wp_aload_1, wp_astore_1, wp_aload_2, wp_astore_2, wp_aload_3, wp_astore_3, wp_aload, wp_astore, wp_iinc, wp_iadd, wp_isub, wp_imul, wp_iand, wp_ior, wp_ixor, wp_ishl, wp_ishr, wp_iushr, wp_irem, wp_ladd, wp_lsub, wp_lmul, wp_land, wp_lor, wp_lxor, wp_lshl, wp_lshr, wp_lushr, wp_lrem, wp_lcmp, wp_i2l, wp_l2i, wp_dupI, wp_dupA, wp_dup2J, wp_dup2IA, wp_popI, wp_popA, wp_pop2, wp_goto, wp_if_eq, wp_icmp_eq, wp_if_ne, wp_icmp_ne, wp_if_lt, wp_icmp_lt, wp_if_ge, wp_icmp_ge, wp_if_gt, wp_icmp_gt, wp_if_le, wp_icmp_le, wp_ifnull, wp_ifnonnull, wp_acmp_eq, wp_acmp_ne, wp_tableswitch, wp_get0, wp_put0, wp_get1, wp_put1, wp_get2, wp_put2, wp_get3, wp_put3, wp_new, wp_newarray, wp_anewarray, wp_alen, wp_iaload, wp_laload, wp_baload, wp_aaload, wp_iastore, wp_lastore, wp_bastore, wp_aastore, wp_return, wp_ireturnI, wp_ireturnZ, wp_lreturn, wp_areturnO, wp_areturnA, wp_max, wp_min, wp_obj, wp_virt, wp_nil, ld_I0, ld_Is, ld_J0, ld_Js, ld_A0, ld_As, ha_0, ha_s, cx_put1, cx_put2, cx_dl, cx_tgt, true_and, and_true, Nat.reduceAdd, Nat.reduceSub, Int.reduceAdd, Int.reduceNeg, Int.reduceToNat, Int.reduceSub, Int.cast_ofNat_Int, List.take_succ_cons, List.take_zero, List.drop_succ_cons, List.drop_zero, List.take_nil, List.drop_nil, Option.toList_some, Option.toList_none, List.cons_append, List.nil_append, wp_spec, ne_eq, Nat.reduceEqDiff, not_false_eq_true, true_or, or_true]
      exact hB q
    refine bx_X10_spoil_22 hY (pf2_ok hY) ?_
    simp only [wp_iconst, wp_bipush, wp_sipush, wp_ldc, wp_ldc2_w, wp_lconst0, wp_lconst1, wp_aconst_null, wp_iload_0, wp_istore_0, wp_iload_1, wp_istore_1, wp_iload_2, wp_istore_2, wp_iload_3, wp_istore_3, wp_iload, wp_istore, wp_lload_0, wp_lstore_0, wp_lload_1, wp_lstore_1, wp_lload_2, wp_lstore_2, wp_lload_3, wp_lstore_3, wp_lload, wp_lstore, wp_aload_0, wp_astore_0, wp_aload_1, wp_astore_1, wp_aload_2, wp_astore_2, wp_aload_3, wp_astore_3, wp_aload, wp_astore, wp_iinc, wp_iadd, wp_isub, wp_imul, wp_iand, wp_ior, wp_ixor, wp_ishl, wp_ishr, wp_iushr, wp_irem, wp_ladd, wp_lsub, wp_lmul, wp_land, wp_lor, wp_lxor, wp_lshl, wp_lshr, wp_lushr, wp_lrem, wp_lcmp, wp_i2l, wp_l2i, wp_dupI, wp_dupA, wp_dup2J, wp_dup2IA, wp_popI, wp_popA, wp_pop2, wp_goto, wp_if_eq, wp_icmp_eq, wp_if_ne, wp_icmp_ne, wp_if_lt, wp_icmp_lt, wp_if_ge, wp_icmp_ge, wp_if_gt, wp_icmp_gt, wp_if_le, wp_icmp_le, wp_ifnull, wp_ifnonnull, wp_acmp_eq, wp_acmp_ne, wp_tableswitch, wp_get0, wp_put0, wp_get1, wp_put1, wp_get2, wp_put2, wp_get3, wp_put3, wp_new, wp_newarray, wp_anewarray, wp_alen, wp_iaload, wp_laload, wp_baload, wp_aaload, wp_iastore, wp_lastore, wp_bastore, wp_aastore, wp_return, wp_ireturnI, wp_ireturnZ, wp_lreturn, wp_areturnO, wp_areturnA, wp_max, wp_min, wp_obj, wp_virt, wp_nil, ld_I0, ld_Is, ld_J0, ld_Js, ld_A0, ld_As, ha_0, ha_s, cx_put1, cx_put2, cx_dl, cx_tgt, true_and, and_true, Nat.reduceAdd, Nat.reduceSub, Int.reduceAdd, Int.reduceNeg, Int.reduceToNat, Int.reduceSub, Int.cast_ofNat_Int, List.take_succ_cons, List.take_zero, List.drop_succ_cons, List.drop_zero, List.take_nil, List.drop_nil, Option.toList_some, Option.toList_none, List.cons_append, List.nil_append, wp_spec, ne_eq, Nat.reduceEqDiff, not_false_eq_true, true_or, or_true, hc, el, sl, zl, e, s, eb, sb, ra_102, ra_100]
    refine ⟨by omega, fun q => j44 (by omega) _, fun q3 => ⟨by omega, fun q4 => ?_, fun q => j44 (by omega) _⟩⟩
    have hp : 0 ≤ p ∧ p < cq_I g (x + 63) l := by omega
    have eb2 := fl.by_ p hp.1 hp.2
    refine bx_X10_spoil_46 hY (pf2_ok hY) ?_
    simp only [wp_iconst, wp_bipush, wp_sipush, wp_ldc, wp_ldc2_w, wp_lconst0, wp_lconst1, wp_aconst_null, wp_iload_0, wp_istore_0, wp_iload_1, wp_istore_1, wp_iload_2, wp_istore_2, wp_iload_3, wp_istore_3, wp_iload, wp_istore, wp_lload_0, wp_lstore_0, wp_lload_1, wp_lstore_1, wp_lload_2, wp_lstore_2, wp_lload_3, wp_lstore_3, wp_lload, wp_lstore, wp_aload_0, wp_astore_0, wp_aload_1, wp_astore_1, wp_aload_2, wp_astore_2, wp_aload_3, wp_astore_3, wp_aload, wp_astore, wp_iinc, wp_iadd, wp_isub, wp_imul, wp_iand, wp_ior, wp_ixor, wp_ishl, wp_ishr, wp_iushr, wp_irem, wp_ladd, wp_lsub, wp_lmul, wp_land, wp_lor, wp_lxor, wp_lshl, wp_lshr, wp_lushr, wp_lrem, wp_lcmp, wp_i2l, wp_l2i, wp_dupI, wp_dupA, wp_dup2J, wp_dup2IA, wp_popI, wp_popA, wp_pop2, wp_goto, wp_if_eq, wp_icmp_eq, wp_if_ne, wp_icmp_ne, wp_if_lt, wp_icmp_lt, wp_if_ge, wp_icmp_ge, wp_if_gt, wp_icmp_gt, wp_if_le, wp_icmp_le, wp_ifnull, wp_ifnonnull, wp_acmp_eq, wp_acmp_ne, wp_tableswitch, wp_get0, wp_put0, wp_get1, wp_put1, wp_get2, wp_put2, wp_get3, wp_put3, wp_new, wp_newarray, wp_anewarray, wp_alen, wp_iaload, wp_laload, wp_baload, wp_aaload, wp_iastore, wp_lastore, wp_bastore, wp_aastore, wp_return, wp_ireturnI, wp_ireturnZ, wp_lreturn, wp_areturnO, wp_areturnA, wp_max, wp_min, wp_obj, wp_virt, wp_nil, ld_I0, ld_Is, ld_J0, ld_Js, ld_A0, ld_As, ha_0, ha_s, cx_put1, cx_put2, cx_dl, cx_tgt, true_and, and_true, Nat.reduceAdd, Nat.reduceSub, Int.reduceAdd, Int.reduceNeg, Int.reduceToNat, Int.reduceSub, Int.cast_ofNat_Int, List.take_succ_cons, List.take_zero, List.drop_succ_cons, List.drop_zero, List.take_nil, List.drop_nil, Option.toList_some, Option.toList_none, List.cons_append, List.nil_append, wp_spec, ne_eq, Nat.reduceEqDiff, not_false_eq_true, true_or, or_true, sb, ra_100, mm_sI, mm_sJ, mm_sA, mm_IJ, mm_IA, mm_JI, mm_JA, mm_AI, mm_AJ, mm_ssI, mm_ssJ, mm_ssA, mm_zI, mm_zJ, mm_zA, mm_nI, mm_nJ, mm_nA, Nat.left_eq_add, Nat.add_eq_left, Nat.add_left_cancel_iff, Nat.reduceEqDiff, Int.reduceEq, false_and, and_false, if_false, if_true, and_self, true_and, true_or, or_true, false_or, or_false]
    (repeat' (with_reducible (first | refine And.intro ?_ ?_ | intro _)))
    all_goals (try omega)
    have G := H.sI (a := Lf l + 1) (j := p) (v := cx_xor (cq_I h (Lf l + 1) p) m) sb (own_m (by decide)) (xor8 (H.i100 sb) (by omega)) rfl
    have F2 := fx_spoil F (l := l) (p := p) (v := cx_xor (cq_I h (Lf l + 1) p) m) (by omega) hp
    rw [eb2] at G F2 ⊢
    exact hK ⟨by omega, hp.1, hp.2, by omega, by omega⟩ _ G F2
end
