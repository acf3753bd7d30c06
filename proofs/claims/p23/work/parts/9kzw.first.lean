/-! class and reference side by side: a first letter, from its plan on -/
section
variable {Y : cx_Y} {K : Option cx_V → cx_Q → Prop} {c x : Nat} {n L Z : Int} {E : Nat → Option Int} {h0 : cx_Q} {h g G : cx_Q} {pe : Int → Nat} {ro : Int → Int → Nat} {pa lb tp rd en op ob : Nat} {T Lf : Int → Nat}
/-- the letter is noted: ONCE key, beginning, count -/
theorem on_note (hY : cY Y) {b : Nat} {u l ln on : Int} {e k root : Int64} {gB : cx_Q} {o2 o3 : Option cx_V} {o6 : Option cx_V} (H : CI c n L Z E h0 [] h) (F : FX c x n pe ro pa lb tp rd en op ob T Lf h gB) (R : EK x en b op l k g h) (hu : 0 ≤ u ∧ u < n) (hb : cq_I g (x + 62) (100 * l) = 1) (eln : (m_bytes g x 19 2).toInt32.toInt = ln) (eon : (m_bytes g x 21 2).toInt32.toInt = on) (ee : m_bytes g x 11 8 = e) (h58 : cq_I gB (x + 58) u < 100) (h85 : cq_I gB x 85 < 100) (hon : on = 0 ∨ (1 ≤ on ∧ on ≤ cq_I gB (x + 23) u))
    (hK : ∀ h', CI c n L Z E h0 [] h' → FX c x n pe ro pa lb tp rd en op ob T Lf h' (cq_sI (sn (if on = 0 then gB else cq_sI gB (x + 28) (61 * u + on) 0) x u ln e) x 85 (cq_I gB x 85 + 1)) → EK x en b op l k g h' → K (some (.inl 0)) h') : cw Y mi_X10_openInNew K 274 [some (.inr (.inr (some c))), some (.inr (.inr (some (pe u)))), o2, o3, some (.inr (.inl root)), none, o6, some (.inl 0)] [] h 0 0 := by
  have hc := H.cs
  have fu := F.fu u hu.1 hu.2
  have sp := fu.s0
  have nb := R.1.nb hb
  rw [eln, eon, ee] at nb
  have c285 : ∀ g9, CI c n L Z E h0 [] g9 → FX c x n pe ro pa lb tp rd en op ob T Lf g9 (if on = 0 then gB else cq_sI gB (x + 28) (61 * u + on) 0) → EK x en b op l k g g9 → cw Y mi_X10_openInNew K 285 [some (.inr (.inr (some c))), some (.inr (.inr (some (pe u)))), o2, o3, some (.inr (.inl root)), none, o6, some (.inl 0)] [] g9 0 0 := by
    intro g9 G9 F9 R9
    have f9 := F9.fu u hu.1 hu.2
    have nb9 := R9.1.nb hb
    rw [eln, eon, ee] at nb9
    have gc9 := G9.cs
    have e58 : cq_I (if on = 0 then gB else cq_sI gB (x + 28) (61 * u + on) 0) (x + 58) u = cq_I gB (x + 58) u := by
      split
      · rfl
      · rw [mm_sI, if_neg (fun z => by omega)]
    have e85 : cq_I (if on = 0 then gB else cq_sI gB (x + 28) (61 * u + on) 0) x 85 = cq_I gB x 85 := by
      split
      · rfl
      · rw [mm_sI, if_neg (fun z => by omega)]
    generalize (if on = 0 then gB else cq_sI gB (x + 28) (61 * u + on) 0) = gU at F9 f9 e58 e85 hK
    have hd9 := f9.hd
    refine bx_X10_openInNew_285 hY (pf2_ok hY) ?_
    simp only [wp_iconst, wp_bipush, wp_sipush, wp_ldc, wp_ldc2_w, wp_lconst0, wp_lconst1, wp_aconst_null, wp_iload_0, wp_istore_0, wp_iload_1, wp_istore_1, wp_iload_2, wp_istore_2, wp_iload_3, wp_istore_3, wp_iload, wp_istore, wp_lload_0, wp_lstore_0, wp_lload_1, wp_lstore_1, wp_lload_2, wp_lstore_2, wp_lload_3, wp_lstore_3, wp_lload, wp_lstore, wp_aload_0, wp_astore_0, wp_aload_1, wp_astore_1, wp_aload_2, wp_astore_2, wp_aload_3, wp_astore_3, wp_aload, wp_astore, wp_iinc, wp_iadd, wp_isub, wp_imul, wp_iand, wp_ior, wp_ixor, wp_ishl, wp_ishr, wp_iushr, wp_irem, wp_ladd, wp_lsub, wp_lmul, wp_land, wp_lor, wp_lxor, wp_lshl, wp_lshr, wp_lushr, wp_lrem, wp_lcmp, wp_i2l, wp_l2i, wp_dupI, wp_dupA, wp_dup2J, wp_dup2IA, wp_popI, wp_popA, wp_pop2, wp_goto, wp_if_eq, wp_icmp_eq, wp_if_ne, wp_icmp_ne, wp_if_lt, wp_icmp_lt, wp_if_ge, wp_icmp_ge, wp_if_gt, wp_icmp_gt, wp_if_le, wp_icmp_le, wp_ifnull, wp_ifnonnull, wp_acmp_eq, wp_acmp_ne, wp_tableswitch, wp_get0, wp_put0, wp_get1, wp_put1, wp_get2, wp_put2, wp_get3, wp_put3, wp_new, wp_newarray, wp_anewarray, wp_alen, wp_iaload, wp_laload, wp_baload, wp_aaload, wp_iastore, wp_lastore, wp_bastore, wp_aastore, wp_return, wp_ireturnI, wp_ireturnZ, wp_lreturn, wp_areturnO, wp_areturnA, wp_max, wp_min, wp_obj, wp_virt, wp_nil, ld_I0, ld_Is, ld_J0, ld_Js, ld_A0, ld_As, ha_0, ha_s, cx_put1, cx_put2, cx_dl, cx_tgt, true_and, and_true, Nat.reduceAdd, Nat.reduceSub, Int.reduceAdd, Int.reduceNeg, Int.reduceToNat, Int.reduceSub, Int.cast_ofNat_Int, List.take_succ_cons, List.take_zero, List.drop_succ_cons, List.drop_zero, List.take_nil, List.drop_nil, Option.toList_some, Option.toList_none, List.cons_append, List.nil_append, wp_spec, ne_eq, Nat.reduceEqDiff, not_false_eq_true, true_or, or_true, gc9, F9.a12, F9.s12, nb9.2.1, nb9.2.2.1]
    refine cl_X5_remember (Nat.le_of_ble_eq_true rfl) f9.s0 (Nat.zero_le _) (Nat.zero_le _) (e_X5_remember hY G9 f9.s0 f9.a14 f9.a15 (by omega) (fun ga Ga ea => ?_))
    have Fa := fx_seen F9 hu (by omega) ea
    have s4 := f9.s4
    have s5 := f9.s5
    have s0 := f9.s0
    have Ra := R9.st (P := ucl (pe u)) (h' := ga) (by
      rw [ea]
      refine evx.sI (P := ucl (pe u)) (evx.sI (P := ucl (pe u)) (evx.sJ (P := ucl (pe u)) evx.refl ?_ (by rw [s4]; decide)) ?_) ?_ <;> (unfold ucl; omega)) (fun q w => by
      have s1 := f9.s1
      have s2 := f9.s2
      have s3 := f9.s3
      unfold ucl at w
      rcases w with rfl | rfl | rfl | rfl | rfl | rfl
      · rw [s0]; decide
      · rw [s1]; decide
      · rw [s2]; decide
      · rw [s3]; decide
      · rw [s4]; decide
      · rw [s5]; decide)
    have gca := Ga.cs
    have i5a := Ga.i9_5 gca
    have mca := Fa.fs.mc
    have x85 : cq_I (sn gU x u ln e) x 85 = cq_I gB x 85 := by
      unfold sn
      rw [mm_sI, if_neg (fun z => by omega), mm_IJ, mm_sI, if_neg (fun z => by omega)]
      exact e85
    rw [x85] at mca
    have Fz := fx_made (h' := cq_sI ga c 5 (cq_I ga c 5 + 1)) (g' := cq_sI (sn gU x u ln e) x 85 (cq_I gB x 85 + 1)) Fa (by rw [mm_sI, if_pos ⟨rfl, rfl⟩, x85]) (fun j w => by rw [mm_sI, if_neg (fun z => w z.2)]) (fun o j w _ _ => by rw [mm_sI, if_neg (fun z => by omega)]) (fun o j _ _ _ => by rw [mm_JI]) rfl
    have Rz := Ra.st (P := fun q => q = c) (h' := cq_sI ga c 5 (cq_I ga c 5 + 1)) (evx.sI (P := fun q => q = c) evx.refl rfl) (fun q w => by rw [w, gca]; decide)
    have Gz : CI c n L Z E h0 [] (cq_sI ga c 5 (cq_I ga c 5 + 1)) := Ga.sI (j := 5) (v := cq_I ga c 5 + 1) gca (own_9 (by decide)) ⟨by omega, by omega⟩ rfl
    refine bx_X10_openInNew_303 hY (pf2_ok hY) ?_
    simp only [wp_iconst, wp_bipush, wp_sipush, wp_ldc, wp_ldc2_w, wp_lconst0, wp_lconst1, wp_aconst_null, wp_iload_0, wp_istore_0, wp_iload_1, wp_istore_1, wp_iload_2, wp_istore_2, wp_iload_3, wp_istore_3, wp_iload, wp_istore, wp_lload_0, wp_lstore_0, wp_lload_1, wp_lstore_1, wp_lload_2, wp_lstore_2, wp_lload_3, wp_lstore_3, wp_lload, wp_lstore, wp_aload_0, wp_astore_0, wp_aload_1, wp_astore_1, wp_aload_2, wp_astore_2, wp_aload_3, wp_astore_3, wp_aload, wp_astore, wp_iinc, wp_iadd, wp_isub, wp_imul, wp_iand, wp_ior, wp_ixor, wp_ishl, wp_ishr, wp_iushr, wp_irem, wp_ladd, wp_lsub, wp_lmul, wp_land, wp_lor, wp_lxor, wp_lshl, wp_lshr, wp_lushr, wp_lrem, wp_lcmp, wp_i2l, wp_l2i, wp_dupI, wp_dupA, wp_dup2J, wp_dup2IA, wp_popI, wp_popA, wp_pop2, wp_goto, wp_if_eq, wp_icmp_eq, wp_if_ne, wp_icmp_ne, wp_if_lt, wp_icmp_lt, wp_if_ge, wp_icmp_ge, wp_if_gt, wp_icmp_gt, wp_if_le, wp_icmp_le, wp_ifnull, wp_ifnonnull, wp_acmp_eq, wp_acmp_ne, wp_tableswitch, wp_get0, wp_put0, wp_get1, wp_put1, wp_get2, wp_put2, wp_get3, wp_put3, wp_new, wp_newarray, wp_anewarray, wp_alen, wp_iaload, wp_laload, wp_baload, wp_aaload, wp_iastore, wp_lastore, wp_bastore, wp_aastore, wp_return, wp_ireturnI, wp_ireturnZ, wp_lreturn, wp_areturnO, wp_areturnA, wp_max, wp_min, wp_obj, wp_virt, wp_nil, ld_I0, ld_Is, ld_J0, ld_Js, ld_A0, ld_As, ha_0, ha_s, cx_put1, cx_put2, cx_dl, cx_tgt, true_and, and_true, Nat.reduceAdd, Nat.reduceSub, Int.reduceAdd, Int.reduceNeg, Int.reduceToNat, Int.reduceSub, Int.cast_ofNat_Int, List.take_succ_cons, List.take_zero, List.drop_succ_cons, List.drop_zero, List.take_nil, List.drop_nil, Option.toList_some, Option.toList_none, List.cons_append, List.nil_append, wp_spec, ne_eq, Nat.reduceEqDiff, not_false_eq_true, true_or, or_true, gca, cx_rg]
    refine ⟨by omega, ?_⟩
    refine bx_X10_openInNew_313 hY (pf2_ok hY) ?_
    simp only [wp_iconst, wp_bipush, wp_sipush, wp_ldc, wp_ldc2_w, wp_lconst0, wp_lconst1, wp_aconst_null, wp_iload_0, wp_istore_0, wp_iload_1, wp_istore_1, wp_iload_2, wp_istore_2, wp_iload_3, wp_istore_3, wp_iload, wp_istore, wp_lload_0, wp_lstore_0, wp_lload_1, wp_lstore_1, wp_lload_2, wp_lstore_2, wp_lload_3, wp_lstore_3, wp_lload, wp_lstore, wp_aload_0, wp_astore_0, wp_aload_1, wp_astore_1, wp_aload_2, wp_astore_2, wp_aload_3, wp_astore_3, wp_aload, wp_astore, wp_iinc, wp_iadd, wp_isub, wp_imul, wp_iand, wp_ior, wp_ixor, wp_ishl, wp_ishr, wp_iushr, wp_irem, wp_ladd, wp_lsub, wp_lmul, wp_land, wp_lor, wp_lxor, wp_lshl, wp_lshr, wp_lushr, wp_lrem, wp_lcmp, wp_i2l, wp_l2i, wp_dupI, wp_dupA, wp_dup2J, wp_dup2IA, wp_popI, wp_popA, wp_pop2, wp_goto, wp_if_eq, wp_icmp_eq, wp_if_ne, wp_icmp_ne, wp_if_lt, wp_icmp_lt, wp_if_ge, wp_icmp_ge, wp_if_gt, wp_icmp_gt, wp_if_le, wp_icmp_le, wp_ifnull, wp_ifnonnull, wp_acmp_eq, wp_acmp_ne, wp_tableswitch, wp_get0, wp_put0, wp_get1, wp_put1, wp_get2, wp_put2, wp_get3, wp_put3, wp_new, wp_newarray, wp_anewarray, wp_alen, wp_iaload, wp_laload, wp_baload, wp_aaload, wp_iastore, wp_lastore, wp_bastore, wp_aastore, wp_return, wp_ireturnI, wp_ireturnZ, wp_lreturn, wp_areturnO, wp_areturnA, wp_max, wp_min, wp_obj, wp_virt, wp_nil, ld_I0, ld_Is, ld_J0, ld_Js, ld_A0, ld_As, ha_0, ha_s, cx_put1, cx_put2, cx_dl, cx_tgt, true_and, and_true, Nat.reduceAdd, Nat.reduceSub, Int.reduceAdd, Int.reduceNeg, Int.reduceToNat, Int.reduceSub, Int.cast_ofNat_Int, List.take_succ_cons, List.take_zero, List.drop_succ_cons, List.drop_zero, List.take_nil, List.drop_nil, Option.toList_some, Option.toList_none, List.cons_append, List.nil_append, wp_spec, ne_eq, Nat.reduceEqDiff, not_false_eq_true, true_or, or_true]
    exact hK _ Gz Fz Rz
  have onf := fu.on
  refine bx_X10_openInNew_274 hY (pf2_ok hY) ?_
  simp only [wp_iconst, wp_bipush, wp_sipush, wp_ldc, wp_ldc2_w, wp_lconst0, wp_lconst1, wp_aconst_null, wp_iload_0, wp_istore_0, wp_iload_1, wp_istore_1, wp_iload_2, wp_istore_2, wp_iload_3, wp_istore_3, wp_iload, wp_istore, wp_lload_0, wp_lstore_0, wp_lload_1, wp_lstore_1, wp_lload_2, wp_lstore_2, wp_lload_3, wp_lstore_3, wp_lload, wp_lstore, wp_aload_0, wp_astore_0, wp_aload_1, wp_astore_1, wp_aload_2, wp_astore_2, wp_aload_3, wp_astore_3, wp_aload, wp_astore, wp_iinc, wp_iadd, wp_isub, wp_imul, wp_iand, wp_ior, wp_ixor, wp_ishl, wp_ishr, wp_iushr, wp_irem, wp_ladd, wp_lsub, wp_lmul, wp_land, wp_lor, wp_lxor, wp_lshl, wp_lshr, wp_lushr, wp_lrem, wp_lcmp, wp_i2l, wp_l2i, wp_dupI, wp_dupA, wp_dup2J, wp_dup2IA, wp_popI, wp_popA, wp_pop2, wp_goto, wp_if_eq, wp_icmp_eq, wp_if_ne, wp_icmp_ne, wp_if_lt, wp_icmp_lt, wp_if_ge, wp_icmp_ge, wp_if_gt, wp_icmp_gt, wp_if_le, wp_icmp_le, wp_ifnull, wp_ifnonnull, wp_acmp_eq, wp_acmp_ne, wp_tableswitch, wp_get0, wp_put0, wp_get1, wp_put1, wp_get2, wp_put2, wp_get3, wp_put3, wp_new, wp_newarray, wp_anewarray, wp_alen, wp_iaload, wp_laload, wp_baload, wp_aaload, wp_iastore, wp_lastore, wp_bastore, wp_aastore, wp_return, wp_ireturnI, wp_ireturnZ, wp_lreturn, wp_areturnO, wp_areturnA, wp_max, wp_min, wp_obj, wp_virt, wp_nil, ld_I0, ld_Is, ld_J0, ld_Js, ld_A0, ld_As, ha_0, ha_s, cx_put1, cx_put2, cx_dl, cx_tgt, true_and, and_true, Nat.reduceAdd, Nat.reduceSub, Int.reduceAdd, Int.reduceNeg, Int.reduceToNat, Int.reduceSub, Int.cast_ofNat_Int, List.take_succ_cons, List.take_zero, List.drop_succ_cons, List.drop_zero, List.take_nil, List.drop_nil, Option.toList_some, Option.toList_none, List.cons_append, List.nil_append, wp_spec, ne_eq, Nat.reduceEqDiff, not_false_eq_true, true_or, or_true, hc, F.a12, F.s12, nb.2.2.2]
  refine cl_X5_useOnce (Nat.le_of_ble_eq_true rfl) sp (Nat.zero_le _) (Nat.zero_le _) (e_X5_useOnce hY H sp fu.a10 (fun no => ?_) (fun o1 o2 g9 G9 e9 => ?_))
  · have o0 : on = 0 := by omega
    refine c285 h H ?_ R
    rw [if_pos o0]
    exact F
  · have o0 : ¬ on = 0 := by omega
    have F9 := fx_used F hu ⟨o1, by omega⟩ e9
    have s3 := fu.s3
    refine c285 g9 G9 ?_ (R.st (P := fun q => q = pe u + 3) (by rw [e9]; exact evx.sI (P := fun q => q = pe u + 3) evx.refl rfl) (fun q w => by rw [w, s3]; decide))
    rw [if_neg o0]
    exact F9
theorem on_tail (hY : cY Y) {a b d : Nat} {oc : Option Nat} {u v s l ln on : Int} {e root k : Int64} (H : CI c n L Z E h0 [] h) (hZ : Z ≤ 900000) (F : FX c x n pe ro pa lb tp rd en op ob T Lf h g) (R : EK x en b op l k g h) (S : SR0 x a s h G) (Q : GQ x u (6 * u + v) s ln e root g G) (hs : s = m_slotN g x (6 * u + v)) (fr : ∀ u' v' i, 0 ≤ u' → u' < n → 0 ≤ v' → v' < n → 0 ≤ i → i < cq_I g (x + 30) (6 * u' + v') → T (cq_I g (x + 29) (4 * (6 * u' + v') + i)) ≠ a) (hu : 0 ≤ u ∧ u < n) (hv : 0 ≤ v ∧ v < n) (ev_ : cq_I g (x + 62) (100 * l + 1) = v) (hb : cq_I g (x + 62) (100 * l) = 1) (eln : (m_bytes g x 19 2).toInt32.toInt = ln) (eon : (m_bytes g x 21 2).toInt32.toInt = on) (ee : m_bytes g x 11 8 = e) (hU : cq_I g (x + 11) u ≠ 0) (sd : cq_s h d = 6) (hoc : ∀ b, oc = some b → cq_s h b = 6) (h81 : 0 ≤ cq_I g x 81 ∧ cq_I g x 81 ≤ 10) (h58 : cq_I g (x + 58) u < 100) (h85 : cq_I g x 85 < 100) (hon : on = 0 ∨ (1 ≤ on ∧ on ≤ cq_I g (x + 23) u)) (i1 : cq_I h op 1 = -1) (i2 : cq_I h op 2 = 1) (i3 : cq_I h op 3 = 0) (i4 : cq_I h op 4 = cq_I g x 81) (j5 : cq_J h op 5 = f_key 1 root (f_common (cq_J g (x + 17) (21 * u + ln)) (cq_J g x 79))) (j6 : cq_J h op 6 = nxI ((cq_I g x 81).toNat + 1) (m_cfC g x u ln root)) (a2 : ∀ i, 0 ≤ i → i < cq_I g x 81 → cq_J h ob i = lkC (nxI i.toNat (m_cfC g x u ln root)))
    (hK : ∀ h' T', CI c n L (Z + 1) E h0 [] h' → FX c x n pe ro pa lb tp rd en op ob T' Lf h' (bk x g (m_cfD (m_openQ G x u s) x u s ln on e)) → EK x en b op l k g h' → K (some (.inl 0)) h') : cw Y mi_X10_openInNew K 182 [some (.inr (.inr (some c))), some (.inr (.inr (some (pe u)))), some (.inr (.inr (some d))), some (.inr (.inr oc)), some (.inr (.inl root)), none, some (.inr (.inr (some a))), none] [.inl 0] h 11 283 := by
  have gc := H.cs
  have n26 := F.n26
  have fu := F.fu u hu.1 hu.2
  have sp := fu.s0
  obtain ⟨di, edi, sdi, _⟩ := fu.n1 hU
  obtain ⟨nt, ent, snt⟩ := H.g9_14 gc List.not_mem_nil
  obtain ⟨A, B, C⟩ := cfG_Q Q h81
  have eD := cfD_bk (x := x) (g := g) (u := u) (s := s) (ln := ln) (on := on) (e := e) (gq := m_openQ G x u s) C.i43 (B.x_ 85 (by decide))
  rw [← eD] at hK
  obtain ⟨b1, b2, b3, b4⟩ := bk_q (x := x) (g := g) (g' := m_openQ G x u s) B.x_
  have Q3 := C.c b2 b4
  generalize m_openQ G x u s = gq at A B C eD hK b1 b2 b3 b4 Q3
  clear eD C
  refine bx_X10_openInNew_182 hY (pf2_ok hY) ?_
  simp only [wp_iconst, wp_bipush, wp_sipush, wp_ldc, wp_ldc2_w, wp_lconst0, wp_lconst1, wp_aconst_null, wp_iload_0, wp_istore_0, wp_iload_1, wp_istore_1, wp_iload_2, wp_istore_2, wp_iload_3, wp_istore_3, wp_iload, wp_istore, wp_lload_0, wp_lstore_0, wp_lload_1, wp_lstore_1, wp_lload_2, wp_lstore_2, wp_lload_3, wp_lstore_3, wp_lload, wp_lstore, wp_aload_0, wp_astore_0, wp_aload_1, wp_astore_1, wp_aload_2, wp_astore_2, wp_aload_3, wp_astore_3, wp_aload, wp_astore, wp_iinc, wp_iadd, wp_isub, wp_imul, wp_iand, wp_ior, wp_ixor, wp_ishl, wp_ishr, wp_iushr, wp_irem, wp_ladd, wp_lsub, wp_lmul, wp_land, wp_lor, wp_lxor, wp_lshl, wp_lshr, wp_lushr, wp_lrem, wp_lcmp, wp_i2l, wp_l2i, wp_dupI, wp_dupA, wp_dup2J, wp_dup2IA, wp_popI, wp_popA, wp_pop2, wp_goto, wp_if_eq, wp_icmp_eq, wp_if_ne, wp_icmp_ne, wp_if_lt, wp_icmp_lt, wp_if_ge, wp_icmp_ge, wp_if_gt, wp_icmp_gt, wp_if_le, wp_icmp_le, wp_ifnull, wp_ifnonnull, wp_acmp_eq, wp_acmp_ne, wp_tableswitch, wp_get0, wp_put0, wp_get1, wp_put1, wp_get2, wp_put2, wp_get3, wp_put3, wp_new, wp_newarray, wp_anewarray, wp_alen, wp_iaload, wp_laload, wp_baload, wp_aaload, wp_iastore, wp_lastore, wp_bastore, wp_aastore, wp_return, wp_ireturnI, wp_ireturnZ, wp_lreturn, wp_areturnO, wp_areturnA, wp_max, wp_min, wp_obj, wp_virt, wp_nil, ld_I0, ld_Is, ld_J0, ld_Js, ld_A0, ld_As, ha_0, ha_s, cx_put1, cx_put2, cx_dl, cx_tgt, true_and, and_true, Nat.reduceAdd, Nat.reduceSub, Int.reduceAdd, Int.reduceNeg, Int.reduceToNat, Int.reduceSub, Int.cast_ofNat_Int, List.take_succ_cons, List.take_zero, List.drop_succ_cons, List.drop_zero, List.take_nil, List.drop_nil, Option.toList_some, Option.toList_none, List.cons_append, List.nil_append, wp_spec, ne_eq, Nat.reduceEqDiff, not_false_eq_true, true_or, or_true, gc, F.a12, F.s12, ent]
  refine ⟨fun q => absurd trivial q, fun _ => ?_⟩
  refine cl_X10_secretOf (Nat.le_of_ble_eq_true rfl) gc (by omega) (by omega) (c_X10_secretOf hY H n26.2 (fun oa hoa => ?_))
  refine bx_X10_openInNew_206 hY (pf2_ok hY) ?_
  simp only [wp_iconst, wp_bipush, wp_sipush, wp_ldc, wp_ldc2_w, wp_lconst0, wp_lconst1, wp_aconst_null, wp_iload_0, wp_istore_0, wp_iload_1, wp_istore_1, wp_iload_2, wp_istore_2, wp_iload_3, wp_istore_3, wp_iload, wp_istore, wp_lload_0, wp_lstore_0, wp_lload_1, wp_lstore_1, wp_lload_2, wp_lstore_2, wp_lload_3, wp_lstore_3, wp_lload, wp_lstore, wp_aload_0, wp_astore_0, wp_aload_1, wp_astore_1, wp_aload_2, wp_astore_2, wp_aload_3, wp_astore_3, wp_aload, wp_astore, wp_iinc, wp_iadd, wp_isub, wp_imul, wp_iand, wp_ior, wp_ixor, wp_ishl, wp_ishr, wp_iushr, wp_irem, wp_ladd, wp_lsub, wp_lmul, wp_land, wp_lor, wp_lxor, wp_lshl, wp_lshr, wp_lushr, wp_lrem, wp_lcmp, wp_i2l, wp_l2i, wp_dupI, wp_dupA, wp_dup2J, wp_dup2IA, wp_popI, wp_popA, wp_pop2, wp_goto, wp_if_eq, wp_icmp_eq, wp_if_ne, wp_icmp_ne, wp_if_lt, wp_icmp_lt, wp_if_ge, wp_icmp_ge, wp_if_gt, wp_icmp_gt, wp_if_le, wp_icmp_le, wp_ifnull, wp_ifnonnull, wp_acmp_eq, wp_acmp_ne, wp_tableswitch, wp_get0, wp_put0, wp_get1, wp_put1, wp_get2, wp_put2, wp_get3, wp_put3, wp_new, wp_newarray, wp_anewarray, wp_alen, wp_iaload, wp_laload, wp_baload, wp_aaload, wp_iastore, wp_lastore, wp_bastore, wp_aastore, wp_return, wp_ireturnI, wp_ireturnZ, wp_lreturn, wp_areturnO, wp_areturnA, wp_max, wp_min, wp_obj, wp_virt, wp_nil, ld_I0, ld_Is, ld_J0, ld_Js, ld_A0, ld_As, ha_0, ha_s, cx_put1, cx_put2, cx_dl, cx_tgt, true_and, and_true, Nat.reduceAdd, Nat.reduceSub, Int.reduceAdd, Int.reduceNeg, Int.reduceToNat, Int.reduceSub, Int.cast_ofNat_Int, List.take_succ_cons, List.take_zero, List.drop_succ_cons, List.drop_zero, List.take_nil, List.drop_nil, Option.toList_some, Option.toList_none, List.cons_append, List.nil_append, wp_spec, ne_eq, Nat.reduceEqDiff, not_false_eq_true, true_or, or_true, gc, F.a12, F.s12, sp, edi]
  refine cl_X10_secretOf (Nat.le_of_ble_eq_true rfl) gc (by omega) (by omega) (c_X10_secretOf hY H n26.2 (fun oe hoe => ?_))
  refine bx_X10_openInNew_221 hY (pf2_ok hY) ?_
  simp only [wp_iconst, wp_bipush, wp_sipush, wp_ldc, wp_ldc2_w, wp_lconst0, wp_lconst1, wp_aconst_null, wp_iload_0, wp_istore_0, wp_iload_1, wp_istore_1, wp_iload_2, wp_istore_2, wp_iload_3, wp_istore_3, wp_iload, wp_istore, wp_lload_0, wp_lstore_0, wp_lload_1, wp_lstore_1, wp_lload_2, wp_lstore_2, wp_lload_3, wp_lstore_3, wp_lload, wp_lstore, wp_aload_0, wp_astore_0, wp_aload_1, wp_astore_1, wp_aload_2, wp_astore_2, wp_aload_3, wp_astore_3, wp_aload, wp_astore, wp_iinc, wp_iadd, wp_isub, wp_imul, wp_iand, wp_ior, wp_ixor, wp_ishl, wp_ishr, wp_iushr, wp_irem, wp_ladd, wp_lsub, wp_lmul, wp_land, wp_lor, wp_lxor, wp_lshl, wp_lshr, wp_lushr, wp_lrem, wp_lcmp, wp_i2l, wp_l2i, wp_dupI, wp_dupA, wp_dup2J, wp_dup2IA, wp_popI, wp_popA, wp_pop2, wp_goto, wp_if_eq, wp_icmp_eq, wp_if_ne, wp_icmp_ne, wp_if_lt, wp_icmp_lt, wp_if_ge, wp_icmp_ge, wp_if_gt, wp_icmp_gt, wp_if_le, wp_icmp_le, wp_ifnull, wp_ifnonnull, wp_acmp_eq, wp_acmp_ne, wp_tableswitch, wp_get0, wp_put0, wp_get1, wp_put1, wp_get2, wp_put2, wp_get3, wp_put3, wp_new, wp_newarray, wp_anewarray, wp_alen, wp_iaload, wp_laload, wp_baload, wp_aaload, wp_iastore, wp_lastore, wp_bastore, wp_aastore, wp_return, wp_ireturnI, wp_ireturnZ, wp_lreturn, wp_areturnO, wp_areturnA, wp_max, wp_min, wp_obj, wp_virt, wp_nil, ld_I0, ld_Is, ld_J0, ld_Js, ld_A0, ld_As, ha_0, ha_s, cx_put1, cx_put2, cx_dl, cx_tgt, true_and, and_true, Nat.reduceAdd, Nat.reduceSub, Int.reduceAdd, Int.reduceNeg, Int.reduceToNat, Int.reduceSub, Int.cast_ofNat_Int, List.take_succ_cons, List.take_zero, List.drop_succ_cons, List.drop_zero, List.take_nil, List.drop_nil, Option.toList_some, Option.toList_none, List.cons_append, List.nil_append, wp_spec, ne_eq, Nat.reduceEqDiff, not_false_eq_true, true_or, or_true]
  refine cl_X10_firstPairs (Nat.le_of_ble_eq_true rfl) (by omega) (by omega) (e_X10_firstPairs hY H hoa (fun b w => by cases w; exact sdi) hoe (fun b w => by cases w; exact sd) hoc (fun pp h4 G4 k4 s4 => ?_))
  have snt4 : cq_s h4 nt = 8 := k4.s snt (by decide)
  refine bx_X10_openInNew_226 hY (pf2_ok hY) ?_
  try simp only [wp_iconst, wp_bipush, wp_sipush, wp_ldc, wp_ldc2_w, wp_lconst0, wp_lconst1, wp_aconst_null, wp_iload_0, wp_istore_0, wp_iload_1, wp_istore_1, wp_iload_2, wp_istore_2, wp_iload_3, wp_istore_3, wp_iload, wp_istore, wp_lload_0, wp_lstore_0, wp_lload_1, wp_lstore_1, wp_lload_2, wp_lstore_2, wp_lload_3, wp_lstore_3, wp_lload, wp_lstore, wp_aload_0, wp_astore_0, wp_aload_1, wp_astore_1, wp_aload_2, wp_astore_2, wp_aload_3, wp_astore_3, wp_aload, wp_astore, wp_iinc, wp_iadd, wp_isub, wp_imul, wp_iand, wp_ior, wp_ixor, wp_ishl, wp_ishr, wp_iushr, wp_irem, wp_ladd, wp_lsub, wp_lmul, wp_land, wp_lor, wp_lxor, wp_lshl, wp_lshr, wp_lushr, wp_lrem, wp_lcmp, wp_i2l, wp_l2i, wp_dupI, wp_dupA, wp_dup2J, wp_dup2IA, wp_popI, wp_popA, wp_pop2, wp_goto, wp_if_eq, wp_icmp_eq, wp_if_ne, wp_icmp_ne, wp_if_lt, wp_icmp_lt, wp_if_ge, wp_icmp_ge, wp_if_gt, wp_icmp_gt, wp_if_le, wp_icmp_le, wp_ifnull, wp_ifnonnull, wp_acmp_eq, wp_acmp_ne, wp_tableswitch, wp_get0, wp_put0, wp_get1, wp_put1, wp_get2, wp_put2, wp_get3, wp_put3, wp_new, wp_newarray, wp_anewarray, wp_alen, wp_iaload, wp_laload, wp_baload, wp_aaload, wp_iastore, wp_lastore, wp_bastore, wp_aastore, wp_return, wp_ireturnI, wp_ireturnZ, wp_lreturn, wp_areturnO, wp_areturnA, wp_max, wp_min, wp_obj, wp_virt, wp_nil, ld_I0, ld_Is, ld_J0, ld_Js, ld_A0, ld_As, ha_0, ha_s, cx_put1, cx_put2, cx_dl, cx_tgt, true_and, and_true, Nat.reduceAdd, Nat.reduceSub, Int.reduceAdd, Int.reduceNeg, Int.reduceToNat, Int.reduceSub, Int.cast_ofNat_Int, List.take_succ_cons, List.take_zero, List.drop_succ_cons, List.drop_zero, List.take_nil, List.drop_nil, Option.toList_some, Option.toList_none, List.cons_append, List.nil_append, wp_spec, ne_eq, Nat.reduceEqDiff, not_false_eq_true, true_or, or_true]
  refine cl_X9_turnOf (Nat.le_of_ble_eq_true rfl) snt4 (by omega) (by omega) (e_X9_turnOf hY G4 (fun x w => absurd w List.not_mem_nil) snt4 s4 (fun f h5 G5 k5 s5 => ?_))
  have k45 := k4.trans k5
  have F5 := F.ev k45
  have R5 := R.st (P := fun _ => False) k45.x (fun _ z => z.elim)
  have sc : sc5 h5 a := ⟨k45.s S.s0 (by decide), k45.s S.s1 (by decide), k45.s S.s2 (by decide), k45.s S.s3 (by decide), k45.s S.s4 (by decide)⟩
  have ss5 : cq_s h5 a = 7 := sc.1
  have G6 : CI c n L Z E h0 [] (cq_sA h5 a 7 (some f)) := G5.sA (j := 7) (v := some f) ss5 (own_9 (by decide)) (fun b q => by cases q; exact s5) (fun q => (nomatch q)) rfl
  have ex6 : evx (scl a) h5 (cq_sA h5 a 7 (some f)) := evx.sA (P := scl a) evx.refl (Or.inl rfl)
  have F6 := F5.loose sc fr ex6
  have ncl : ∀ q, scl a q → cq_s h5 q ≠ 0 ∧ cq_s h5 q ≠ 100 ∧ cq_s h5 q ≠ 3 := fun q z => by
    have := sc.cl z
    omega
  have R6 := R5.st ex6 ncl
  have n1 : ¬ a + 1 = a := by omega
  have S6 : SR0 x a s (cq_sA h5 a 7 (some f)) G := S.fr (fun q w => (k45.2.1 q w).1) (k45.I S.s0 rfl) (k45.J S.s0 (by decide)) (fun j w => by rw [mm_sA, if_neg (fun z => w z.2), k45.A S.s0 rfl]) (k45.I S.s1 rfl) (by
    funext j
    rw [mm_sA, if_neg (fun z => n1 z.1), k45.A S.s1 rfl]) (k45.J S.s2 (by decide)) (k45.I S.s3 rfl) (k45.J S.s4 (by decide))
  have I6 : ∀ j, cq_I (cq_sA h5 a 7 (some f)) op j = cq_I h op j := fun j => by
    have z := k45.I F.s13 rfl
    rw [← z]
    rfl
  have J6 : ∀ j, cq_J (cq_sA h5 a 7 (some f)) op j = cq_J h op j := fun j => by
    have z := k45.J F.s13 (by decide)
    rw [← z]
    rfl
  have Jb6 : ∀ j, cq_J (cq_sA h5 a 7 (some f)) ob j = cq_J h ob j := fun j => by
    have z := k45.J F.sob (by decide)
    rw [← z]
    rfl
  have sc6 : sc5 (cq_sA h5 a 7 (some f)) a := sc
  refine bx_X10_openInNew_229 hY (pf2_ok hY) ?_
  simp only [wp_iconst, wp_bipush, wp_sipush, wp_ldc, wp_ldc2_w, wp_lconst0, wp_lconst1, wp_aconst_null, wp_iload_0, wp_istore_0, wp_iload_1, wp_istore_1, wp_iload_2, wp_istore_2, wp_iload_3, wp_istore_3, wp_iload, wp_istore, wp_lload_0, wp_lstore_0, wp_lload_1, wp_lstore_1, wp_lload_2, wp_lstore_2, wp_lload_3, wp_lstore_3, wp_lload, wp_lstore, wp_aload_0, wp_astore_0, wp_aload_1, wp_astore_1, wp_aload_2, wp_astore_2, wp_aload_3, wp_astore_3, wp_aload, wp_astore, wp_iinc, wp_iadd, wp_isub, wp_imul, wp_iand, wp_ior, wp_ixor, wp_ishl, wp_ishr, wp_iushr, wp_irem, wp_ladd, wp_lsub, wp_lmul, wp_land, wp_lor, wp_lxor, wp_lshl, wp_lshr, wp_lushr, wp_lrem, wp_lcmp, wp_i2l, wp_l2i, wp_dupI, wp_dupA, wp_dup2J, wp_dup2IA, wp_popI, wp_popA, wp_pop2, wp_goto, wp_if_eq, wp_icmp_eq, wp_if_ne, wp_icmp_ne, wp_if_lt, wp_icmp_lt, wp_if_ge, wp_icmp_ge, wp_if_gt, wp_icmp_gt, wp_if_le, wp_icmp_le, wp_ifnull, wp_ifnonnull, wp_acmp_eq, wp_acmp_ne, wp_tableswitch, wp_get0, wp_put0, wp_get1, wp_put1, wp_get2, wp_put2, wp_get3, wp_put3, wp_new, wp_newarray, wp_anewarray, wp_alen, wp_iaload, wp_laload, wp_baload, wp_aaload, wp_iastore, wp_lastore, wp_bastore, wp_aastore, wp_return, wp_ireturnI, wp_ireturnZ, wp_lreturn, wp_areturnO, wp_areturnA, wp_max, wp_min, wp_obj, wp_virt, wp_nil, ld_I0, ld_Is, ld_J0, ld_Js, ld_A0, ld_As, ha_0, ha_s, cx_put1, cx_put2, cx_dl, cx_tgt, true_and, and_true, Nat.reduceAdd, Nat.reduceSub, Int.reduceAdd, Int.reduceNeg, Int.reduceToNat, Int.reduceSub, Int.cast_ofNat_Int, List.take_succ_cons, List.take_zero, List.drop_succ_cons, List.drop_zero, List.take_nil, List.drop_nil, Option.toList_some, Option.toList_none, List.cons_append, List.nil_append, wp_spec, ne_eq, Nat.reduceEqDiff, not_false_eq_true, true_or, or_true, ss5]
  generalize cq_sA h5 a 7 (some f) = g6 at G6 F6 R6 S6 I6 J6 Jb6 sc6 ⊢
  clear ex6 ncl R5 F5 sc ss5 k45
  have gc6 := G6.cs
  have f6 := F6.fu u hu.1 hu.2
  have i16 := I6 1
  have i26 := I6 2
  have i36 := I6 3
  have i46 := I6 4
  have j56 := J6 5
  have j66 := J6 6
  rw [i1] at i16
  rw [i2] at i26
  rw [i3] at i36
  rw [i4] at i46
  rw [j5] at j56
  rw [j6] at j66
  have km6 := S6.km
  rw [Q.i53] at km6
  simp only [wp_iconst, wp_bipush, wp_sipush, wp_ldc, wp_ldc2_w, wp_lconst0, wp_lconst1, wp_aconst_null, wp_iload_0, wp_istore_0, wp_iload_1, wp_istore_1, wp_iload_2, wp_istore_2, wp_iload_3, wp_istore_3, wp_iload, wp_istore, wp_lload_0, wp_lstore_0, wp_lload_1, wp_lstore_1, wp_lload_2, wp_lstore_2, wp_lload_3, wp_lstore_3, wp_lload, wp_lstore, wp_aload_0, wp_astore_0, wp_aload_1, wp_astore_1, wp_aload_2, wp_astore_2, wp_aload_3, wp_astore_3, wp_aload, wp_astore, wp_iinc, wp_iadd, wp_isub, wp_imul, wp_iand, wp_ior, wp_ixor, wp_ishl, wp_ishr, wp_iushr, wp_irem, wp_ladd, wp_lsub, wp_lmul, wp_land, wp_lor, wp_lxor, wp_lshl, wp_lshr, wp_lushr, wp_lrem, wp_lcmp, wp_i2l, wp_l2i, wp_dupI, wp_dupA, wp_dup2J, wp_dup2IA, wp_popI, wp_popA, wp_pop2, wp_goto, wp_if_eq, wp_icmp_eq, wp_if_ne, wp_icmp_ne, wp_if_lt, wp_icmp_lt, wp_if_ge, wp_icmp_ge, wp_if_gt, wp_icmp_gt, wp_if_le, wp_icmp_le, wp_ifnull, wp_ifnonnull, wp_acmp_eq, wp_acmp_ne, wp_tableswitch, wp_get0, wp_put0, wp_get1, wp_put1, wp_get2, wp_put2, wp_get3, wp_put3, wp_new, wp_newarray, wp_anewarray, wp_alen, wp_iaload, wp_laload, wp_baload, wp_aaload, wp_iastore, wp_lastore, wp_bastore, wp_aastore, wp_return, wp_ireturnI, wp_ireturnZ, wp_lreturn, wp_areturnO, wp_areturnA, wp_max, wp_min, wp_obj, wp_virt, wp_nil, ld_I0, ld_Is, ld_J0, ld_Js, ld_A0, ld_As, ha_0, ha_s, cx_put1, cx_put2, cx_dl, cx_tgt, true_and, and_true, Nat.reduceAdd, Nat.reduceSub, Int.reduceAdd, Int.reduceNeg, Int.reduceToNat, Int.reduceSub, Int.cast_ofNat_Int, List.take_succ_cons, List.take_zero, List.drop_succ_cons, List.drop_zero, List.take_nil, List.drop_nil, Option.toList_some, Option.toList_none, List.cons_append, List.nil_append, wp_spec, ne_eq, Nat.reduceEqDiff, not_false_eq_true, true_or, or_true, gc6, F6.a13, F6.a12, F6.s12]
  refine cl_X10_secretOf (Nat.le_of_ble_eq_true rfl) gc6 (by omega) (by omega) (c_X10_secretOf hY G6 n26.2 (fun o' ho' => ?_))
  refine bx_X10_openInNew_254 hY (pf2_ok hY) ?_
  try simp only [wp_iconst, wp_bipush, wp_sipush, wp_ldc, wp_ldc2_w, wp_lconst0, wp_lconst1, wp_aconst_null, wp_iload_0, wp_istore_0, wp_iload_1, wp_istore_1, wp_iload_2, wp_istore_2, wp_iload_3, wp_istore_3, wp_iload, wp_istore, wp_lload_0, wp_lstore_0, wp_lload_1, wp_lstore_1, wp_lload_2, wp_lstore_2, wp_lload_3, wp_lstore_3, wp_lload, wp_lstore, wp_aload_0, wp_astore_0, wp_aload_1, wp_astore_1, wp_aload_2, wp_astore_2, wp_aload_3, wp_astore_3, wp_aload, wp_astore, wp_iinc, wp_iadd, wp_isub, wp_imul, wp_iand, wp_ior, wp_ixor, wp_ishl, wp_ishr, wp_iushr, wp_irem, wp_ladd, wp_lsub, wp_lmul, wp_land, wp_lor, wp_lxor, wp_lshl, wp_lshr, wp_lushr, wp_lrem, wp_lcmp, wp_i2l, wp_l2i, wp_dupI, wp_dupA, wp_dup2J, wp_dup2IA, wp_popI, wp_popA, wp_pop2, wp_goto, wp_if_eq, wp_icmp_eq, wp_if_ne, wp_icmp_ne, wp_if_lt, wp_icmp_lt, wp_if_ge, wp_icmp_ge, wp_if_gt, wp_icmp_gt, wp_if_le, wp_icmp_le, wp_ifnull, wp_ifnonnull, wp_acmp_eq, wp_acmp_ne, wp_tableswitch, wp_get0, wp_put0, wp_get1, wp_put1, wp_get2, wp_put2, wp_get3, wp_put3, wp_new, wp_newarray, wp_anewarray, wp_alen, wp_iaload, wp_laload, wp_baload, wp_aaload, wp_iastore, wp_lastore, wp_bastore, wp_aastore, wp_return, wp_ireturnI, wp_ireturnZ, wp_lreturn, wp_areturnO, wp_areturnA, wp_max, wp_min, wp_obj, wp_virt, wp_nil, ld_I0, ld_Is, ld_J0, ld_Js, ld_A0, ld_As, ha_0, ha_s, cx_put1, cx_put2, cx_dl, cx_tgt, true_and, and_true, Nat.reduceAdd, Nat.reduceSub, Int.reduceAdd, Int.reduceNeg, Int.reduceToNat, Int.reduceSub, Int.cast_ofNat_Int, List.take_succ_cons, List.take_zero, List.drop_succ_cons, List.drop_zero, List.take_nil, List.drop_nil, Option.toList_some, Option.toList_none, List.cons_append, List.nil_append, wp_spec, ne_eq, Nat.reduceEqDiff, not_false_eq_true, true_or, or_true]
  refine cl_X4_carryOut (Nat.le_of_ble_eq_true rfl) F6.s13 (by omega) (by omega) (e_X4_carryOut hY G6 (by omega) F6.s13 S6.s0 F6.s12 f6.s0 ho' F6.aob S6.a19 S6.k0 S6.k1 S6.k2 (fun _ => by omega) (Or.inl i16) (fun _ => Or.inr i26) (fun q => by omega) (fun _ q2 => by omega) (fun _ _ m q q' t G7 e7 st0 st j0 j1 => ?_))
  rw [i36, i46, j56, j66, R6.1.op, R6.1.pl, f6.dr, f6.sd] at e7
  rw [f6.dr, f6.sd] at j0 j1
  have S7 := S6.turn Q3 (by rw [Q.i53]; omega) f6.s0 rfl rfl (fun i y0 y1 => by omega) (fun i y0 y1 => by rw [Int.zero_add, Jb6]; exact a2 i y0 y1) e7 st j0 j1
  have D := up12_q (x := x) (u := u) (g := g)
  have F6' := fx_draw D F6 hu (ev.refl (h := coD g6 (pe u) t (cq_I g (x + 12) u)))
  have sc7 : sc5 (coD g6 (pe u) t (cq_I g (x + 12) u)) a := sc6
  have ex7 := tu_ex sc6 e7
  have g30 : ∀ j, cq_I (cq_sI g (x + 12) u (cq_I g (x + 12) u + 1)) (x + 30) j = cq_I g (x + 30) j := fun j => D.I_ 30 j (by decide) (by omega)
  have g29 : ∀ j, cq_I (cq_sI g (x + 12) u (cq_I g (x + 12) u + 1)) (x + 29) j = cq_I g (x + 29) j := fun j => D.I_ 29 j (by decide) (by omega)
  have fr7 : ∀ u' v' i, 0 ≤ u' → u' < n → 0 ≤ v' → v' < n → 0 ≤ i → i < cq_I (cq_sI g (x + 12) u (cq_I g (x + 12) u + 1)) (x + 30) (6 * u' + v') → T (cq_I (cq_sI g (x + 12) u (cq_I g (x + 12) u + 1)) (x + 29) (4 * (6 * u' + v') + i)) ≠ a := fun u' v' i y1 y2 y3 y4 y5 y6 => by
    rw [g30] at y6
    rw [g29]
    exact fr u' v' i y1 y2 y3 y4 y5 y6
  have F7 := F6'.loose sc7 fr7 ex7
  have sp6 := f6.s0
  have R7a := R6.st (P := fun q => q = pe u) (h' := coD g6 (pe u) t (cq_I g (x + 12) u)) (by
    unfold coD
    exact evx.sA (P := fun a => a = pe u) (evx.sI (P := fun a => a = pe u) evx.refl rfl) rfl) (fun q w => by rw [w, sp6]; decide)
  have R7 := R7a.st ex7 (fun q z => by
    have := sc7.cl z
    omega)
  clear e7 ex7 sc7 R7a F6' S6 R6 F6 st0 st j0 j1 G6 f6 I6 J6 Jb6 i16 i26 i36 i46 j56 j66 km6 sc6
  have hs7 : s = m_slotN (cq_sI g (x + 12) u (cq_I g (x + 12) u + 1)) x (6 * u + v) := by
    rw [slot_c (funext g29) (funext g30)]
    exact hs
  have e12 : ∀ o j, 1 ≤ o → ¬ (o = 12 ∧ j = u) → cq_I (cq_sI g (x + 12) u (cq_I g (x + 12) u + 1)) (x + o) j = cq_I g (x + o) j := D.I_
  have d12 := D.i12
  have dJ := D.J_
  have dx := D.x_
  generalize cq_sI g (x + 12) u (cq_I g (x + 12) u + 1) = g7 at F7 fr7 hs7 g29 g30 e12 d12 dJ dx
  clear D
  have c12 : cq_I G (x + 12) u = cq_I g (x + 12) u := Q.I_ 12 u (by decide) (by omega) (by omega) (by omega)
  have q30 : ∀ j, cq_I (bk x g gq) (x + 30) j = cq_I G (x + 30) j := fun j => by rw [b2 30 j (by decide) (by decide), A.I_ 30 j (by decide) (by decide) (by decide) (by unfold inS; omega) (by decide) (by omega)]
  have q29 : ∀ j, cq_I (bk x g gq) (x + 29) j = cq_I G (x + 29) j := fun j => by rw [b2 29 j (by decide) (by decide), A.I_ 29 j (by decide) (by decide) (by decide) (by unfold inS; omega) (by decide) (by omega)]
  have NQ7 : NQ x (6 * u + v) s g7 (bk x g gq) := ⟨by rw [q30, g30]; exact Q.nq.r30, fun i y0 y1 => by rw [g30] at y1; rw [q29, g29]; exact Q.nq.r29 i y0 y1⟩
  have eg : ∀ o j, 1 ≤ o → o ≤ 65 → o ∉ tL → ¬ (o = 30 ∧ j = 6 * u + v) → ¬ (o = 29 ∧ 4 * (6 * u + v) ≤ j ∧ j < 4 * (6 * u + v) + 4) → ¬ inS s o j → cq_I (bk x g gq) (x + o) j = cq_I g7 (x + o) j ∧ cq_J (bk x g gq) (x + o) j = cq_J g7 (x + o) j := by
    intro o j w1 w2 w3 w4 w5 w6
    have w7 : ¬ (((31 ≤ o ∧ o ≤ 47) ∨ o = 53) ∧ j = s) := fun z => w6 (Or.inl z)
    refine ⟨?_, ?_⟩
    · by_cases z : o = 65
      · rw [z, b3, e12 65 j (by decide) (by omega)]
      · rw [b2 o j w1 z]
        by_cases y : o = 12 ∧ j = u
        · rw [y.1, y.2, A.i12, d12, c12]
        · rw [A.I_ o j w1 w2 w3 w6 z y, Q.I_ o j w1 w4 w5 w7, e12 o j w1 y]
    · rw [b4, A.J_ o j w1 w2 w3 w6, Q.J_ o j w1 (fun z => w7 ⟨Or.inl z.1, z.2⟩), dJ o j w1]
  have gc7 := G7.cs
  have f7 := F7.fu u hu.1 hu.2
  have fo7 := F7.fo u v hu.1 hu.2 hv.1 hv.2
  have r13 := F7.r13 u hu.1 hu.2
  have zra : cq_z m (pe u + 6) = n := G7.tz r13.2
  have era := F7.ra u v hu.1 hu.2 hv.1 hv.2
  have e3 : cq_I m en 3 = v := R7.1.fr.trans ev_
  have x23 : cq_I (bk x g gq) (x + 23) u = cq_I g (x + 23) u := by rw [(eg 23 u (by decide) (by decide) (by decide) (by omega) (by omega) (by unfold inS; omega)).1, e12 23 u (by decide) (by omega)]
  have x58 : cq_I (bk x g gq) (x + 58) u = cq_I g (x + 58) u := by rw [(eg 58 u (by decide) (by decide) (by decide) (by omega) (by omega) (by unfold inS; omega)).1, e12 58 u (by decide) (by omega)]
  have x85 := b1 85
  refine bx_X10_openInNew_257 hY (pf2_ok hY) ?_
  simp only [wp_iconst, wp_bipush, wp_sipush, wp_ldc, wp_ldc2_w, wp_lconst0, wp_lconst1, wp_aconst_null, wp_iload_0, wp_istore_0, wp_iload_1, wp_istore_1, wp_iload_2, wp_istore_2, wp_iload_3, wp_istore_3, wp_iload, wp_istore, wp_lload_0, wp_lstore_0, wp_lload_1, wp_lstore_1, wp_lload_2, wp_lstore_2, wp_lload_3, wp_lstore_3, wp_lload, wp_lstore, wp_aload_0, wp_astore_0, wp_aload_1, wp_astore_1, wp_aload_2, wp_astore_2, wp_aload_3, wp_astore_3, wp_aload, wp_astore, wp_iinc, wp_iadd, wp_isub, wp_imul, wp_iand, wp_ior, wp_ixor, wp_ishl, wp_ishr, wp_iushr, wp_irem, wp_ladd, wp_lsub, wp_lmul, wp_land, wp_lor, wp_lxor, wp_lshl, wp_lshr, wp_lushr, wp_lrem, wp_lcmp, wp_i2l, wp_l2i, wp_dupI, wp_dupA, wp_dup2J, wp_dup2IA, wp_popI, wp_popA, wp_pop2, wp_goto, wp_if_eq, wp_icmp_eq, wp_if_ne, wp_icmp_ne, wp_if_lt, wp_icmp_lt, wp_if_ge, wp_icmp_ge, wp_if_gt, wp_icmp_gt, wp_if_le, wp_icmp_le, wp_ifnull, wp_ifnonnull, wp_acmp_eq, wp_acmp_ne, wp_tableswitch, wp_get0, wp_put0, wp_get1, wp_put1, wp_get2, wp_put2, wp_get3, wp_put3, wp_new, wp_newarray, wp_anewarray, wp_alen, wp_iaload, wp_laload, wp_baload, wp_aaload, wp_iastore, wp_lastore, wp_bastore, wp_aastore, wp_return, wp_ireturnI, wp_ireturnZ, wp_lreturn, wp_areturnO, wp_areturnA, wp_max, wp_min, wp_obj, wp_virt, wp_nil, ld_I0, ld_Is, ld_J0, ld_Js, ld_A0, ld_As, ha_0, ha_s, cx_put1, cx_put2, cx_dl, cx_tgt, true_and, and_true, Nat.reduceAdd, Nat.reduceSub, Int.reduceAdd, Int.reduceNeg, Int.reduceToNat, Int.reduceSub, Int.cast_ofNat_Int, List.take_succ_cons, List.take_zero, List.drop_succ_cons, List.drop_zero, List.take_nil, List.drop_nil, Option.toList_some, Option.toList_none, List.cons_append, List.nil_append, wp_spec, ne_eq, Nat.reduceEqDiff, not_false_eq_true, true_or, or_true, f7.s0, r13.1, gc7, F7.a12, F7.s12, e3, r13.2, zra, era, ra_181]
  refine ⟨by omega, ?_⟩
  refine cl_X6_putFirst (Nat.le_of_ble_eq_true rfl) fo7.s0 (by omega) (by omega) (e_X6_putFirst hY G7 List.not_mem_nil fo7.s0 S7.s0 S7.s9 (fun g8 G8 e8 => ?_))
  have F8 := fx_put F7 hu hv hs7 NQ7 S7 eg (fun j => by rw [b1, dx]) fr7 e8
  have t5 := fo7.s0
  have t182 := fo7.s1
  have R8 := R7.st (P := fun q => q = ro u v ∨ q = ro u v + 1) (h' := g8) (by
    rw [e8]
    unfold rwF
    exact (evx.refl.sI (Or.inl rfl)).rA (Or.inr rfl)) (fun q w => by
    rcases w with rfl | rfl
    · rw [t5]; decide
    · rw [t182]; decide)
  rw [← x85] at hK
  exact cw_room (Nat.zero_le _) (Nat.zero_le _) (on_note hY G8 F8 R8 hu hb eln eon ee (by rw [x58]; exact h58) (by rw [x85]; exact h85) (by rw [x23]; exact hon) (fun h' C' F' R' => hK h' _ C' F' R'))
end
/-! class and reference side by side: a first letter comes -/
section
variable {Y : cx_Y} {K : Option cx_V → cx_Q → Prop} {c x : Nat} {n L Z : Int} {E : Nat → Option Int} {h0 : cx_Q} {h g G : cx_Q} {pe : Int → Nat} {ro : Int → Int → Nat} {pa lb tp rd en op ob : Nat} {T Lf : Int → Nat}
/-- from the ROOT on -/
theorem on_made (hY : cY Y) {b d : Nat} {oc : Option Nat} {u v s l ln on : Int} {e root : Int64} (H : CI c n L Z E h0 [] h) (hZ : Z ≤ 900000) (F : FX c x n pe ro pa lb tp rd en op ob T Lf h g) (R : ER x en b l h g) (Q : GQ x u (6 * u + v) s ln e root g G) (hs : s = m_slotN g x (6 * u + v)) (hu : 0 ≤ u ∧ u < n) (hv : 0 ≤ v ∧ v < n) (ev_ : cq_I g (x + 62) (100 * l + 1) = v) (hb : cq_I g (x + 62) (100 * l) = 1) (eln : (m_bytes g x 19 2).toInt32.toInt = ln) (eon : (m_bytes g x 21 2).toInt32.toInt = on) (ee : m_bytes g x 11 8 = e) (hU : cq_I g (x + 11) u ≠ 0) (sd : cq_s h d = 6) (jd0 : cq_J h d 0 = cq_J g (x + 17) (21 * u + ln)) (hoc : ∀ b, oc = some b → cq_s h b = 6) (h81 : 0 ≤ cq_I g x 81) (h58 : cq_I g (x + 58) u < 100) (h85 : cq_I g x 85 < 100) (hon : on = 0 ∨ (1 ≤ on ∧ on ≤ cq_I g (x + 23) u))
    (hF : m_openA G x l s ≠ 0 → ∀ m h', 1 ≤ m → m ≤ 10 → CI c n L (Z + 1) E h0 [] h' → FX c x n pe ro pa lb tp rd en op ob T Lf h' g → ER x en b l h' g → K (some (.inl m)) h')
    (hK : m_openA G x l s = 0 → ∀ h' T', CI c n L (Z + 1) E h0 [] h' → FX c x n pe ro pa lb tp rd en op ob T' Lf h' (bk x g (m_cfD (m_openQ G x u s) x u s ln on e)) → EK x en b op l (m_cfK g x u ln root) g h' → K (some (.inl 0)) h')
    (m : cx_Q) (G1 : CI c n L Z E h0 [] m) (S1 : SR0 x h.1 s m G) (k21 : ev h m) (e12 : cq_A m h.1 12 = some d) : cw Y mi_X10_openInNew K 167 [some (.inr (.inr (some c))), some (.inr (.inr (some (pe u)))), some (.inr (.inr (some d))), some (.inr (.inr oc)), some (.inr (.inl root)), none, none, none] [.inr (.inr (some h.1))] m 11 283 := by
  have hal := H.al h.1 (Nat.le_refl _)
  have F1 := F.ev k21
  have R1 := R.ex (P := fun _ => False) k21.x id id
  have RG := R1.gq Q
  obtain ⟨ek, et, eb, eh, ec, e0, ey⟩ := cfG_v Q
  have cA := cfG_A (l := l) Q
  have gc1 := G1.cs
  have jw0 : cq_J m d 0 = cq_J G (x + 36) s := by rw [k21.J sd (by decide), jd0, Q.j36]
  have ht : (1 : Int) = cT (cq_I m h.1 15) (cq_J m en 9) (cq_J m h.1 13) := by rw [pl_t S1 RG]; exact et.symm
  have hkf : (-1 : Int) = kfi m (h.1 + 2) (h.1 + 3) (cq_J m en 9) (cq_I m en 11) (cq_I m (h.1 + 1) 4).toNat 0 := by rw [pl_kf S1 RG, ek, if_pos rfl]
  have pk := pl_ok S1 RG (w := d) (t := 1) (kf := -1) jw0 et.symm (by rw [ek, if_pos rfl])
  have ol := pl_old S1 RG (t := 1) (Or.inr rfl)
  rw [eb, eh] at ol
  have ch := pl_ch S1 RG (w := d) (t := 1) (Or.inr rfl) jw0 (fun q => absurd q.1 (by decide))
  rw [e0] at ch
  have key := pl_key S1 RG (w := d) (t := 1) (Or.inr rfl) jw0 (fun q => absurd q.1 (by decide))
  rw [ey] at key
  have com : f_common (cq_J m d 0) (cq_J m en 9) = f_common (cq_J g (x + 17) (21 * u + ln)) (cq_J g x 79) := by rw [jw0, Q.j36, R1.op]
  have rt1 := S1.rt
  rw [Q.j31] at rt1
  have fr : ∀ u' v' i, 0 ≤ u' → u' < n → 0 ≤ v' → v' < n → 0 ≤ i → i < cq_I g (x + 30) (6 * u' + v') → T (cq_I g (x + 29) (4 * (6 * u' + v') + i)) ≠ h.1 := fun u' v' i y1 y2 y3 y4 y5 y6 z => by
    have := ((F.fo u' v' y1 y2 y3 y4).ss i y5 y6).s0
    rw [z, hal] at this
    exact absurd this (by decide)
  refine bx_X10_openInNew_167 hY (pf2_ok hY) ?_
  simp only [wp_iconst, wp_bipush, wp_sipush, wp_ldc, wp_ldc2_w, wp_lconst0, wp_lconst1, wp_aconst_null, wp_iload_0, wp_istore_0, wp_iload_1, wp_istore_1, wp_iload_2, wp_istore_2, wp_iload_3, wp_istore_3, wp_iload, wp_istore, wp_lload_0, wp_lstore_0, wp_lload_1, wp_lstore_1, wp_lload_2, wp_lstore_2, wp_lload_3, wp_lstore_3, wp_lload, wp_lstore, wp_aload_0, wp_astore_0, wp_aload_1, wp_astore_1, wp_aload_2, wp_astore_2, wp_aload_3, wp_astore_3, wp_aload, wp_astore, wp_iinc, wp_iadd, wp_isub, wp_imul, wp_iand, wp_ior, wp_ixor, wp_ishl, wp_ishr, wp_iushr, wp_irem, wp_ladd, wp_lsub, wp_lmul, wp_land, wp_lor, wp_lxor, wp_lshl, wp_lshr, wp_lushr, wp_lrem, wp_lcmp, wp_i2l, wp_l2i, wp_dupI, wp_dupA, wp_dup2J, wp_dup2IA, wp_popI, wp_popA, wp_pop2, wp_goto, wp_if_eq, wp_icmp_eq, wp_if_ne, wp_icmp_ne, wp_if_lt, wp_icmp_lt, wp_if_ge, wp_icmp_ge, wp_if_gt, wp_icmp_gt, wp_if_le, wp_icmp_le, wp_ifnull, wp_ifnonnull, wp_acmp_eq, wp_acmp_ne, wp_tableswitch, wp_get0, wp_put0, wp_get1, wp_put1, wp_get2, wp_put2, wp_get3, wp_put3, wp_new, wp_newarray, wp_anewarray, wp_alen, wp_iaload, wp_laload, wp_baload, wp_aaload, wp_iastore, wp_lastore, wp_bastore, wp_aastore, wp_return, wp_ireturnI, wp_ireturnZ, wp_lreturn, wp_areturnO, wp_areturnA, wp_max, wp_min, wp_obj, wp_virt, wp_nil, ld_I0, ld_Is, ld_J0, ld_Js, ld_A0, ld_As, ha_0, ha_s, cx_put1, cx_put2, cx_dl, cx_tgt, true_and, and_true, Nat.reduceAdd, Nat.reduceSub, Int.reduceAdd, Int.reduceNeg, Int.reduceToNat, Int.reduceSub, Int.cast_ofNat_Int, List.take_succ_cons, List.take_zero, List.drop_succ_cons, List.drop_zero, List.take_nil, List.drop_nil, Option.toList_some, Option.toList_none, List.cons_append, List.nil_append, wp_spec, ne_eq, Nat.reduceEqDiff, not_false_eq_true, true_or, or_true, gc1, F1.a13, F1.a12]
  refine cl_X4_plan (Nat.le_of_ble_eq_true rfl) F1.s13 (by omega) (by omega) (e_X4_plan hY G1 F1.s13 S1.s0 F1.s12 F1.aob S1.a19 S1.k0 S1.k1 S1.k2 e12 ht hkf rfl rfl (fun m2 g2 y1 y2 G2 o no => ?_) (fun k0 _ _ _ _ _ _ _ => absurd k0 (by decide)) (fun _ cs tg g2 G2 o i1 i2 i3 i4 j5 j6 j7 a1 a2 => ?_))
  · have no' : m_openA G x l s ≠ 0 := fun z => no (pk.mpr z)
    have F2 := F1.ox o
    have R2 := R1.ox o F1.s13 F1.sob
    have gc2 := G2.cs
    obtain ⟨nt, ent, snt⟩ := G2.g9_14 gc2 List.not_mem_nil
    refine bx_X10_openInNew_182 hY (pf2_ok hY) ?_
    simp only [wp_iconst, wp_bipush, wp_sipush, wp_ldc, wp_ldc2_w, wp_lconst0, wp_lconst1, wp_aconst_null, wp_iload_0, wp_istore_0, wp_iload_1, wp_istore_1, wp_iload_2, wp_istore_2, wp_iload_3, wp_istore_3, wp_iload, wp_istore, wp_lload_0, wp_lstore_0, wp_lload_1, wp_lstore_1, wp_lload_2, wp_lstore_2, wp_lload_3, wp_lstore_3, wp_lload, wp_lstore, wp_aload_0, wp_astore_0, wp_aload_1, wp_astore_1, wp_aload_2, wp_astore_2, wp_aload_3, wp_astore_3, wp_aload, wp_astore, wp_iinc, wp_iadd, wp_isub, wp_imul, wp_iand, wp_ior, wp_ixor, wp_ishl, wp_ishr, wp_iushr, wp_irem, wp_ladd, wp_lsub, wp_lmul, wp_land, wp_lor, wp_lxor, wp_lshl, wp_lshr, wp_lushr, wp_lrem, wp_lcmp, wp_i2l, wp_l2i, wp_dupI, wp_dupA, wp_dup2J, wp_dup2IA, wp_popI, wp_popA, wp_pop2, wp_goto, wp_if_eq, wp_icmp_eq, wp_if_ne, wp_icmp_ne, wp_if_lt, wp_icmp_lt, wp_if_ge, wp_icmp_ge, wp_if_gt, wp_icmp_gt, wp_if_le, wp_icmp_le, wp_ifnull, wp_ifnonnull, wp_acmp_eq, wp_acmp_ne, wp_tableswitch, wp_get0, wp_put0, wp_get1, wp_put1, wp_get2, wp_put2, wp_get3, wp_put3, wp_new, wp_newarray, wp_anewarray, wp_alen, wp_iaload, wp_laload, wp_baload, wp_aaload, wp_iastore, wp_lastore, wp_bastore, wp_aastore, wp_return, wp_ireturnI, wp_ireturnZ, wp_lreturn, wp_areturnO, wp_areturnA, wp_max, wp_min, wp_obj, wp_virt, wp_nil, ld_I0, ld_Is, ld_J0, ld_Js, ld_A0, ld_As, ha_0, ha_s, cx_put1, cx_put2, cx_dl, cx_tgt, true_and, and_true, Nat.reduceAdd, Nat.reduceSub, Int.reduceAdd, Int.reduceNeg, Int.reduceToNat, Int.reduceSub, Int.cast_ofNat_Int, List.take_succ_cons, List.take_zero, List.drop_succ_cons, List.drop_zero, List.take_nil, List.drop_nil, Option.toList_some, Option.toList_none, List.cons_append, List.nil_append, wp_spec, ne_eq, Nat.reduceEqDiff, not_false_eq_true, true_or, or_true, gc2, F2.a12, F2.s12, ent]
    refine ⟨fun _ => ?_, fun q => absurd q (by omega)⟩
    refine bx_X10_openInNew_313 hY (pf2_ok hY) ?_
    simp only [wp_iconst, wp_bipush, wp_sipush, wp_ldc, wp_ldc2_w, wp_lconst0, wp_lconst1, wp_aconst_null, wp_iload_0, wp_istore_0, wp_iload_1, wp_istore_1, wp_iload_2, wp_istore_2, wp_iload_3, wp_istore_3, wp_iload, wp_istore, wp_lload_0, wp_lstore_0, wp_lload_1, wp_lstore_1, wp_lload_2, wp_lstore_2, wp_lload_3, wp_lstore_3, wp_lload, wp_lstore, wp_aload_0, wp_astore_0, wp_aload_1, wp_astore_1, wp_aload_2, wp_astore_2, wp_aload_3, wp_astore_3, wp_aload, wp_astore, wp_iinc, wp_iadd, wp_isub, wp_imul, wp_iand, wp_ior, wp_ixor, wp_ishl, wp_ishr, wp_iushr, wp_irem, wp_ladd, wp_lsub, wp_lmul, wp_land, wp_lor, wp_lxor, wp_lshl, wp_lshr, wp_lushr, wp_lrem, wp_lcmp, wp_i2l, wp_l2i, wp_dupI, wp_dupA, wp_dup2J, wp_dup2IA, wp_popI, wp_popA, wp_pop2, wp_goto, wp_if_eq, wp_icmp_eq, wp_if_ne, wp_icmp_ne, wp_if_lt, wp_icmp_lt, wp_if_ge, wp_icmp_ge, wp_if_gt, wp_icmp_gt, wp_if_le, wp_icmp_le, wp_ifnull, wp_ifnonnull, wp_acmp_eq, wp_acmp_ne, wp_tableswitch, wp_get0, wp_put0, wp_get1, wp_put1, wp_get2, wp_put2, wp_get3, wp_put3, wp_new, wp_newarray, wp_anewarray, wp_alen, wp_iaload, wp_laload, wp_baload, wp_aaload, wp_iastore, wp_lastore, wp_bastore, wp_aastore, wp_return, wp_ireturnI, wp_ireturnZ, wp_lreturn, wp_areturnO, wp_areturnA, wp_max, wp_min, wp_obj, wp_virt, wp_nil, ld_I0, ld_Is, ld_J0, ld_Js, ld_A0, ld_As, ha_0, ha_s, cx_put1, cx_put2, cx_dl, cx_tgt, true_and, and_true, Nat.reduceAdd, Nat.reduceSub, Int.reduceAdd, Int.reduceNeg, Int.reduceToNat, Int.reduceSub, Int.cast_ofNat_Int, List.take_succ_cons, List.take_zero, List.drop_succ_cons, List.drop_zero, List.take_nil, List.drop_nil, Option.toList_some, Option.toList_none, List.cons_append, List.nil_append, wp_spec, ne_eq, Nat.reduceEqDiff, not_false_eq_true, true_or, or_true]
    exact hF no' m2 g2 y1 y2 (G2.up (by omega)) F2 R2
  · have ok : m_openA G x l s = 0 := pk.mp (Or.inr ⟨rfl, cs, tg⟩)
    have n10 : cq_I g x 81 ≤ 10 := by
      rw [cA] at ok
      by_cases z : 10 < cq_I g x 81
      · rw [if_pos z] at ok; exact absurd ok (by decide)
      · omega
    have F2 := F1.ox o
    have R2 := R1.ox o F1.s13 F1.sob
    have so := F1.s13
    have sob := F1.sob
    have S1c := S1
    have nop : ∀ {q w : Nat}, cq_s m q = w → w ≠ 3 → q ≠ op := fun {q w} y1 y2 z => y2 (by rw [← y1, z, so])
    have nob : ∀ {q w : Nat}, cq_s m q = w → w ≠ 175 → q ≠ ob := fun {q w} y1 y2 z => y2 (by rw [← y1, z, sob])
    have S2 : SR0 x h.1 s g2 G := S1.fr (fun q _ => by rw [o.2.1]) (o.2.2.2.2.1 _ (nop S1.s0 (by decide))) (o.2.2.2.2.2 _ (nop S1.s0 (by decide)) (nob S1.s0 (by decide))) (fun j _ => by rw [o.2.2.2.1]) (o.2.2.2.2.1 _ (nop S1.s1 (by decide))) (by rw [o.2.2.2.1]) (o.2.2.2.2.2 _ (nop S1.s2 (by decide)) (nob S1.s2 (by decide))) (o.2.2.2.2.1 _ (nop S1.s3 (by decide))) (o.2.2.2.2.2 _ (nop S1.s4 (by decide)) (nob S1.s4 (by decide)))
    rw [ol.1] at i3 a2
    rw [ol.2] at i4
    rw [ol.2, ch] at j6
    rw [ol.2, ch] at a2
    rw [key] at j7
    have j5' := j5 rfl
    rw [rt1, com] at j5'
    have sd2 : cq_s g2 d = 6 := by rw [o.2.1]; exact k21.s sd (by decide)
    refine on_tail hY G2 hZ F2 ⟨R2, j7, F2.s13⟩ S2 Q hs fr hu hv ev_ hb eln eon ee hU sd2 (fun b w => by rw [o.2.1]; exact k21.s (hoc b w) (by decide)) ⟨h81, n10⟩ h58 h85 hon i1 i2 i3 i4 j5' j6 (fun i y0 y1 => ?_) (hK ok)
    have y := a2 i y0 y1
    rw [Int.zero_add] at y
    exact y
theorem f_X10_openInNew (hY : cY Y) {b : Nat} {u v l ln on : Int} {who e : Int64} (H : CI c n L Z E h0 [] h) (hZ : Z ≤ 900000) (F : FX c x n pe ro pa lb tp rd en op ob T Lf h g) (R : ER x en b l h g) (hu : 0 ≤ u ∧ u < n) (hv : 0 ≤ v ∧ v < n) (ev_ : cq_I g (x + 62) (100 * l + 1) = v) (hb : cq_I g (x + 62) (100 * l) = 1) (eln : (m_bytes g x 19 2).toInt32.toInt = ln) (eon : (m_bytes g x 21 2).toInt32.toInt = on) (ewho : m_bytes g x 3 8 = who) (ee : m_bytes g x 11 8 = e) (hU : cq_I g (x + 11) u ≠ 0) (o0 : 0 ≤ on) (h81 : 0 ≤ cq_I g x 81) (h58 : cq_I g (x + 58) u < 100) (h85 : cq_I g x 85 ≤ 100)
    (hF : m_cfA1 g x l u ln on who e ≠ 0 → ∀ m h', 1 ≤ m → m ≤ 10 → CI c n L (Z + 1) E h0 [] h' → FX c x n pe ro pa lb tp rd en op ob T Lf h' g → ER x en b l h' g → K (some (.inl m)) h')
    (hK : m_cfA1 g x l u ln on who e = 0 → ∀ h' T', CI c n L (Z + 1) E h0 [] h' → FX c x n pe ro pa lb tp rd en op ob T' Lf h' (bk x g (m_cfQ0 g x u v ln on who e)) → EK x en b op l (m_cfK g x u ln (m_cfR g x u ln on who e)) g h' → K (some (.inl 0)) h') : cw Y mi_X10_openInNew K 0 [some (.inr (.inr (some c))), some (.inr (.inr (some (pe u)))), none, none, none, none, none, none] [] h 17 388 := by
  have hc := H.cs
  have H1 := H.up (Z' := Z + 1) (by omega)
  have fu := F.fu u hu.1 hu.2
  have fo := F.fo u v hu.1 hu.2 hv.1 hv.2
  have sp := fu.s0
  have nb := R.nb hb
  rw [ewho, ee, eln, eon] at nb
  obtain ⟨di, edi, sdi, jdi0, jdi1, _⟩ := fu.n1 hU
  have lnf := fu.ln
  have onf := fu.on
  have mcf := F.fs.mc
  refine bx_X10_openInNew_0 hY (pf2_ok hY) ?_
  simp only [wp_iconst, wp_bipush, wp_sipush, wp_ldc, wp_ldc2_w, wp_lconst0, wp_lconst1, wp_aconst_null, wp_iload_0, wp_istore_0, wp_iload_1, wp_istore_1, wp_iload_2, wp_istore_2, wp_iload_3, wp_istore_3, wp_iload, wp_istore, wp_lload_0, wp_lstore_0, wp_lload_1, wp_lstore_1, wp_lload_2, wp_lstore_2, wp_lload_3, wp_lstore_3, wp_lload, wp_lstore, wp_aload_0, wp_astore_0, wp_aload_1, wp_astore_1, wp_aload_2, wp_astore_2, wp_aload_3, wp_astore_3, wp_aload, wp_astore, wp_iinc, wp_iadd, wp_isub, wp_imul, wp_iand, wp_ior, wp_ixor, wp_ishl, wp_ishr, wp_iushr, wp_irem, wp_ladd, wp_lsub, wp_lmul, wp_land, wp_lor, wp_lxor, wp_lshl, wp_lshr, wp_lushr, wp_lrem, wp_lcmp, wp_i2l, wp_l2i, wp_dupI, wp_dupA, wp_dup2J, wp_dup2IA, wp_popI, wp_popA, wp_pop2, wp_goto, wp_if_eq, wp_icmp_eq, wp_if_ne, wp_icmp_ne, wp_if_lt, wp_icmp_lt, wp_if_ge, wp_icmp_ge, wp_if_gt, wp_icmp_gt, wp_if_le, wp_icmp_le, wp_ifnull, wp_ifnonnull, wp_acmp_eq, wp_acmp_ne, wp_tableswitch, wp_get0, wp_put0, wp_get1, wp_put1, wp_get2, wp_put2, wp_get3, wp_put3, wp_new, wp_newarray, wp_anewarray, wp_alen, wp_iaload, wp_laload, wp_baload, wp_aaload, wp_iastore, wp_lastore, wp_bastore, wp_aastore, wp_return, wp_ireturnI, wp_ireturnZ, wp_lreturn, wp_areturnO, wp_areturnA, wp_max, wp_min, wp_obj, wp_virt, wp_nil, ld_I0, ld_Is, ld_J0, ld_Js, ld_A0, ld_As, ha_0, ha_s, cx_put1, cx_put2, cx_dl, cx_tgt, true_and, and_true, Nat.reduceAdd, Nat.reduceSub, Int.reduceAdd, Int.reduceNeg, Int.reduceToNat, Int.reduceSub, Int.cast_ofNat_Int, List.take_succ_cons, List.take_zero, List.drop_succ_cons, List.drop_zero, List.take_nil, List.drop_nil, Option.toList_some, Option.toList_none, List.cons_append, List.nil_append, wp_spec, ne_eq, Nat.reduceEqDiff, not_false_eq_true, true_or, or_true, hc, F.a12, F.s12, nb.2.2.1]
  refine cl_X5_keptLentKey (Nat.le_of_ble_eq_true rfl) sp (by omega) (by omega) (e_X5_keptLentKey hY H sp fu.a8 (fun no => ?_) (fun m1 m2 m3 => ?_))
  · have no' : m_cfA1 g x l u ln on who e ≠ 0 := by
      have c1 : ln < 1 ∨ cq_I g (x + 16) u < ln ∨ ln < cq_I g (x + 16) u - 1 := by omega
      unfold m_cfA1
      rw [if_pos c1]
      decide
    refine bx_X10_openInNew_11 hY (pf2_ok hY) ?_
    simp only [wp_iconst, wp_bipush, wp_sipush, wp_ldc, wp_ldc2_w, wp_lconst0, wp_lconst1, wp_aconst_null, wp_iload_0, wp_istore_0, wp_iload_1, wp_istore_1, wp_iload_2, wp_istore_2, wp_iload_3, wp_istore_3, wp_iload, wp_istore, wp_lload_0, wp_lstore_0, wp_lload_1, wp_lstore_1, wp_lload_2, wp_lstore_2, wp_lload_3, wp_lstore_3, wp_lload, wp_lstore, wp_aload_0, wp_astore_0, wp_aload_1, wp_astore_1, wp_aload_2, wp_astore_2, wp_aload_3, wp_astore_3, wp_aload, wp_astore, wp_iinc, wp_iadd, wp_isub, wp_imul, wp_iand, wp_ior, wp_ixor, wp_ishl, wp_ishr, wp_iushr, wp_irem, wp_ladd, wp_lsub, wp_lmul, wp_land, wp_lor, wp_lxor, wp_lshl, wp_lshr, wp_lushr, wp_lrem, wp_lcmp, wp_i2l, wp_l2i, wp_dupI, wp_dupA, wp_dup2J, wp_dup2IA, wp_popI, wp_popA, wp_pop2, wp_goto, wp_if_eq, wp_icmp_eq, wp_if_ne, wp_icmp_ne, wp_if_lt, wp_icmp_lt, wp_if_ge, wp_icmp_ge, wp_if_gt, wp_icmp_gt, wp_if_le, wp_icmp_le, wp_ifnull, wp_ifnonnull, wp_acmp_eq, wp_acmp_ne, wp_tableswitch, wp_get0, wp_put0, wp_get1, wp_put1, wp_get2, wp_put2, wp_get3, wp_put3, wp_new, wp_newarray, wp_anewarray, wp_alen, wp_iaload, wp_laload, wp_baload, wp_aaload, wp_iastore, wp_lastore, wp_bastore, wp_aastore, wp_return, wp_ireturnI, wp_ireturnZ, wp_lreturn, wp_areturnO, wp_areturnA, wp_max, wp_min, wp_obj, wp_virt, wp_nil, ld_I0, ld_Is, ld_J0, ld_Js, ld_A0, ld_As, ha_0, ha_s, cx_put1, cx_put2, cx_dl, cx_tgt, true_and, and_true, Nat.reduceAdd, Nat.reduceSub, Int.reduceAdd, Int.reduceNeg, Int.reduceToNat, Int.reduceSub, Int.cast_ofNat_Int, List.take_succ_cons, List.take_zero, List.drop_succ_cons, List.drop_zero, List.take_nil, List.drop_nil, Option.toList_some, Option.toList_none, List.cons_append, List.nil_append, wp_spec, ne_eq, Nat.reduceEqDiff, not_false_eq_true, true_or, or_true]
    exact ⟨fun i q => (nomatch q), fun _ => hF no' _ h (by omega) (by omega) H1 F R⟩
  obtain ⟨d, ed, sd, jd0, jd1⟩ := fu.lk ln m1 (by omega)
  rw [ed]
  have c1 : ¬ (ln < 1 ∨ cq_I g (x + 16) u < ln ∨ ln < cq_I g (x + 16) u - 1) := by omega
  have A1 : m_cfA1 g x l u ln on who e = if m_cfH g x u ln e ≠ -2 then 9 else m_cfA2 g x l u ln on who e := by
    unfold m_cfA1
    rw [if_neg c1]
  clear c1
  refine bx_X10_openInNew_11 hY (pf2_ok hY) ?_
  simp only [wp_iconst, wp_bipush, wp_sipush, wp_ldc, wp_ldc2_w, wp_lconst0, wp_lconst1, wp_aconst_null, wp_iload_0, wp_istore_0, wp_iload_1, wp_istore_1, wp_iload_2, wp_istore_2, wp_iload_3, wp_istore_3, wp_iload, wp_istore, wp_lload_0, wp_lstore_0, wp_lload_1, wp_lstore_1, wp_lload_2, wp_lstore_2, wp_lload_3, wp_lstore_3, wp_lload, wp_lstore, wp_aload_0, wp_astore_0, wp_aload_1, wp_astore_1, wp_aload_2, wp_astore_2, wp_aload_3, wp_astore_3, wp_aload, wp_astore, wp_iinc, wp_iadd, wp_isub, wp_imul, wp_iand, wp_ior, wp_ixor, wp_ishl, wp_ishr, wp_iushr, wp_irem, wp_ladd, wp_lsub, wp_lmul, wp_land, wp_lor, wp_lxor, wp_lshl, wp_lshr, wp_lushr, wp_lrem, wp_lcmp, wp_i2l, wp_l2i, wp_dupI, wp_dupA, wp_dup2J, wp_dup2IA, wp_popI, wp_popA, wp_pop2, wp_goto, wp_if_eq, wp_icmp_eq, wp_if_ne, wp_icmp_ne, wp_if_lt, wp_icmp_lt, wp_if_ge, wp_icmp_ge, wp_if_gt, wp_icmp_gt, wp_if_le, wp_icmp_le, wp_ifnull, wp_ifnonnull, wp_acmp_eq, wp_acmp_ne, wp_tableswitch, wp_get0, wp_put0, wp_get1, wp_put1, wp_get2, wp_put2, wp_get3, wp_put3, wp_new, wp_newarray, wp_anewarray, wp_alen, wp_iaload, wp_laload, wp_baload, wp_aaload, wp_iastore, wp_lastore, wp_bastore, wp_aastore, wp_return, wp_ireturnI, wp_ireturnZ, wp_lreturn, wp_areturnO, wp_areturnA, wp_max, wp_min, wp_obj, wp_virt, wp_nil, ld_I0, ld_Is, ld_J0, ld_Js, ld_A0, ld_As, ha_0, ha_s, cx_put1, cx_put2, cx_dl, cx_tgt, true_and, and_true, Nat.reduceAdd, Nat.reduceSub, Int.reduceAdd, Int.reduceNeg, Int.reduceToNat, Int.reduceSub, Int.cast_ofNat_Int, List.take_succ_cons, List.take_zero, List.drop_succ_cons, List.drop_zero, List.take_nil, List.drop_nil, Option.toList_some, Option.toList_none, List.cons_append, List.nil_append, wp_spec, ne_eq, Nat.reduceEqDiff, not_false_eq_true, true_or, or_true]
  refine ⟨fun i _ => ?_, fun q => (nomatch q)⟩
  refine bx_X10_openInNew_19 hY (pf2_ok hY) ?_
  simp only [wp_iconst, wp_bipush, wp_sipush, wp_ldc, wp_ldc2_w, wp_lconst0, wp_lconst1, wp_aconst_null, wp_iload_0, wp_istore_0, wp_iload_1, wp_istore_1, wp_iload_2, wp_istore_2, wp_iload_3, wp_istore_3, wp_iload, wp_istore, wp_lload_0, wp_lstore_0, wp_lload_1, wp_lstore_1, wp_lload_2, wp_lstore_2, wp_lload_3, wp_lstore_3, wp_lload, wp_lstore, wp_aload_0, wp_astore_0, wp_aload_1, wp_astore_1, wp_aload_2, wp_astore_2, wp_aload_3, wp_astore_3, wp_aload, wp_astore, wp_iinc, wp_iadd, wp_isub, wp_imul, wp_iand, wp_ior, wp_ixor, wp_ishl, wp_ishr, wp_iushr, wp_irem, wp_ladd, wp_lsub, wp_lmul, wp_land, wp_lor, wp_lxor, wp_lshl, wp_lshr, wp_lushr, wp_lrem, wp_lcmp, wp_i2l, wp_l2i, wp_dupI, wp_dupA, wp_dup2J, wp_dup2IA, wp_popI, wp_popA, wp_pop2, wp_goto, wp_if_eq, wp_icmp_eq, wp_if_ne, wp_icmp_ne, wp_if_lt, wp_icmp_lt, wp_if_ge, wp_icmp_ge, wp_if_gt, wp_icmp_gt, wp_if_le, wp_icmp_le, wp_ifnull, wp_ifnonnull, wp_acmp_eq, wp_acmp_ne, wp_tableswitch, wp_get0, wp_put0, wp_get1, wp_put1, wp_get2, wp_put2, wp_get3, wp_put3, wp_new, wp_newarray, wp_anewarray, wp_alen, wp_iaload, wp_laload, wp_baload, wp_aaload, wp_iastore, wp_lastore, wp_bastore, wp_aastore, wp_return, wp_ireturnI, wp_ireturnZ, wp_lreturn, wp_areturnO, wp_areturnA, wp_max, wp_min, wp_obj, wp_virt, wp_nil, ld_I0, ld_Is, ld_J0, ld_Js, ld_A0, ld_As, ha_0, ha_s, cx_put1, cx_put2, cx_dl, cx_tgt, true_and, and_true, Nat.reduceAdd, Nat.reduceSub, Int.reduceAdd, Int.reduceNeg, Int.reduceToNat, Int.reduceSub, Int.cast_ofNat_Int, List.take_succ_cons, List.take_zero, List.drop_succ_cons, List.drop_zero, List.take_nil, List.drop_nil, Option.toList_some, Option.toList_none, List.cons_append, List.nil_append, wp_spec, ne_eq, Nat.reduceEqDiff, not_false_eq_true, true_or, or_true, hc, F.a12, F.s12, nb.2.1, nb.2.2.1]
  refine cl_X5_hasSeen (Nat.le_of_ble_eq_true rfl) sp (by omega) (by omega) (e_X5_hasSeen hY H sp fu.a14 fu.a15 (fun no => ?_) (fun yes => ?_))
  rotate_left
  · have no' : m_cfA1 g x l u ln on who e ≠ 0 := by
      rw [A1, if_pos (hs_some fu yes)]
      decide
    refine bx_X10_openInNew_37 hY (pf2_ok hY) ?_
    simp only [wp_iconst, wp_bipush, wp_sipush, wp_ldc, wp_ldc2_w, wp_lconst0, wp_lconst1, wp_aconst_null, wp_iload_0, wp_istore_0, wp_iload_1, wp_istore_1, wp_iload_2, wp_istore_2, wp_iload_3, wp_istore_3, wp_iload, wp_istore, wp_lload_0, wp_lstore_0, wp_lload_1, wp_lstore_1, wp_lload_2, wp_lstore_2, wp_lload_3, wp_lstore_3, wp_lload, wp_lstore, wp_aload_0, wp_astore_0, wp_aload_1, wp_astore_1, wp_aload_2, wp_astore_2, wp_aload_3, wp_astore_3, wp_aload, wp_astore, wp_iinc, wp_iadd, wp_isub, wp_imul, wp_iand, wp_ior, wp_ixor, wp_ishl, wp_ishr, wp_iushr, wp_irem, wp_ladd, wp_lsub, wp_lmul, wp_land, wp_lor, wp_lxor, wp_lshl, wp_lshr, wp_lushr, wp_lrem, wp_lcmp, wp_i2l, wp_l2i, wp_dupI, wp_dupA, wp_dup2J, wp_dup2IA, wp_popI, wp_popA, wp_pop2, wp_goto, wp_if_eq, wp_icmp_eq, wp_if_ne, wp_icmp_ne, wp_if_lt, wp_icmp_lt, wp_if_ge, wp_icmp_ge, wp_if_gt, wp_icmp_gt, wp_if_le, wp_icmp_le, wp_ifnull, wp_ifnonnull, wp_acmp_eq, wp_acmp_ne, wp_tableswitch, wp_get0, wp_put0, wp_get1, wp_put1, wp_get2, wp_put2, wp_get3, wp_put3, wp_new, wp_newarray, wp_anewarray, wp_alen, wp_iaload, wp_laload, wp_baload, wp_aaload, wp_iastore, wp_lastore, wp_bastore, wp_aastore, wp_return, wp_ireturnI, wp_ireturnZ, wp_lreturn, wp_areturnO, wp_areturnA, wp_max, wp_min, wp_obj, wp_virt, wp_nil, ld_I0, ld_Is, ld_J0, ld_Js, ld_A0, ld_As, ha_0, ha_s, cx_put1, cx_put2, cx_dl, cx_tgt, true_and, and_true, Nat.reduceAdd, Nat.reduceSub, Int.reduceAdd, Int.reduceNeg, Int.reduceToNat, Int.reduceSub, Int.cast_ofNat_Int, List.take_succ_cons, List.take_zero, List.drop_succ_cons, List.drop_zero, List.take_nil, List.drop_nil, Option.toList_some, Option.toList_none, List.cons_append, List.nil_append, wp_spec, ne_eq, Nat.reduceEqDiff, not_false_eq_true, true_or, or_true]
    refine ⟨fun w => absurd w (by decide), fun _ => hF no' _ h (by omega) (by omega) H1 F R⟩
  have A2 : m_cfA1 g x l u ln on who e = m_cfA2 g x l u ln on who e := by
    rw [A1, if_neg (fun z => z (hs_none fu no))]
  clear A1 no
  refine bx_X10_openInNew_37 hY (pf2_ok hY) ?_
  simp only [wp_iconst, wp_bipush, wp_sipush, wp_ldc, wp_ldc2_w, wp_lconst0, wp_lconst1, wp_aconst_null, wp_iload_0, wp_istore_0, wp_iload_1, wp_istore_1, wp_iload_2, wp_istore_2, wp_iload_3, wp_istore_3, wp_iload, wp_istore, wp_lload_0, wp_lstore_0, wp_lload_1, wp_lstore_1, wp_lload_2, wp_lstore_2, wp_lload_3, wp_lstore_3, wp_lload, wp_lstore, wp_aload_0, wp_astore_0, wp_aload_1, wp_astore_1, wp_aload_2, wp_astore_2, wp_aload_3, wp_astore_3, wp_aload, wp_astore, wp_iinc, wp_iadd, wp_isub, wp_imul, wp_iand, wp_ior, wp_ixor, wp_ishl, wp_ishr, wp_iushr, wp_irem, wp_ladd, wp_lsub, wp_lmul, wp_land, wp_lor, wp_lxor, wp_lshl, wp_lshr, wp_lushr, wp_lrem, wp_lcmp, wp_i2l, wp_l2i, wp_dupI, wp_dupA, wp_dup2J, wp_dup2IA, wp_popI, wp_popA, wp_pop2, wp_goto, wp_if_eq, wp_icmp_eq, wp_if_ne, wp_icmp_ne, wp_if_lt, wp_icmp_lt, wp_if_ge, wp_icmp_ge, wp_if_gt, wp_icmp_gt, wp_if_le, wp_icmp_le, wp_ifnull, wp_ifnonnull, wp_acmp_eq, wp_acmp_ne, wp_tableswitch, wp_get0, wp_put0, wp_get1, wp_put1, wp_get2, wp_put2, wp_get3, wp_put3, wp_new, wp_newarray, wp_anewarray, wp_alen, wp_iaload, wp_laload, wp_baload, wp_aaload, wp_iastore, wp_lastore, wp_bastore, wp_aastore, wp_return, wp_ireturnI, wp_ireturnZ, wp_lreturn, wp_areturnO, wp_areturnA, wp_max, wp_min, wp_obj, wp_virt, wp_nil, ld_I0, ld_Is, ld_J0, ld_Js, ld_A0, ld_As, ha_0, ha_s, cx_put1, cx_put2, cx_dl, cx_tgt, true_and, and_true, Nat.reduceAdd, Nat.reduceSub, Int.reduceAdd, Int.reduceNeg, Int.reduceToNat, Int.reduceSub, Int.cast_ofNat_Int, List.take_succ_cons, List.take_zero, List.drop_succ_cons, List.drop_zero, List.take_nil, List.drop_nil, Option.toList_some, Option.toList_none, List.cons_append, List.nil_append, wp_spec, ne_eq, Nat.reduceEqDiff, not_false_eq_true, true_or, or_true]
  refine ⟨fun _ => ?_, fun w => absurd trivial w⟩
  have c54 : ∀ oc : Option Nat, (∀ b, oc = some b → cq_s h b = 6 ∧ cq_J h b 0 = cq_J g (x + 24) (61 * u + on)) → (oc = none ↔ ¬ (1 ≤ on ∧ on ≤ cq_I g (x + 23) u ∧ cq_I g (x + 28) (61 * u + on) ≠ 0)) → cw Y mi_X10_openInNew K 54 [some (.inr (.inr (some c))), some (.inr (.inr (some (pe u)))), some (.inr (.inr (some d))), none, none, none, none, none] [.inr (.inr oc)] h 17 388 := by
    intro oc hoc hn
    have j72 : ¬ (on ≠ 0 ∧ (cq_I g (x + 23) u < on ∨ cq_I g (x + 28) (61 * u + on) = 0)) → cw Y mi_X10_openInNew K 72 [some (.inr (.inr (some c))), some (.inr (.inr (some (pe u)))), some (.inr (.inr (some d))), some (.inr (.inr oc)), none, none, none, none] [] h 17 388 := by
      intro nbad
      unfold m_cfA2 at A2
      rw [if_neg nbad] at A2
      refine bx_X10_openInNew_72 hY (pf2_ok hY) ?_
      simp only [wp_iconst, wp_bipush, wp_sipush, wp_ldc, wp_ldc2_w, wp_lconst0, wp_lconst1, wp_aconst_null, wp_iload_0, wp_istore_0, wp_iload_1, wp_istore_1, wp_iload_2, wp_istore_2, wp_iload_3, wp_istore_3, wp_iload, wp_istore, wp_lload_0, wp_lstore_0, wp_lload_1, wp_lstore_1, wp_lload_2, wp_lstore_2, wp_lload_3, wp_lstore_3, wp_lload, wp_lstore, wp_aload_0, wp_astore_0, wp_aload_1, wp_astore_1, wp_aload_2, wp_astore_2, wp_aload_3, wp_astore_3, wp_aload, wp_astore, wp_iinc, wp_iadd, wp_isub, wp_imul, wp_iand, wp_ior, wp_ixor, wp_ishl, wp_ishr, wp_iushr, wp_irem, wp_ladd, wp_lsub, wp_lmul, wp_land, wp_lor, wp_lxor, wp_lshl, wp_lshr, wp_lushr, wp_lrem, wp_lcmp, wp_i2l, wp_l2i, wp_dupI, wp_dupA, wp_dup2J, wp_dup2IA, wp_popI, wp_popA, wp_pop2, wp_goto, wp_if_eq, wp_icmp_eq, wp_if_ne, wp_icmp_ne, wp_if_lt, wp_icmp_lt, wp_if_ge, wp_icmp_ge, wp_if_gt, wp_icmp_gt, wp_if_le, wp_icmp_le, wp_ifnull, wp_ifnonnull, wp_acmp_eq, wp_acmp_ne, wp_tableswitch, wp_get0, wp_put0, wp_get1, wp_put1, wp_get2, wp_put2, wp_get3, wp_put3, wp_new, wp_newarray, wp_anewarray, wp_alen, wp_iaload, wp_laload, wp_baload, wp_aaload, wp_iastore, wp_lastore, wp_bastore, wp_aastore, wp_return, wp_ireturnI, wp_ireturnZ, wp_lreturn, wp_areturnO, wp_areturnA, wp_max, wp_min, wp_obj, wp_virt, wp_nil, ld_I0, ld_Is, ld_J0, ld_Js, ld_A0, ld_As, ha_0, ha_s, cx_put1, cx_put2, cx_dl, cx_tgt, true_and, and_true, Nat.reduceAdd, Nat.reduceSub, Int.reduceAdd, Int.reduceNeg, Int.reduceToNat, Int.reduceSub, Int.cast_ofNat_Int, List.take_succ_cons, List.take_zero, List.drop_succ_cons, List.drop_zero, List.take_nil, List.drop_nil, Option.toList_some, Option.toList_none, List.cons_append, List.nil_append, wp_spec, ne_eq, Nat.reduceEqDiff, not_false_eq_true, true_or, or_true, hc]
      refine ⟨fun lt => ?_, fun ge => ?_⟩
      rotate_left
      · have e100 : cq_I g x 85 = 100 := by omega
        have no' : m_cfA1 g x l u ln on who e ≠ 0 := by
          rw [A2, if_pos e100]
          decide
        exact hF no' _ h (by omega) (by omega) H1 F R
      have n100 : ¬ cq_I g x 85 = 100 := by omega
      rw [if_neg n100] at A2
      -- the SESSION's memory
      have Q := cfG_q (x := x) (g := g) (u := u) (w := 6 * u + v) (ln := ln) (on := on) (e := e) (root := m_cfR g x u ln on who e) fo.r4
      have eA := (A2.trans (cfG_A (l := l) Q).symm)
      have eQ0 : m_cfQ0 g x u v ln on who e = m_cfD (m_openQ (m_cfG g x u (6 * u + v) ln on e (m_cfR g x u ln on who e)) x u (m_slotN g x (6 * u + v))) x u (m_slotN g x (6 * u + v)) ln on e := by
        unfold m_cfQ0
        try rfl
      rw [eQ0] at hK
      rw [eA] at hF hK
      clear eQ0 eA A2
      have eR : f_sum (f_common (cq_J g (x + 17) (21 * u + ln)) who) (f_common (cq_J g (x + 13) u) e) (f_common (cq_J g (x + 17) (21 * u + ln)) e) (if on = 0 then Int64.ofInt 0 else f_common (cq_J g (x + 24) (61 * u + on)) e) = m_cfR g x u ln on who e := by
        unfold m_cfR
        try rfl
      generalize m_cfG g x u (6 * u + v) ln on e (m_cfR g x u ln on who e) = G at Q hF hK
      generalize m_cfR g x u ln on who e = root at Q eR hF hK
      generalize hs : m_slotN g x (6 * u + v) = s at Q hF hK
      obtain ⟨nt, ent, snt⟩ := H.g9_14 hc List.not_mem_nil
      refine bx_X10_openInNew_84 hY (pf2_ok hY) ?_
      simp only [wp_iconst, wp_bipush, wp_sipush, wp_ldc, wp_ldc2_w, wp_lconst0, wp_lconst1, wp_aconst_null, wp_iload_0, wp_istore_0, wp_iload_1, wp_istore_1, wp_iload_2, wp_istore_2, wp_iload_3, wp_istore_3, wp_iload, wp_istore, wp_lload_0, wp_lstore_0, wp_lload_1, wp_lstore_1, wp_lload_2, wp_lstore_2, wp_lload_3, wp_lstore_3, wp_lload, wp_lstore, wp_aload_0, wp_astore_0, wp_aload_1, wp_astore_1, wp_aload_2, wp_astore_2, wp_aload_3, wp_astore_3, wp_aload, wp_astore, wp_iinc, wp_iadd, wp_isub, wp_imul, wp_iand, wp_ior, wp_ixor, wp_ishl, wp_ishr, wp_iushr, wp_irem, wp_ladd, wp_lsub, wp_lmul, wp_land, wp_lor, wp_lxor, wp_lshl, wp_lshr, wp_lushr, wp_lrem, wp_lcmp, wp_i2l, wp_l2i, wp_dupI, wp_dupA, wp_dup2J, wp_dup2IA, wp_popI, wp_popA, wp_pop2, wp_goto, wp_if_eq, wp_icmp_eq, wp_if_ne, wp_icmp_ne, wp_if_lt, wp_icmp_lt, wp_if_ge, wp_icmp_ge, wp_if_gt, wp_icmp_gt, wp_if_le, wp_icmp_le, wp_ifnull, wp_ifnonnull, wp_acmp_eq, wp_acmp_ne, wp_tableswitch, wp_get0, wp_put0, wp_get1, wp_put1, wp_get2, wp_put2, wp_get3, wp_put3, wp_new, wp_newarray, wp_anewarray, wp_alen, wp_iaload, wp_laload, wp_baload, wp_aaload, wp_iastore, wp_lastore, wp_bastore, wp_aastore, wp_return, wp_ireturnI, wp_ireturnZ, wp_lreturn, wp_areturnO, wp_areturnA, wp_max, wp_min, wp_obj, wp_virt, wp_nil, ld_I0, ld_Is, ld_J0, ld_Js, ld_A0, ld_As, ha_0, ha_s, cx_put1, cx_put2, cx_dl, cx_tgt, true_and, and_true, Nat.reduceAdd, Nat.reduceSub, Int.reduceAdd, Int.reduceNeg, Int.reduceToNat, Int.reduceSub, Int.cast_ofNat_Int, List.take_succ_cons, List.take_zero, List.drop_succ_cons, List.drop_zero, List.take_nil, List.drop_nil, Option.toList_some, Option.toList_none, List.cons_append, List.nil_append, wp_spec, ne_eq, Nat.reduceEqDiff, not_false_eq_true, true_or, or_true, wf_X3_mix, wf_X3_key, wf_X3_times, wf_X3_timesModuloQ, wf_X3_power, wf_X3_rest, wf_X3_secretOf, wf_X3_sealSum, wf_X3_sum, wf_X3_letterKey, wf_X3_nextOf, wf_X3_isOpen, wf_X3_veil, wf_X3_sealIsRight, cx_sz, cx_c2, cond_true, cond_false, Nat.reduceLeDiff, hc, F.a12, F.s12, sd, sp, edi, sdi, nb.1, nb.2.1, jd0, jdi0]
      refine cl_X10_commonWith (Nat.le_of_ble_eq_true rfl) (by omega) (by omega) (e_X10_commonWith hY (w := if on = 0 then Int64.ofInt 0 else f_common (cq_J g (x + 24) (61 * u + on)) e) (fun b w => (hoc b w).1) (fun b w => ?_) (fun w => ?_) ?_)
      · have o1 : ¬ on = 0 := fun z => by
          have := hn.mpr (fun y => by omega)
          rw [w] at this
          cases this
        rw [if_neg o1, (hoc b w).2]
      · have o1 : on = 0 := Classical.byContradiction fun z => by
          have y := hn.mp w
          exact nbad ⟨z, Classical.byContradiction fun q => y ⟨by omega, by omega, fun z2 => q (Or.inr z2)⟩⟩
        rw [if_pos o1]
      have hal := H.al h.1 (Nat.le_refl _)
      have M2 : CI c n L Z E h0 (h.1 :: []) (cq_nw h 7 0) := H.nw (s := 7) True.intro (fun q => absurd q (by decide))
      have k2 : ev h (cq_nw h 7 0) := ev.refl.nw hal
      have s2 : cq_s (cq_nw h 7 0) h.1 = 7 := nw_n.1
      have mc : cq_s (cq_nw h 7 0) c = 9 := k2.s hc (by decide)
      have me : cq_s (cq_nw h 7 0) en = 0 := k2.s F.s12 (by decide)
      have mA : cq_A (cq_nw h 7 0) c = cq_A h c := k2.A hc rfl
      have mJ : cq_J (cq_nw h 7 0) en = cq_J h en := k2.J F.s12 (by decide)
      refine bx_X10_openInNew_140 hY (pf2_ok hY) ?_
      simp only [wp_iconst, wp_bipush, wp_sipush, wp_ldc, wp_ldc2_w, wp_lconst0, wp_lconst1, wp_aconst_null, wp_iload_0, wp_istore_0, wp_iload_1, wp_istore_1, wp_iload_2, wp_istore_2, wp_iload_3, wp_istore_3, wp_iload, wp_istore, wp_lload_0, wp_lstore_0, wp_lload_1, wp_lstore_1, wp_lload_2, wp_lstore_2, wp_lload_3, wp_lstore_3, wp_lload, wp_lstore, wp_aload_0, wp_astore_0, wp_aload_1, wp_astore_1, wp_aload_2, wp_astore_2, wp_aload_3, wp_astore_3, wp_aload, wp_astore, wp_iinc, wp_iadd, wp_isub, wp_imul, wp_iand, wp_ior, wp_ixor, wp_ishl, wp_ishr, wp_iushr, wp_irem, wp_ladd, wp_lsub, wp_lmul, wp_land, wp_lor, wp_lxor, wp_lshl, wp_lshr, wp_lushr, wp_lrem, wp_lcmp, wp_i2l, wp_l2i, wp_dupI, wp_dupA, wp_dup2J, wp_dup2IA, wp_popI, wp_popA, wp_pop2, wp_goto, wp_if_eq, wp_icmp_eq, wp_if_ne, wp_icmp_ne, wp_if_lt, wp_icmp_lt, wp_if_ge, wp_icmp_ge, wp_if_gt, wp_icmp_gt, wp_if_le, wp_icmp_le, wp_ifnull, wp_ifnonnull, wp_acmp_eq, wp_acmp_ne, wp_tableswitch, wp_get0, wp_put0, wp_get1, wp_put1, wp_get2, wp_put2, wp_get3, wp_put3, wp_new, wp_newarray, wp_anewarray, wp_alen, wp_iaload, wp_laload, wp_baload, wp_aaload, wp_iastore, wp_lastore, wp_bastore, wp_aastore, wp_return, wp_ireturnI, wp_ireturnZ, wp_lreturn, wp_areturnO, wp_areturnA, wp_max, wp_min, wp_obj, wp_virt, wp_nil, ld_I0, ld_Is, ld_J0, ld_Js, ld_A0, ld_As, ha_0, ha_s, cx_put1, cx_put2, cx_dl, cx_tgt, true_and, and_true, Nat.reduceAdd, Nat.reduceSub, Int.reduceAdd, Int.reduceNeg, Int.reduceToNat, Int.reduceSub, Int.cast_ofNat_Int, List.take_succ_cons, List.take_zero, List.drop_succ_cons, List.drop_zero, List.take_nil, List.drop_nil, Option.toList_some, Option.toList_none, List.cons_append, List.nil_append, wp_spec, ne_eq, Nat.reduceEqDiff, not_false_eq_true, true_or, or_true, wf_X3_mix, wf_X3_key, wf_X3_times, wf_X3_timesModuloQ, wf_X3_power, wf_X3_rest, wf_X3_secretOf, wf_X3_sealSum, wf_X3_sum, wf_X3_letterKey, wf_X3_nextOf, wf_X3_isOpen, wf_X3_veil, wf_X3_sealIsRight, cx_sz, cx_c2, cond_true, cond_false, Nat.reduceLeDiff, mc, me, mA, mJ, F.a12, ent, nb.2.1]
      rw [g_power_f, g_power_f, g_power_f, eR]
      (repeat' (with_reducible (first | refine And.intro ?_ ?_ | intro _)))
      all_goals (try omega)
      refine cl_X8_init (Nat.le_of_ble_eq_true rfl) (by omega) (by omega) (e_X8_init hY M2 s2 (Or.inl rfl) (k2.s sd (by decide)) (k2.s snt (by decide)) (fun g1 G1 k1 w1 w2 w3 w4 w5 => ?_))
      have kn : (cq_nw h 7 0).1 = h.1 + 1 := rfl
      rw [kn] at k1 w1 w2 w3 w4 w5
      obtain ⟨S1, k21, e12⟩ := sr_new H Q G1 sd k1 w1 w2 w3 w4 w5
      exact cw_room (by omega) (by omega) (on_made hY H hZ F R Q hs.symm hu hv ev_ hb eln eon ee hU sd jd0 (fun b w => (hoc b w).1) h81 h58 (by omega) (by omega) hF hK g1 G1 S1 k21 e12)
    refine bx_X10_openInNew_54 hY (pf2_ok hY) ?_
    simp only [wp_iconst, wp_bipush, wp_sipush, wp_ldc, wp_ldc2_w, wp_lconst0, wp_lconst1, wp_aconst_null, wp_iload_0, wp_istore_0, wp_iload_1, wp_istore_1, wp_iload_2, wp_istore_2, wp_iload_3, wp_istore_3, wp_iload, wp_istore, wp_lload_0, wp_lstore_0, wp_lload_1, wp_lstore_1, wp_lload_2, wp_lstore_2, wp_lload_3, wp_lstore_3, wp_lload, wp_lstore, wp_aload_0, wp_astore_0, wp_aload_1, wp_astore_1, wp_aload_2, wp_astore_2, wp_aload_3, wp_astore_3, wp_aload, wp_astore, wp_iinc, wp_iadd, wp_isub, wp_imul, wp_iand, wp_ior, wp_ixor, wp_ishl, wp_ishr, wp_iushr, wp_irem, wp_ladd, wp_lsub, wp_lmul, wp_land, wp_lor, wp_lxor, wp_lshl, wp_lshr, wp_lushr, wp_lrem, wp_lcmp, wp_i2l, wp_l2i, wp_dupI, wp_dupA, wp_dup2J, wp_dup2IA, wp_popI, wp_popA, wp_pop2, wp_goto, wp_if_eq, wp_icmp_eq, wp_if_ne, wp_icmp_ne, wp_if_lt, wp_icmp_lt, wp_if_ge, wp_icmp_ge, wp_if_gt, wp_icmp_gt, wp_if_le, wp_icmp_le, wp_ifnull, wp_ifnonnull, wp_acmp_eq, wp_acmp_ne, wp_tableswitch, wp_get0, wp_put0, wp_get1, wp_put1, wp_get2, wp_put2, wp_get3, wp_put3, wp_new, wp_newarray, wp_anewarray, wp_alen, wp_iaload, wp_laload, wp_baload, wp_aaload, wp_iastore, wp_lastore, wp_bastore, wp_aastore, wp_return, wp_ireturnI, wp_ireturnZ, wp_lreturn, wp_areturnO, wp_areturnA, wp_max, wp_min, wp_obj, wp_virt, wp_nil, ld_I0, ld_Is, ld_J0, ld_Js, ld_A0, ld_As, ha_0, ha_s, cx_put1, cx_put2, cx_dl, cx_tgt, true_and, and_true, Nat.reduceAdd, Nat.reduceSub, Int.reduceAdd, Int.reduceNeg, Int.reduceToNat, Int.reduceSub, Int.cast_ofNat_Int, List.take_succ_cons, List.take_zero, List.drop_succ_cons, List.drop_zero, List.take_nil, List.drop_nil, Option.toList_some, Option.toList_none, List.cons_append, List.nil_append, wp_spec, ne_eq, Nat.reduceEqDiff, not_false_eq_true, true_or, or_true, hc, F.a12, F.s12, nb.2.2.2]
    refine ⟨fun q => j72 (fun z => z.1 q), fun q => ⟨fun i qi => j72 (fun z => ?_), fun qn => ?_⟩⟩
    · have : ¬ (1 ≤ on ∧ on ≤ cq_I g (x + 23) u ∧ cq_I g (x + 28) (61 * u + on) ≠ 0) := by omega
      have y := hn.mpr this
      rw [y] at qi
      cases qi
    · have y := hn.mp qn
      have c2 : on ≠ 0 ∧ (cq_I g (x + 23) u < on ∨ cq_I g (x + 28) (61 * u + on) = 0) := ⟨q, by omega⟩
      have no' : m_cfA1 g x l u ln on who e ≠ 0 := by
        rw [A2]
        unfold m_cfA2
        rw [if_pos c2]
        decide
      exact hF no' _ h (by omega) (by omega) H1 F R
  refine bx_X10_openInNew_43 hY (pf2_ok hY) ?_
  simp only [wp_iconst, wp_bipush, wp_sipush, wp_ldc, wp_ldc2_w, wp_lconst0, wp_lconst1, wp_aconst_null, wp_iload_0, wp_istore_0, wp_iload_1, wp_istore_1, wp_iload_2, wp_istore_2, wp_iload_3, wp_istore_3, wp_iload, wp_istore, wp_lload_0, wp_lstore_0, wp_lload_1, wp_lstore_1, wp_lload_2, wp_lstore_2, wp_lload_3, wp_lstore_3, wp_lload, wp_lstore, wp_aload_0, wp_astore_0, wp_aload_1, wp_astore_1, wp_aload_2, wp_astore_2, wp_aload_3, wp_astore_3, wp_aload, wp_astore, wp_iinc, wp_iadd, wp_isub, wp_imul, wp_iand, wp_ior, wp_ixor, wp_ishl, wp_ishr, wp_iushr, wp_irem, wp_ladd, wp_lsub, wp_lmul, wp_land, wp_lor, wp_lxor, wp_lshl, wp_lshr, wp_lushr, wp_lrem, wp_lcmp, wp_i2l, wp_l2i, wp_dupI, wp_dupA, wp_dup2J, wp_dup2IA, wp_popI, wp_popA, wp_pop2, wp_goto, wp_if_eq, wp_icmp_eq, wp_if_ne, wp_icmp_ne, wp_if_lt, wp_icmp_lt, wp_if_ge, wp_icmp_ge, wp_if_gt, wp_icmp_gt, wp_if_le, wp_icmp_le, wp_ifnull, wp_ifnonnull, wp_acmp_eq, wp_acmp_ne, wp_tableswitch, wp_get0, wp_put0, wp_get1, wp_put1, wp_get2, wp_put2, wp_get3, wp_put3, wp_new, wp_newarray, wp_anewarray, wp_alen, wp_iaload, wp_laload, wp_baload, wp_aaload, wp_iastore, wp_lastore, wp_bastore, wp_aastore, wp_return, wp_ireturnI, wp_ireturnZ, wp_lreturn, wp_areturnO, wp_areturnA, wp_max, wp_min, wp_obj, wp_virt, wp_nil, ld_I0, ld_Is, ld_J0, ld_Js, ld_A0, ld_As, ha_0, ha_s, cx_put1, cx_put2, cx_dl, cx_tgt, true_and, and_true, Nat.reduceAdd, Nat.reduceSub, Int.reduceAdd, Int.reduceNeg, Int.reduceToNat, Int.reduceSub, Int.cast_ofNat_Int, List.take_succ_cons, List.take_zero, List.drop_succ_cons, List.drop_zero, List.take_nil, List.drop_nil, Option.toList_some, Option.toList_none, List.cons_append, List.nil_append, wp_spec, ne_eq, Nat.reduceEqDiff, not_false_eq_true, true_or, or_true, hc, F.a12, F.s12, nb.2.2.2]
  refine cl_X5_keptOnceKey (Nat.le_of_ble_eq_true rfl) sp (by omega) (by omega) (e_X5_keptOnceKey hY H sp fu.a9 fu.a10 (fun no => ?_) (fun o1 o2 o3 => ?_))
  · refine c54 none (fun b w => (nomatch w)) ⟨fun _ z => ?_, fun _ => rfl⟩
    have y := (fu.ou on z.1 z.2.1).mpr z.2.2
    exact no ⟨z.1, by omega, y⟩
  · have y := (fu.ou on o1 (by omega)).mp o3
    obtain ⟨d2, ed2, sd2, jd20, _⟩ := fu.ok on o1 (by omega)
    rw [ed2]
    exact c54 (some d2) (fun b w => by cases w; exact ⟨sd2, jd20⟩) ⟨fun w => (nomatch w), fun w => absurd ⟨o1, by omega, y⟩ w⟩
end
/-! class and reference side by side: a letter with its beginning -/
section
variable {c x : Nat} {n : Int} {pe : Int → Nat} {ro : Int → Int → Nat} {pa lb tp rd en op ob : Nat} {T Lf : Int → Nat} {h g h' g' q : cx_Q} {w i : Int}
/-- the reference's memory counts by what it tells alone -/
theorem FX.same (F : FX c x n pe ro pa lb tp rd en op ob T Lf h g) (ex : ∀ j, ¬ (77 ≤ j ∧ j ≤ 83) → cq_I g' x j = cq_I g x j) (eI : ∀ o j, 1 ≤ o → cq_I g' (x + o) j = cq_I g (x + o) j) (eJ : ∀ o j, 1 ≤ o → cq_J g' (x + o) j = cq_J g (x + o) j) : FX c x n pe ro pa lb tp rd en op ob T Lf h g' := F.upS (P := fun _ => False) evx.refl (fun _ _ => False) (fun o j w1 _ _ _ => ⟨eI o j w1, eJ o j w1⟩) (fun _ z => z.elim) (fun _ _ z => z.elim) rfl rfl (ex 0 (by omega)) (ex 72 (by omega)) (F.fs.ex (P := fun _ => False) evx.refl id id id (fun j z => ex j (by omega)) (fun j => eI 61 j (by decide)) (fun j => eI 65 j (by decide)))
theorem eL.symm (e : eL x g g') : eL x g' g := ⟨e.1.symm, e.2.1.symm, e.2.2.1.symm, e.2.2.2.1.symm, fun a j z => ⟨(e.2.2.2.2 a j z).1.symm, (e.2.2.2.2 a j z).2.symm⟩⟩
theorem FX.eL (F : FX c x n pe ro pa lb tp rd en op ob T Lf h g) (e : eL x g g') : FX c x n pe ro pa lb tp rd en op ob T Lf h g' := F.same (fun j z => (e.2.2.2.2 x j (fun y => z y.2)).1) (fun o j z => (e.2.2.2.2 (x + o) j (by omega)).1) (fun o j z => (e.2.2.2.2 (x + o) j (by omega)).2)
theorem front_bk (hi : 0 ≤ i ∧ i < 4) : (∀ a j, cq_I (bk x g (m_front q x w i)) a j = cq_I (m_front (bk x g q) x w i) a j) ∧ ∀ a j, cq_J (bk x g (m_front q x w i)) a j = cq_J (m_front (bk x g q) x w i) a j := by
  obtain ⟨a1, a2, a3⟩ := front_q (x := x) (g := q) (w := w) (i := i) hi
  obtain ⟨b1, b2, b3⟩ := front_q (x := x) (g := bk x g q) (w := w) (i := i) hi
  have u1 : ∀ (m : cx_Q) (a : Nat) (j : Int), cq_I (bk x g m) a j = if a = x + 65 then cq_I g (x + 65) j else if a = x ∧ j = 75 then cq_I g x 75 else cq_I m a j := fun m a j => by
    unfold bk
    rw [rr_I]
    by_cases z : a = x + 65
    · rw [if_pos z, if_pos z]
    · rw [if_neg z, if_neg z, mm_sI]
  have u2 : ∀ (m : cx_Q) (a : Nat) (j : Int), cq_J (bk x g m) a j = cq_J m a j := fun m a j => rfl
  generalize m_front (bk x g q) x w i = B at b1 b2 b3 ⊢
  generalize m_front q x w i = A at a1 a2 a3 ⊢
  refine ⟨fun a j => ?_, fun a j => by rw [u2, a3, b3, u2]⟩
  by_cases z : a = x + 29 ∧ 4 * w ≤ j ∧ j < 4 * w + 4
  · have e : j = 4 * w + (j - 4 * w) := by omega
    rw [u1, if_neg (by omega), if_neg (by omega), z.1, e, a1 _ (by omega) (by omega), b1 _ (by omega) (by omega), u1, if_neg (by omega), if_neg (by omega)]
  · rw [b2 a j z, u1, u1, a2 a j z]
theorem fx_fbk (F : FX c x n pe ro pa lb tp rd en op ob T Lf h (m_front (bk x g q) x w i)) (hi : 0 ≤ i ∧ i < 4) : FX c x n pe ro pa lb tp rd en op ob T Lf h (bk x g (m_front q x w i)) := F.same (fun j _ => (front_bk hi).1 x j) (fun o j _ => (front_bk hi).1 (x + o) j) (fun o j _ => (front_bk hi).2 (x + o) j)
theorem RE.front {k : Int64} (A : RE x k g q) (hi : 0 ≤ i ∧ i < 4) : RE x k g (m_front q x w i) := by
  obtain ⟨a1, a2, a3⟩ := front_q (x := x) (g := q) (w := w) (i := i) hi
  exact ⟨by rw [a2 x 75 (by omega)]; exact A.x75, fun j j0 j1 => by rw [a2 (x + 65) j (by omega)]; exact A.r_ j j0 j1⟩
theorem RE.cfD {k : Int64} {u s ln on : Int} {e : Int64} (A : RE x k g q) : RE x k g (m_cfD q x u s ln on e) := by
  have e1 : cq_I (m_cfD q x u s ln on e) x 75 = cq_I q x 75 := by
    unfold m_cfD m_cfN
    split <;> simp only [mm_sI, mm_sJ, mm_sA, mm_IJ, mm_IA, mm_JI, mm_JA, mm_AI, mm_AJ, mm_ssI, mm_ssJ, mm_ssA, mm_zI, mm_zJ, mm_zA, mm_nI, mm_nJ, mm_nA, Nat.left_eq_add, Nat.add_eq_left, Nat.add_left_cancel_iff, Nat.reduceEqDiff, Int.reduceEq, false_and, and_false, if_false, if_true, and_self, true_and, true_or, or_true, false_or, or_false]
  have e2 : ∀ j, cq_I (m_cfD q x u s ln on e) (x + 65) j = cq_I q (x + 65) j := fun j => by
    unfold m_cfD m_cfN
    split <;> simp only [mm_sI, mm_sJ, mm_sA, mm_IJ, mm_IA, mm_JI, mm_JA, mm_AI, mm_AJ, mm_ssI, mm_ssJ, mm_ssA, mm_zI, mm_zJ, mm_zA, mm_nI, mm_nJ, mm_nA, Nat.left_eq_add, Nat.add_eq_left, Nat.add_left_cancel_iff, Nat.reduceEqDiff, Int.reduceEq, false_and, and_false, if_false, if_true, and_self, true_and, true_or, or_true, false_or, or_false]
  exact ⟨by rw [e1]; exact A.x75, fun j j0 j1 => by rw [e2]; exact A.r_ j j0 j1⟩
end
section
variable {Y : cx_Y} {K : Option cx_V → cx_Q → Prop} {c x : Nat} {n L Z : Int} {E : Nat → Option Int} {h0 : cx_Q} {h g : cx_Q} {pe : Int → Nat} {ro : Int → Int → Nat} {pa lb tp rd en op ob : Nat} {T Lf : Int → Nat}
/-- what was read with the key of a first letter -/
theorem re_new {l u v ln on : Int} {who e : Int64} (fo : FO x (ro u v) (6 * u + v) T h g) (h81 : 0 ≤ cq_I g x 81) (hA : m_cfA1 g x l u ln on who e = 0) : RE x (m_cfK g x u ln (m_cfR g x u ln on who e)) g (m_cfQ0 g x u v ln on who e) := by
  have n10 : cq_I g x 81 ≤ 10 := by
    unfold m_cfA1 at hA
    by_cases c1 : ln < 1 ∨ cq_I g (x + 16) u < ln ∨ ln < cq_I g (x + 16) u - 1
    · rw [if_pos c1] at hA; exact absurd hA (by decide)
    rw [if_neg c1] at hA
    by_cases c2 : m_cfH g x u ln e ≠ -2
    · rw [if_pos c2] at hA; exact absurd hA (by decide)
    rw [if_neg c2] at hA
    unfold m_cfA2 at hA
    by_cases c3 : on ≠ 0 ∧ (cq_I g (x + 23) u < on ∨ cq_I g (x + 28) (61 * u + on) = 0)
    · rw [if_pos c3] at hA; exact absurd hA (by decide)
    rw [if_neg c3] at hA
    by_cases c4 : cq_I g x 85 = 100
    · rw [if_pos c4] at hA; exact absurd hA (by decide)
    rw [if_neg c4] at hA
    by_cases c5 : 10 < cq_I g x 81
    · rw [if_pos c5] at hA; exact absurd hA (by decide)
    exact Int.not_lt.mp c5
  have Q := cfG_q (x := x) (g := g) (u := u) (w := 6 * u + v) (ln := ln) (on := on) (e := e) (root := m_cfR g x u ln on who e) fo.r4
  have B := (cfG_Q Q ⟨h81, n10⟩).2.1
  unfold m_cfQ0
  exact B.e.cfD
theorem f_X10_openWithBeginning (hY : cY Y) {b : Nat} {u v l ln on : Int} {who e : Int64} (H : CI c n L Z E h0 [] h) (hZ : Z ≤ 900000) (F : FX c x n pe ro pa lb tp rd en op ob T Lf h g) (R : ER x en b l h g) (hu : 0 ≤ u ∧ u < n) (hv : 0 ≤ v ∧ v < n) (ev_ : cq_I g (x + 62) (100 * l + 1) = v) (hb : cq_I g (x + 62) (100 * l) = 1) (eln : (m_bytes g x 19 2).toInt32.toInt = ln) (eon : (m_bytes g x 21 2).toInt32.toInt = on) (ewho : m_bytes g x 3 8 = who) (ee : m_bytes g x 11 8 = e) (hU : cq_I g (x + 11) u ≠ 0) (o0 : 0 ≤ on) (h81 : 0 ≤ cq_I g x 81) (h58 : cq_I g (x + 58) u < 100) (h85 : cq_I g x 85 ≤ 100)
    (hF : m_cfA0 g x l u (6 * u + v) ln on who e ≠ 0 → ∀ m h', 1 ≤ m → m ≤ 10 → CI c n L (Z + 1) E h0 [] h' → FX c x n pe ro pa lb tp rd en op ob T Lf h' g → ER x en b l h' g → K (some (.inl m)) h')
    (hK : m_cfA0 g x l u (6 * u + v) ln on who e = 0 → ∀ h' T' k, CI c n L (Z + 1) E h0 [] h' → FX c x n pe ro pa lb tp rd en op ob T' Lf h' (bk x g (m_cfQ1 g x u v ln on who e)) → EK x en b op l k g h' → RE x k g (m_cfQ1 g x u v ln on who e) → K (some (.inl 0)) h') : cw Y mi_X10_openWithBeginning K 0 [some (.inr (.inr (some c))), some (.inr (.inr (some (pe u)))), none] [] h 24 570 := by
  have hc := H.cs
  have fo := F.fo u v hu.1 hu.2 hv.1 hv.2
  have r4 := fo.r4
  have rm := fo.rm
  have sp := (F.fu u hu.1 hu.2).s0
  have r13 := F.r13 u hu.1 hu.2
  have zr : cq_z h (pe u + 6) = n := H.tz r13.2
  have era := F.ra u v hu.1 hu.2 hv.1 hv.2
  have e3 : cq_I h en 3 = v := by rw [R.fr]; exact ev_
  have nb := R.nb hb
  rw [ewho, ee, eln, eon] at nb
  refine bx_X10_openWithBeginning_0 hY (pf2_ok hY) ?_
  simp only [wp_iconst, wp_bipush, wp_sipush, wp_ldc, wp_ldc2_w, wp_lconst0, wp_lconst1, wp_aconst_null, wp_iload_0, wp_istore_0, wp_iload_1, wp_istore_1, wp_iload_2, wp_istore_2, wp_iload_3, wp_istore_3, wp_iload, wp_istore, wp_lload_0, wp_lstore_0, wp_lload_1, wp_lstore_1, wp_lload_2, wp_lstore_2, wp_lload_3, wp_lstore_3, wp_lload, wp_lstore, wp_aload_0, wp_astore_0, wp_aload_1, wp_astore_1, wp_aload_2, wp_astore_2, wp_aload_3, wp_astore_3, wp_aload, wp_astore, wp_iinc, wp_iadd, wp_isub, wp_imul, wp_iand, wp_ior, wp_ixor, wp_ishl, wp_ishr, wp_iushr, wp_irem, wp_ladd, wp_lsub, wp_lmul, wp_land, wp_lor, wp_lxor, wp_lshl, wp_lshr, wp_lushr, wp_lrem, wp_lcmp, wp_i2l, wp_l2i, wp_dupI, wp_dupA, wp_dup2J, wp_dup2IA, wp_popI, wp_popA, wp_pop2, wp_goto, wp_if_eq, wp_icmp_eq, wp_if_ne, wp_icmp_ne, wp_if_lt, wp_icmp_lt, wp_if_ge, wp_icmp_ge, wp_if_gt, wp_icmp_gt, wp_if_le, wp_icmp_le, wp_ifnull, wp_ifnonnull, wp_acmp_eq, wp_acmp_ne, wp_tableswitch, wp_get0, wp_put0, wp_get1, wp_put1, wp_get2, wp_put2, wp_get3, wp_put3, wp_new, wp_newarray, wp_anewarray, wp_alen, wp_iaload, wp_laload, wp_baload, wp_aaload, wp_iastore, wp_lastore, wp_bastore, wp_aastore, wp_return, wp_ireturnI, wp_ireturnZ, wp_lreturn, wp_areturnO, wp_areturnA, wp_max, wp_min, wp_obj, wp_virt, wp_nil, ld_I0, ld_Is, ld_J0, ld_Js, ld_A0, ld_As, ha_0, ha_s, cx_put1, cx_put2, cx_dl, cx_tgt, true_and, and_true, Nat.reduceAdd, Nat.reduceSub, Int.reduceAdd, Int.reduceNeg, Int.reduceToNat, Int.reduceSub, Int.cast_ofNat_Int, List.take_succ_cons, List.take_zero, List.drop_succ_cons, List.drop_zero, List.take_nil, List.drop_nil, Option.toList_some, Option.toList_none, List.cons_append, List.nil_append, wp_spec, ne_eq, Nat.reduceEqDiff, not_false_eq_true, true_or, or_true, hc, sp, r13.1, F.a12, F.s12, r13.2, zr, e3, era, ra_181, nb.2.1]
  refine ⟨by omega, ?_⟩
  refine cl_X6_begunByOther (Nat.le_of_ble_eq_true rfl) fo.s0 (by omega) (by omega) (e_X6_begunByOther hY H List.not_mem_nil fo.s0 (fun no => ?_) (fun m m0 m1 yes mn => ?_))
  · have ci := bg_none fo no
    unfold m_cfA0 at hF hK
    unfold m_cfQ1 at hK
    rw [if_pos ci] at hF hK
    rw [if_pos ci] at hK
    refine bx_X10_openWithBeginning_22 hY (pf2_ok hY) ?_
    simp only [wp_iconst, wp_bipush, wp_sipush, wp_ldc, wp_ldc2_w, wp_lconst0, wp_lconst1, wp_aconst_null, wp_iload_0, wp_istore_0, wp_iload_1, wp_istore_1, wp_iload_2, wp_istore_2, wp_iload_3, wp_istore_3, wp_iload, wp_istore, wp_lload_0, wp_lstore_0, wp_lload_1, wp_lstore_1, wp_lload_2, wp_lstore_2, wp_lload_3, wp_lstore_3, wp_lload, wp_lstore, wp_aload_0, wp_astore_0, wp_aload_1, wp_astore_1, wp_aload_2, wp_astore_2, wp_aload_3, wp_astore_3, wp_aload, wp_astore, wp_iinc, wp_iadd, wp_isub, wp_imul, wp_iand, wp_ior, wp_ixor, wp_ishl, wp_ishr, wp_iushr, wp_irem, wp_ladd, wp_lsub, wp_lmul, wp_land, wp_lor, wp_lxor, wp_lshl, wp_lshr, wp_lushr, wp_lrem, wp_lcmp, wp_i2l, wp_l2i, wp_dupI, wp_dupA, wp_dup2J, wp_dup2IA, wp_popI, wp_popA, wp_pop2, wp_goto, wp_if_eq, wp_icmp_eq, wp_if_ne, wp_icmp_ne, wp_if_lt, wp_icmp_lt, wp_if_ge, wp_icmp_ge, wp_if_gt, wp_icmp_gt, wp_if_le, wp_icmp_le, wp_ifnull, wp_ifnonnull, wp_acmp_eq, wp_acmp_ne, wp_tableswitch, wp_get0, wp_put0, wp_get1, wp_put1, wp_get2, wp_put2, wp_get3, wp_put3, wp_new, wp_newarray, wp_anewarray, wp_alen, wp_iaload, wp_laload, wp_baload, wp_aaload, wp_iastore, wp_lastore, wp_bastore, wp_aastore, wp_return, wp_ireturnI, wp_ireturnZ, wp_lreturn, wp_areturnO, wp_areturnA, wp_max, wp_min, wp_obj, wp_virt, wp_nil, ld_I0, ld_Is, ld_J0, ld_Js, ld_A0, ld_As, ha_0, ha_s, cx_put1, cx_put2, cx_dl, cx_tgt, true_and, and_true, Nat.reduceAdd, Nat.reduceSub, Int.reduceAdd, Int.reduceNeg, Int.reduceToNat, Int.reduceSub, Int.cast_ofNat_Int, List.take_succ_cons, List.take_zero, List.drop_succ_cons, List.drop_zero, List.take_nil, List.drop_nil, Option.toList_some, Option.toList_none, List.cons_append, List.nil_append, wp_spec, ne_eq, Nat.reduceEqDiff, not_false_eq_true, true_or, or_true]
    refine ⟨fun _ => ?_, fun w => absurd w (by decide)⟩
    refine bx_X10_openWithBeginning_36 hY (pf2_ok hY) ?_
    simp only [wp_iconst, wp_bipush, wp_sipush, wp_ldc, wp_ldc2_w, wp_lconst0, wp_lconst1, wp_aconst_null, wp_iload_0, wp_istore_0, wp_iload_1, wp_istore_1, wp_iload_2, wp_istore_2, wp_iload_3, wp_istore_3, wp_iload, wp_istore, wp_lload_0, wp_lstore_0, wp_lload_1, wp_lstore_1, wp_lload_2, wp_lstore_2, wp_lload_3, wp_lstore_3, wp_lload, wp_lstore, wp_aload_0, wp_astore_0, wp_aload_1, wp_astore_1, wp_aload_2, wp_astore_2, wp_aload_3, wp_astore_3, wp_aload, wp_astore, wp_iinc, wp_iadd, wp_isub, wp_imul, wp_iand, wp_ior, wp_ixor, wp_ishl, wp_ishr, wp_iushr, wp_irem, wp_ladd, wp_lsub, wp_lmul, wp_land, wp_lor, wp_lxor, wp_lshl, wp_lshr, wp_lushr, wp_lrem, wp_lcmp, wp_i2l, wp_l2i, wp_dupI, wp_dupA, wp_dup2J, wp_dup2IA, wp_popI, wp_popA, wp_pop2, wp_goto, wp_if_eq, wp_icmp_eq, wp_if_ne, wp_icmp_ne, wp_if_lt, wp_icmp_lt, wp_if_ge, wp_icmp_ge, wp_if_gt, wp_icmp_gt, wp_if_le, wp_icmp_le, wp_ifnull, wp_ifnonnull, wp_acmp_eq, wp_acmp_ne, wp_tableswitch, wp_get0, wp_put0, wp_get1, wp_put1, wp_get2, wp_put2, wp_get3, wp_put3, wp_new, wp_newarray, wp_anewarray, wp_alen, wp_iaload, wp_laload, wp_baload, wp_aaload, wp_iastore, wp_lastore, wp_bastore, wp_aastore, wp_return, wp_ireturnI, wp_ireturnZ, wp_lreturn, wp_areturnO, wp_areturnA, wp_max, wp_min, wp_obj, wp_virt, wp_nil, ld_I0, ld_Is, ld_J0, ld_Js, ld_A0, ld_As, ha_0, ha_s, cx_put1, cx_put2, cx_dl, cx_tgt, true_and, and_true, Nat.reduceAdd, Nat.reduceSub, Int.reduceAdd, Int.reduceNeg, Int.reduceToNat, Int.reduceSub, Int.cast_ofNat_Int, List.take_succ_cons, List.take_zero, List.drop_succ_cons, List.drop_zero, List.take_nil, List.drop_nil, Option.toList_some, Option.toList_none, List.cons_append, List.nil_append, wp_spec, ne_eq, Nat.reduceEqDiff, not_false_eq_true, true_or, or_true]
    refine cl_X10_openInNew (Nat.le_of_ble_eq_true rfl) hc (by omega) (by omega) (f_X10_openInNew hY H hZ F R hu hv ev_ hb eln eon ewho ee hU o0 h81 h58 h85 (fun no' m h' y1 y2 G' F' R' => ?_) (fun ok h' T' G' F' R' => ?_))
    · refine bx_X10_openWithBeginning_41 hY (pf2_ok hY) ?_
      simp only [wp_iconst, wp_bipush, wp_sipush, wp_ldc, wp_ldc2_w, wp_lconst0, wp_lconst1, wp_aconst_null, wp_iload_0, wp_istore_0, wp_iload_1, wp_istore_1, wp_iload_2, wp_istore_2, wp_iload_3, wp_istore_3, wp_iload, wp_istore, wp_lload_0, wp_lstore_0, wp_lload_1, wp_lstore_1, wp_lload_2, wp_lstore_2, wp_lload_3, wp_lstore_3, wp_lload, wp_lstore, wp_aload_0, wp_astore_0, wp_aload_1, wp_astore_1, wp_aload_2, wp_astore_2, wp_aload_3, wp_astore_3, wp_aload, wp_astore, wp_iinc, wp_iadd, wp_isub, wp_imul, wp_iand, wp_ior, wp_ixor, wp_ishl, wp_ishr, wp_iushr, wp_irem, wp_ladd, wp_lsub, wp_lmul, wp_land, wp_lor, wp_lxor, wp_lshl, wp_lshr, wp_lushr, wp_lrem, wp_lcmp, wp_i2l, wp_l2i, wp_dupI, wp_dupA, wp_dup2J, wp_dup2IA, wp_popI, wp_popA, wp_pop2, wp_goto, wp_if_eq, wp_icmp_eq, wp_if_ne, wp_icmp_ne, wp_if_lt, wp_icmp_lt, wp_if_ge, wp_icmp_ge, wp_if_gt, wp_icmp_gt, wp_if_le, wp_icmp_le, wp_ifnull, wp_ifnonnull, wp_acmp_eq, wp_acmp_ne, wp_tableswitch, wp_get0, wp_put0, wp_get1, wp_put1, wp_get2, wp_put2, wp_get3, wp_put3, wp_new, wp_newarray, wp_anewarray, wp_alen, wp_iaload, wp_laload, wp_baload, wp_aaload, wp_iastore, wp_lastore, wp_bastore, wp_aastore, wp_return, wp_ireturnI, wp_ireturnZ, wp_lreturn, wp_areturnO, wp_areturnA, wp_max, wp_min, wp_obj, wp_virt, wp_nil, ld_I0, ld_Is, ld_J0, ld_Js, ld_A0, ld_As, ha_0, ha_s, cx_put1, cx_put2, cx_dl, cx_tgt, true_and, and_true, Nat.reduceAdd, Nat.reduceSub, Int.reduceAdd, Int.reduceNeg, Int.reduceToNat, Int.reduceSub, Int.cast_ofNat_Int, List.take_succ_cons, List.take_zero, List.drop_succ_cons, List.drop_zero, List.take_nil, List.drop_nil, Option.toList_some, Option.toList_none, List.cons_append, List.nil_append, wp_spec, ne_eq, Nat.reduceEqDiff, not_false_eq_true, true_or, or_true]
      exact hF no' m h' y1 y2 G' F' R'
    · refine bx_X10_openWithBeginning_41 hY (pf2_ok hY) ?_
      simp only [wp_iconst, wp_bipush, wp_sipush, wp_ldc, wp_ldc2_w, wp_lconst0, wp_lconst1, wp_aconst_null, wp_iload_0, wp_istore_0, wp_iload_1, wp_istore_1, wp_iload_2, wp_istore_2, wp_iload_3, wp_istore_3, wp_iload, wp_istore, wp_lload_0, wp_lstore_0, wp_lload_1, wp_lstore_1, wp_lload_2, wp_lstore_2, wp_lload_3, wp_lstore_3, wp_lload, wp_lstore, wp_aload_0, wp_astore_0, wp_aload_1, wp_astore_1, wp_aload_2, wp_astore_2, wp_aload_3, wp_astore_3, wp_aload, wp_astore, wp_iinc, wp_iadd, wp_isub, wp_imul, wp_iand, wp_ior, wp_ixor, wp_ishl, wp_ishr, wp_iushr, wp_irem, wp_ladd, wp_lsub, wp_lmul, wp_land, wp_lor, wp_lxor, wp_lshl, wp_lshr, wp_lushr, wp_lrem, wp_lcmp, wp_i2l, wp_l2i, wp_dupI, wp_dupA, wp_dup2J, wp_dup2IA, wp_popI, wp_popA, wp_pop2, wp_goto, wp_if_eq, wp_icmp_eq, wp_if_ne, wp_icmp_ne, wp_if_lt, wp_icmp_lt, wp_if_ge, wp_icmp_ge, wp_if_gt, wp_icmp_gt, wp_if_le, wp_icmp_le, wp_ifnull, wp_ifnonnull, wp_acmp_eq, wp_acmp_ne, wp_tableswitch, wp_get0, wp_put0, wp_get1, wp_put1, wp_get2, wp_put2, wp_get3, wp_put3, wp_new, wp_newarray, wp_anewarray, wp_alen, wp_iaload, wp_laload, wp_baload, wp_aaload, wp_iastore, wp_lastore, wp_bastore, wp_aastore, wp_return, wp_ireturnI, wp_ireturnZ, wp_lreturn, wp_areturnO, wp_areturnA, wp_max, wp_min, wp_obj, wp_virt, wp_nil, ld_I0, ld_Is, ld_J0, ld_Js, ld_A0, ld_As, ha_0, ha_s, cx_put1, cx_put2, cx_dl, cx_tgt, true_and, and_true, Nat.reduceAdd, Nat.reduceSub, Int.reduceAdd, Int.reduceNeg, Int.reduceToNat, Int.reduceSub, Int.cast_ofNat_Int, List.take_succ_cons, List.take_zero, List.drop_succ_cons, List.drop_zero, List.take_nil, List.drop_nil, Option.toList_some, Option.toList_none, List.cons_append, List.nil_append, wp_spec, ne_eq, Nat.reduceEqDiff, not_false_eq_true, true_or, or_true]
      exact hK ok h' T' _ G' F' R' (re_new fo h81 ok)
  · have ci := bg_at fo m0 m1 yes mn
    have ne : ¬ m_cfI g x (6 * u + v) e = -2 := by omega
    unfold m_cfA0 at hF hK
    unfold m_cfQ1 at hK
    rw [if_neg ne] at hF hK
    rw [if_neg ne] at hK
    rw [ci] at hF hK
    have sr := fo.ss m m0 (by omega)
    have k20 := sr.k20
    refine bx_X10_openWithBeginning_22 hY (pf2_ok hY) ?_
    simp only [wp_iconst, wp_bipush, wp_sipush, wp_ldc, wp_ldc2_w, wp_lconst0, wp_lconst1, wp_aconst_null, wp_iload_0, wp_istore_0, wp_iload_1, wp_istore_1, wp_iload_2, wp_istore_2, wp_iload_3, wp_istore_3, wp_iload, wp_istore, wp_lload_0, wp_lstore_0, wp_lload_1, wp_lstore_1, wp_lload_2, wp_lstore_2, wp_lload_3, wp_lstore_3, wp_lload, wp_lstore, wp_aload_0, wp_astore_0, wp_aload_1, wp_astore_1, wp_aload_2, wp_astore_2, wp_aload_3, wp_astore_3, wp_aload, wp_astore, wp_iinc, wp_iadd, wp_isub, wp_imul, wp_iand, wp_ior, wp_ixor, wp_ishl, wp_ishr, wp_iushr, wp_irem, wp_ladd, wp_lsub, wp_lmul, wp_land, wp_lor, wp_lxor, wp_lshl, wp_lshr, wp_lushr, wp_lrem, wp_lcmp, wp_i2l, wp_l2i, wp_dupI, wp_dupA, wp_dup2J, wp_dup2IA, wp_popI, wp_popA, wp_pop2, wp_goto, wp_if_eq, wp_icmp_eq, wp_if_ne, wp_icmp_ne, wp_if_lt, wp_icmp_lt, wp_if_ge, wp_icmp_ge, wp_if_gt, wp_icmp_gt, wp_if_le, wp_icmp_le, wp_ifnull, wp_ifnonnull, wp_acmp_eq, wp_acmp_ne, wp_tableswitch, wp_get0, wp_put0, wp_get1, wp_put1, wp_get2, wp_put2, wp_get3, wp_put3, wp_new, wp_newarray, wp_anewarray, wp_alen, wp_iaload, wp_laload, wp_baload, wp_aaload, wp_iastore, wp_lastore, wp_bastore, wp_aastore, wp_return, wp_ireturnI, wp_ireturnZ, wp_lreturn, wp_areturnO, wp_areturnA, wp_max, wp_min, wp_obj, wp_virt, wp_nil, ld_I0, ld_Is, ld_J0, ld_Js, ld_A0, ld_As, ha_0, ha_s, cx_put1, cx_put2, cx_dl, cx_tgt, true_and, and_true, Nat.reduceAdd, Nat.reduceSub, Int.reduceAdd, Int.reduceNeg, Int.reduceToNat, Int.reduceSub, Int.cast_ofNat_Int, List.take_succ_cons, List.take_zero, List.drop_succ_cons, List.drop_zero, List.take_nil, List.drop_nil, Option.toList_some, Option.toList_none, List.cons_append, List.nil_append, wp_spec, ne_eq, Nat.reduceEqDiff, not_false_eq_true, true_or, or_true]
    refine ⟨fun w => absurd w (by omega), fun _ => ?_⟩
    refine cl_X10_openIn (Nat.le_of_ble_eq_true rfl) hc (by omega) (by omega) (f_X10_openIn hY H hZ F R hu hv e3 ⟨m0, by omega⟩ rfl h81 (fun no' t h' y1 y2 G' F' R' => ?_) (fun ok h' G' O' => ?_))
    · refine bx_X10_openWithBeginning_33 hY (pf2_ok hY) ?_
      simp only [wp_iconst, wp_bipush, wp_sipush, wp_ldc, wp_ldc2_w, wp_lconst0, wp_lconst1, wp_aconst_null, wp_iload_0, wp_istore_0, wp_iload_1, wp_istore_1, wp_iload_2, wp_istore_2, wp_iload_3, wp_istore_3, wp_iload, wp_istore, wp_lload_0, wp_lstore_0, wp_lload_1, wp_lstore_1, wp_lload_2, wp_lstore_2, wp_lload_3, wp_lstore_3, wp_lload, wp_lstore, wp_aload_0, wp_astore_0, wp_aload_1, wp_astore_1, wp_aload_2, wp_astore_2, wp_aload_3, wp_astore_3, wp_aload, wp_astore, wp_iinc, wp_iadd, wp_isub, wp_imul, wp_iand, wp_ior, wp_ixor, wp_ishl, wp_ishr, wp_iushr, wp_irem, wp_ladd, wp_lsub, wp_lmul, wp_land, wp_lor, wp_lxor, wp_lshl, wp_lshr, wp_lushr, wp_lrem, wp_lcmp, wp_i2l, wp_l2i, wp_dupI, wp_dupA, wp_dup2J, wp_dup2IA, wp_popI, wp_popA, wp_pop2, wp_goto, wp_if_eq, wp_icmp_eq, wp_if_ne, wp_icmp_ne, wp_if_lt, wp_icmp_lt, wp_if_ge, wp_icmp_ge, wp_if_gt, wp_icmp_gt, wp_if_le, wp_icmp_le, wp_ifnull, wp_ifnonnull, wp_acmp_eq, wp_acmp_ne, wp_tableswitch, wp_get0, wp_put0, wp_get1, wp_put1, wp_get2, wp_put2, wp_get3, wp_put3, wp_new, wp_newarray, wp_anewarray, wp_alen, wp_iaload, wp_laload, wp_baload, wp_aaload, wp_iastore, wp_lastore, wp_bastore, wp_aastore, wp_return, wp_ireturnI, wp_ireturnZ, wp_lreturn, wp_areturnO, wp_areturnA, wp_max, wp_min, wp_obj, wp_virt, wp_nil, ld_I0, ld_Is, ld_J0, ld_Js, ld_A0, ld_As, ha_0, ha_s, cx_put1, cx_put2, cx_dl, cx_tgt, true_and, and_true, Nat.reduceAdd, Nat.reduceSub, Int.reduceAdd, Int.reduceNeg, Int.reduceToNat, Int.reduceSub, Int.cast_ofNat_Int, List.take_succ_cons, List.take_zero, List.drop_succ_cons, List.drop_zero, List.take_nil, List.drop_nil, Option.toList_some, Option.toList_none, List.cons_append, List.nil_append, wp_spec, ne_eq, Nat.reduceEqDiff, not_false_eq_true, true_or, or_true]
      refine bx_X10_openWithBeginning_41 hY (pf2_ok hY) ?_
      simp only [wp_iconst, wp_bipush, wp_sipush, wp_ldc, wp_ldc2_w, wp_lconst0, wp_lconst1, wp_aconst_null, wp_iload_0, wp_istore_0, wp_iload_1, wp_istore_1, wp_iload_2, wp_istore_2, wp_iload_3, wp_istore_3, wp_iload, wp_istore, wp_lload_0, wp_lstore_0, wp_lload_1, wp_lstore_1, wp_lload_2, wp_lstore_2, wp_lload_3, wp_lstore_3, wp_lload, wp_lstore, wp_aload_0, wp_astore_0, wp_aload_1, wp_astore_1, wp_aload_2, wp_astore_2, wp_aload_3, wp_astore_3, wp_aload, wp_astore, wp_iinc, wp_iadd, wp_isub, wp_imul, wp_iand, wp_ior, wp_ixor, wp_ishl, wp_ishr, wp_iushr, wp_irem, wp_ladd, wp_lsub, wp_lmul, wp_land, wp_lor, wp_lxor, wp_lshl, wp_lshr, wp_lushr, wp_lrem, wp_lcmp, wp_i2l, wp_l2i, wp_dupI, wp_dupA, wp_dup2J, wp_dup2IA, wp_popI, wp_popA, wp_pop2, wp_goto, wp_if_eq, wp_icmp_eq, wp_if_ne, wp_icmp_ne, wp_if_lt, wp_icmp_lt, wp_if_ge, wp_icmp_ge, wp_if_gt, wp_icmp_gt, wp_if_le, wp_icmp_le, wp_ifnull, wp_ifnonnull, wp_acmp_eq, wp_acmp_ne, wp_tableswitch, wp_get0, wp_put0, wp_get1, wp_put1, wp_get2, wp_put2, wp_get3, wp_put3, wp_new, wp_newarray, wp_anewarray, wp_alen, wp_iaload, wp_laload, wp_baload, wp_aaload, wp_iastore, wp_lastore, wp_bastore, wp_aastore, wp_return, wp_ireturnI, wp_ireturnZ, wp_lreturn, wp_areturnO, wp_areturnA, wp_max, wp_min, wp_obj, wp_virt, wp_nil, ld_I0, ld_Is, ld_J0, ld_Js, ld_A0, ld_As, ha_0, ha_s, cx_put1, cx_put2, cx_dl, cx_tgt, true_and, and_true, Nat.reduceAdd, Nat.reduceSub, Int.reduceAdd, Int.reduceNeg, Int.reduceToNat, Int.reduceSub, Int.cast_ofNat_Int, List.take_succ_cons, List.take_zero, List.drop_succ_cons, List.drop_zero, List.take_nil, List.drop_nil, Option.toList_some, Option.toList_none, List.cons_append, List.nil_append, wp_spec, ne_eq, Nat.reduceEqDiff, not_false_eq_true, true_or, or_true]
      exact hF no' t h' y1 y2 G' F' R'
    · obtain ⟨F', R', k'⟩ := O'
      have A := (openQ_rd (u := u) k20 h81 ok).e
      refine bx_X10_openWithBeginning_33 hY (pf2_ok hY) ?_
      simp only [wp_iconst, wp_bipush, wp_sipush, wp_ldc, wp_ldc2_w, wp_lconst0, wp_lconst1, wp_aconst_null, wp_iload_0, wp_istore_0, wp_iload_1, wp_istore_1, wp_iload_2, wp_istore_2, wp_iload_3, wp_istore_3, wp_iload, wp_istore, wp_lload_0, wp_lstore_0, wp_lload_1, wp_lstore_1, wp_lload_2, wp_lstore_2, wp_lload_3, wp_lstore_3, wp_lload, wp_lstore, wp_aload_0, wp_astore_0, wp_aload_1, wp_astore_1, wp_aload_2, wp_astore_2, wp_aload_3, wp_astore_3, wp_aload, wp_astore, wp_iinc, wp_iadd, wp_isub, wp_imul, wp_iand, wp_ior, wp_ixor, wp_ishl, wp_ishr, wp_iushr, wp_irem, wp_ladd, wp_lsub, wp_lmul, wp_land, wp_lor, wp_lxor, wp_lshl, wp_lshr, wp_lushr, wp_lrem, wp_lcmp, wp_i2l, wp_l2i, wp_dupI, wp_dupA, wp_dup2J, wp_dup2IA, wp_popI, wp_popA, wp_pop2, wp_goto, wp_if_eq, wp_icmp_eq, wp_if_ne, wp_icmp_ne, wp_if_lt, wp_icmp_lt, wp_if_ge, wp_icmp_ge, wp_if_gt, wp_icmp_gt, wp_if_le, wp_icmp_le, wp_ifnull, wp_ifnonnull, wp_acmp_eq, wp_acmp_ne, wp_tableswitch, wp_get0, wp_put0, wp_get1, wp_put1, wp_get2, wp_put2, wp_get3, wp_put3, wp_new, wp_newarray, wp_anewarray, wp_alen, wp_iaload, wp_laload, wp_baload, wp_aaload, wp_iastore, wp_lastore, wp_bastore, wp_aastore, wp_return, wp_ireturnI, wp_ireturnZ, wp_lreturn, wp_areturnO, wp_areturnA, wp_max, wp_min, wp_obj, wp_virt, wp_nil, ld_I0, ld_Is, ld_J0, ld_Js, ld_A0, ld_As, ha_0, ha_s, cx_put1, cx_put2, cx_dl, cx_tgt, true_and, and_true, Nat.reduceAdd, Nat.reduceSub, Int.reduceAdd, Int.reduceNeg, Int.reduceToNat, Int.reduceSub, Int.cast_ofNat_Int, List.take_succ_cons, List.take_zero, List.drop_succ_cons, List.drop_zero, List.take_nil, List.drop_nil, Option.toList_some, Option.toList_none, List.cons_append, List.nil_append, wp_spec, ne_eq, Nat.reduceEqDiff, not_false_eq_true, true_or, or_true]
      refine bx_X10_openWithBeginning_41 hY (pf2_ok hY) ?_
      simp only [wp_iconst, wp_bipush, wp_sipush, wp_ldc, wp_ldc2_w, wp_lconst0, wp_lconst1, wp_aconst_null, wp_iload_0, wp_istore_0, wp_iload_1, wp_istore_1, wp_iload_2, wp_istore_2, wp_iload_3, wp_istore_3, wp_iload, wp_istore, wp_lload_0, wp_lstore_0, wp_lload_1, wp_lstore_1, wp_lload_2, wp_lstore_2, wp_lload_3, wp_lstore_3, wp_lload, wp_lstore, wp_aload_0, wp_astore_0, wp_aload_1, wp_astore_1, wp_aload_2, wp_astore_2, wp_aload_3, wp_astore_3, wp_aload, wp_astore, wp_iinc, wp_iadd, wp_isub, wp_imul, wp_iand, wp_ior, wp_ixor, wp_ishl, wp_ishr, wp_iushr, wp_irem, wp_ladd, wp_lsub, wp_lmul, wp_land, wp_lor, wp_lxor, wp_lshl, wp_lshr, wp_lushr, wp_lrem, wp_lcmp, wp_i2l, wp_l2i, wp_dupI, wp_dupA, wp_dup2J, wp_dup2IA, wp_popI, wp_popA, wp_pop2, wp_goto, wp_if_eq, wp_icmp_eq, wp_if_ne, wp_icmp_ne, wp_if_lt, wp_icmp_lt, wp_if_ge, wp_icmp_ge, wp_if_gt, wp_icmp_gt, wp_if_le, wp_icmp_le, wp_ifnull, wp_ifnonnull, wp_acmp_eq, wp_acmp_ne, wp_tableswitch, wp_get0, wp_put0, wp_get1, wp_put1, wp_get2, wp_put2, wp_get3, wp_put3, wp_new, wp_newarray, wp_anewarray, wp_alen, wp_iaload, wp_laload, wp_baload, wp_aaload, wp_iastore, wp_lastore, wp_bastore, wp_aastore, wp_return, wp_ireturnI, wp_ireturnZ, wp_lreturn, wp_areturnO, wp_areturnA, wp_max, wp_min, wp_obj, wp_virt, wp_nil, ld_I0, ld_Is, ld_J0, ld_Js, ld_A0, ld_As, ha_0, ha_s, cx_put1, cx_put2, cx_dl, cx_tgt, true_and, and_true, Nat.reduceAdd, Nat.reduceSub, Int.reduceAdd, Int.reduceNeg, Int.reduceToNat, Int.reduceSub, Int.cast_ofNat_Int, List.take_succ_cons, List.take_zero, List.drop_succ_cons, List.drop_zero, List.take_nil, List.drop_nil, Option.toList_some, Option.toList_none, List.cons_append, List.nil_append, wp_spec, ne_eq, Nat.reduceEqDiff, not_false_eq_true, true_or, or_true]
      exact hK ok h' T _ G' (fx_fbk F' ⟨m0, by omega⟩) ⟨R', k', F'.s13⟩ (A.front ⟨m0, by omega⟩)
end
/-! class and reference side by side: come, whole -/
/-- a letter is opened when it comes -/
def CO (g : cx_Q) (x : Nat) (n l u : Int) : Prop := (0 ≤ u ∧ u < n) ∧ (0 ≤ l ∧ l < cq_I g x 72) ∧ m_rlOk g x l u ∧ cq_I g (x + 11) u ≠ 0 ∧ cq_I g x 84 < 400 ∧ (cq_I g (x + 62) (100 * l) = 1 → m_cfA (m_rl g x l) x l u (6 * u + cq_I g (x + 62) (100 * l + 1)) = 0) ∧ (cq_I g (x + 62) (100 * l) ≠ 1 → m_clA (m_rl g x l) x l (6 * u + cq_I g (x + 62) (100 * l + 1)) = 0)
/-- what is then -/
def CMQ0 (g : cx_Q) (x : Nat) (l u : Int) : cx_Q := if cq_I g (x + 62) (100 * l) = 1 then m_cfQ (m_rl g x l) x u (cq_I g (x + 62) (100 * l + 1)) else m_clQ (m_rl g x l) x l u (6 * u + cq_I g (x + 62) (100 * l + 1))
def CMQ (g : cx_Q) (x : Nat) (l u : Int) : cx_Q := cq_sI (CMQ0 g x l u) x 84 (cq_I g x 84 + 1)
section
variable {Y : cx_Y} {K : Option cx_V → cx_Q → Prop} {c x : Nat} {n L Z : Int} {E : Nat → Option Int} {h0 : cx_Q} {h g h' g' q : cx_Q} {pe : Int → Nat} {ro : Int → Int → Nat} {pa lb tp rd en op ob : Nat} {T Lf : Int → Nat}
/-- a letter more was opened -/
theorem fx_opd (F : FX c x n pe ro pa lb tp rd en op ob T Lf h g) (e84 : cq_I g' x 84 = cq_I g x 84 + 1) (ex : ∀ j, j ≠ 84 → cq_I g' x j = cq_I g x j) (eI : ∀ o j, 1 ≤ o → o ≤ 65 → o ∉ tL → cq_I g' (x + o) j = cq_I g (x + o) j) (eJ : ∀ o j, 1 ≤ o → o ≤ 65 → o ∉ tL → cq_J g' (x + o) j = cq_J g (x + o) j) (e : h' = cq_sI h c 6 (cq_I h c 6 + 1)) : FX c x n pe ro pa lb tp rd en op ob T Lf h' g' := by
  have fs := F.fs
  have exx : evx (fun a => a = c) h h' := by rw [e]; exact evx.sI (P := fun a => a = c) evx.refl rfl
  have cI : ∀ j, j ≠ 6 → cq_I h' c j = cq_I h c j := fun j w => by rw [e, mm_sI, if_neg (fun z => w z.2)]
  have c4 : cq_I h' c 6 = cq_I h c 6 + 1 := by rw [e, mm_sI, if_pos ⟨rfl, rfl⟩]
  have eA : cq_A h' = cq_A h := by rw [e]; rfl
  refine F.upS exx (fun o _ => False) (fun o j h1 h2 h3 _ => ⟨eI o j h1 h2 h3, eJ o j h1 h2 h3⟩) (fun a w => by rw [w, fs.s0]; rfl) (fun o j w => w.elim) (by rw [eA]) (by rw [eA]) (ex 0 (by decide)) (ex 72 (by decide)) ?_
  refine ⟨exx.s fs.s0 (by decide), exx.s fs.s1 (by decide), exx.s fs.s2 (by decide), by rw [eA]; exact fs.a8, by rw [eA]; exact fs.a10, by rw [cI 2 (by decide), ex 72 (by decide)]; exact fs.lc, by rw [cI 3 (by decide), ex 73 (by decide)]; exact fs.cc, by rw [cI 4 (by decide), ex 63 (by decide)]; exact fs.bc, by rw [cI 5 (by decide), ex 85 (by decide)]; exact fs.mc, by rw [c4, e84, fs.oc], by rw [cI 7 (by decide), ex 86 (by decide)]; exact fs.kc, by rw [cI 9 (by decide), ex 68 (by decide)]; exact fs.tc, by rw [cI 11 (by decide), ex 75 (by decide)]; exact fs.rc, fun k k0 k1 => ?_, fun k k0 k1 => ?_, fun k k0 k1 => by rw [ex 68 (by decide)] at k1; rw [eI 61 k (by decide) (by decide) (by decide)]; exact fs.tb k k0 k1⟩
  · rw [ex 68 (by decide)] at k1
    rw [exx.I fs.s1 rfl (ns fs.s1 fs.s0 (by decide)), eI 61 k (by decide) (by decide) (by decide)]
    exact fs.tp_ k k0 k1
  · rw [ex 75 (by decide)] at k1
    rw [exx.I fs.s2 rfl (ns fs.s2 fs.s0 (by decide)), eI 65 k (by decide) (by decide) (by decide)]
    exact fs.rd_ k k0 k1
/-- it was opened: the TEXT is taken -/
theorem come_ok (hY : cY Y) {b : Nat} {l u l0 V : Int} {k : Int64} (H : CI c n L Z E h0 [] h) (F : FX c x n pe ro pa lb tp rd en op ob T Lf h (bk x g q)) (R : EK x en b op l k g h) (A : RE x k g q) (d0 : 0 ≤ cq_I g x 82) (q84 : cq_I q x 84 = cq_I g x 84) (eV : cq_I g x 84 = V) (l84 : V < 400) (hK : ∀ m h', CI c n L (Z + 1) E h0 [] h' → FX c x n pe ro pa lb tp rd en op ob T Lf h' (cq_sI q x 84 (V + 1)) → K (some (.inl m)) h') : cw Y mi_X10_come K 68 [some (.inr (.inr (some c))), some (.inl l0), some (.inl u), some (.inl 0)] [] h 0 0 := by
  have hc := H.cs
  have fs := F.fs
  have u1 : ∀ j, cq_I (bk x g q) x j = if j = 75 then cq_I g x 75 else cq_I q x j := fun j => by
    unfold bk
    rw [rr_I, if_neg (by omega), mm_sI]
    by_cases z : j = 75
    · rw [if_pos ⟨rfl, z⟩, if_pos z]
    · rw [if_neg (fun y => z y.2), if_neg z]
  have u2 : ∀ o j, 1 ≤ o → o ≠ 65 → cq_I (bk x g q) (x + o) j = cq_I q (x + o) j := fun o j w1 w2 => by
    unfold bk
    rw [rr_I, if_neg (by omega), mm_sI, if_neg (by omega)]
  have u3 : ∀ a j, cq_J (bk x g q) a j = cq_J q a j := fun a j => rfl
  have oc := fs.oc
  rw [u1, if_neg (by decide), q84, eV] at oc
  have i6 := H.i9_6 hc
  have G3 := (H.up (Z' := Z + 1) (by omega)).sI (a := c) (j := 6) (v := cq_I h c 6 + 1) hc (own_9 (by decide)) ⟨by omega, by omega⟩ rfl
  have F3 := fx_opd (h' := cq_sI h c 6 (cq_I h c 6 + 1)) (g' := cq_sI (bk x g q) x 84 (V + 1)) F (by rw [mm_sI, if_pos ⟨rfl, rfl⟩, u1, if_neg (by decide), q84, eV]) (fun j w => by rw [mm_sI, if_neg (fun z => w z.2)]) (fun o j w _ _ => by rw [mm_sI, if_neg (by omega)]) (fun o j _ _ _ => by rw [mm_JI]) rfl
  have R3 := R.st (P := fun d => d = c) (h' := cq_sI h c 6 (cq_I h c 6 + 1)) (evx.sI (P := fun d => d = c) evx.refl rfl) (fun d w => by rw [w, hc]; decide)
  refine bx_X10_come_68 hY (pf2_ok hY) ?_
  simp only [wp_iconst, wp_bipush, wp_sipush, wp_ldc, wp_ldc2_w, wp_lconst0, wp_lconst1, wp_aconst_null, wp_iload_0, wp_istore_0, wp_iload_1, wp_istore_1, wp_iload_2, wp_istore_2, wp_iload_3, wp_istore_3, wp_iload, wp_istore, wp_lload_0, wp_lstore_0, wp_lload_1, wp_lstore_1, wp_lload_2, wp_lstore_2, wp_lload_3, wp_lstore_3, wp_lload, wp_lstore, wp_aload_0, wp_astore_0, wp_aload_1, wp_astore_1, wp_aload_2, wp_astore_2, wp_aload_3, wp_astore_3, wp_aload, wp_astore, wp_iinc, wp_iadd, wp_isub, wp_imul, wp_iand, wp_ior, wp_ixor, wp_ishl, wp_ishr, wp_iushr, wp_irem, wp_ladd, wp_lsub, wp_lmul, wp_land, wp_lor, wp_lxor, wp_lshl, wp_lshr, wp_lushr, wp_lrem, wp_lcmp, wp_i2l, wp_l2i, wp_dupI, wp_dupA, wp_dup2J, wp_dup2IA, wp_popI, wp_popA, wp_pop2, wp_goto, wp_if_eq, wp_icmp_eq, wp_if_ne, wp_icmp_ne, wp_if_lt, wp_icmp_lt, wp_if_ge, wp_icmp_ge, wp_if_gt, wp_icmp_gt, wp_if_le, wp_icmp_le, wp_ifnull, wp_ifnonnull, wp_acmp_eq, wp_acmp_ne, wp_tableswitch, wp_get0, wp_put0, wp_get1, wp_put1, wp_get2, wp_put2, wp_get3, wp_put3, wp_new, wp_newarray, wp_anewarray, wp_alen, wp_iaload, wp_laload, wp_baload, wp_aaload, wp_iastore, wp_lastore, wp_bastore, wp_aastore, wp_return, wp_ireturnI, wp_ireturnZ, wp_lreturn, wp_areturnO, wp_areturnA, wp_max, wp_min, wp_obj, wp_virt, wp_nil, ld_I0, ld_Is, ld_J0, ld_Js, ld_A0, ld_As, ha_0, ha_s, cx_put1, cx_put2, cx_dl, cx_tgt, true_and, and_true, Nat.reduceAdd, Nat.reduceSub, Int.reduceAdd, Int.reduceNeg, Int.reduceToNat, Int.reduceSub, Int.cast_ofNat_Int, List.take_succ_cons, List.take_zero, List.drop_succ_cons, List.drop_zero, List.take_nil, List.drop_nil, Option.toList_some, Option.toList_none, List.cons_append, List.nil_append, wp_spec, ne_eq, Nat.reduceEqDiff, not_false_eq_true, true_or, or_true, cx_rg]
  refine ⟨fun _ => ?_, fun w => absurd trivial w⟩
  refine bx_X10_come_77 hY (pf2_ok hY) ?_
  simp only [wp_iconst, wp_bipush, wp_sipush, wp_ldc, wp_ldc2_w, wp_lconst0, wp_lconst1, wp_aconst_null, wp_iload_0, wp_istore_0, wp_iload_1, wp_istore_1, wp_iload_2, wp_istore_2, wp_iload_3, wp_istore_3, wp_iload, wp_istore, wp_lload_0, wp_lstore_0, wp_lload_1, wp_lstore_1, wp_lload_2, wp_lstore_2, wp_lload_3, wp_lstore_3, wp_lload, wp_lstore, wp_aload_0, wp_astore_0, wp_aload_1, wp_astore_1, wp_aload_2, wp_astore_2, wp_aload_3, wp_astore_3, wp_aload, wp_astore, wp_iinc, wp_iadd, wp_isub, wp_imul, wp_iand, wp_ior, wp_ixor, wp_ishl, wp_ishr, wp_iushr, wp_irem, wp_ladd, wp_lsub, wp_lmul, wp_land, wp_lor, wp_lxor, wp_lshl, wp_lshr, wp_lushr, wp_lrem, wp_lcmp, wp_i2l, wp_l2i, wp_dupI, wp_dupA, wp_dup2J, wp_dup2IA, wp_popI, wp_popA, wp_pop2, wp_goto, wp_if_eq, wp_icmp_eq, wp_if_ne, wp_icmp_ne, wp_if_lt, wp_icmp_lt, wp_if_ge, wp_icmp_ge, wp_if_gt, wp_icmp_gt, wp_if_le, wp_icmp_le, wp_ifnull, wp_ifnonnull, wp_acmp_eq, wp_acmp_ne, wp_tableswitch, wp_get0, wp_put0, wp_get1, wp_put1, wp_get2, wp_put2, wp_get3, wp_put3, wp_new, wp_newarray, wp_anewarray, wp_alen, wp_iaload, wp_laload, wp_baload, wp_aaload, wp_iastore, wp_lastore, wp_bastore, wp_aastore, wp_return, wp_ireturnI, wp_ireturnZ, wp_lreturn, wp_areturnO, wp_areturnA, wp_max, wp_min, wp_obj, wp_virt, wp_nil, ld_I0, ld_Is, ld_J0, ld_Js, ld_A0, ld_As, ha_0, ha_s, cx_put1, cx_put2, cx_dl, cx_tgt, true_and, and_true, Nat.reduceAdd, Nat.reduceSub, Int.reduceAdd, Int.reduceNeg, Int.reduceToNat, Int.reduceSub, Int.cast_ofNat_Int, List.take_succ_cons, List.take_zero, List.drop_succ_cons, List.drop_zero, List.take_nil, List.drop_nil, Option.toList_some, Option.toList_none, List.cons_append, List.nil_append, wp_spec, ne_eq, Nat.reduceEqDiff, not_false_eq_true, true_or, or_true, hc, cx_rg]
  refine ⟨by omega, ?_⟩
  generalize cq_sI h c 6 (cq_I h c 6 + 1) = h3 at G3 F3 R3
  obtain ⟨E3, k3, so3⟩ := R3
  have tl := E3.tl
  have ta := E3.ta
  have t1 := E3.t1
  have tz := E3.tz
  have zb := E3.zb
  have sb := E3.sb
  refine cl_X10_takeReading (Nat.le_of_ble_eq_true rfl) G3.cs (Nat.zero_le _) (Nat.zero_le _) (e_X10_takeReading hY G3 F3.a12 F3.a13 F3.fs.a10 E3.eb (by omega) (by omega) (fun h4 G4 e4 => ?_))
  rw [k3] at e4
  have F4 := fx_read (g2 := cq_sI q x 84 (V + 1)) F3 E3 A d0 (fun j => G3.i100 sb) e4 (fun o j w1 w2 => by rw [mm_sI, if_neg (by omega), mm_sI, if_neg (by omega), u2 o j w1 w2]) (fun o j _ => by rw [mm_JI, mm_JI, u3]) (fun j w => by
    rw [mm_sI, mm_sI]
    by_cases z : j = 84
    · rw [if_pos ⟨rfl, z⟩, if_pos ⟨rfl, z⟩]
    · rw [if_neg (fun y => z y.2), if_neg (fun y => z y.2), u1, if_neg w]) (by rw [mm_sI, if_neg (by omega)]) (fun i => by rw [mm_sI, if_neg (by omega)])
  have gc4 := G4.cs
  refine bx_X10_come_91 hY (pf2_ok hY) ?_
  simp only [wp_iconst, wp_bipush, wp_sipush, wp_ldc, wp_ldc2_w, wp_lconst0, wp_lconst1, wp_aconst_null, wp_iload_0, wp_istore_0, wp_iload_1, wp_istore_1, wp_iload_2, wp_istore_2, wp_iload_3, wp_istore_3, wp_iload, wp_istore, wp_lload_0, wp_lstore_0, wp_lload_1, wp_lstore_1, wp_lload_2, wp_lstore_2, wp_lload_3, wp_lstore_3, wp_lload, wp_lstore, wp_aload_0, wp_astore_0, wp_aload_1, wp_astore_1, wp_aload_2, wp_astore_2, wp_aload_3, wp_astore_3, wp_aload, wp_astore, wp_iinc, wp_iadd, wp_isub, wp_imul, wp_iand, wp_ior, wp_ixor, wp_ishl, wp_ishr, wp_iushr, wp_irem, wp_ladd, wp_lsub, wp_lmul, wp_land, wp_lor, wp_lxor, wp_lshl, wp_lshr, wp_lushr, wp_lrem, wp_lcmp, wp_i2l, wp_l2i, wp_dupI, wp_dupA, wp_dup2J, wp_dup2IA, wp_popI, wp_popA, wp_pop2, wp_goto, wp_if_eq, wp_icmp_eq, wp_if_ne, wp_icmp_ne, wp_if_lt, wp_icmp_lt, wp_if_ge, wp_icmp_ge, wp_if_gt, wp_icmp_gt, wp_if_le, wp_icmp_le, wp_ifnull, wp_ifnonnull, wp_acmp_eq, wp_acmp_ne, wp_tableswitch, wp_get0, wp_put0, wp_get1, wp_put1, wp_get2, wp_put2, wp_get3, wp_put3, wp_new, wp_newarray, wp_anewarray, wp_alen, wp_iaload, wp_laload, wp_baload, wp_aaload, wp_iastore, wp_lastore, wp_bastore, wp_aastore, wp_return, wp_ireturnI, wp_ireturnZ, wp_lreturn, wp_areturnO, wp_areturnA, wp_max, wp_min, wp_obj, wp_virt, wp_nil, ld_I0, ld_Is, ld_J0, ld_Js, ld_A0, ld_As, ha_0, ha_s, cx_put1, cx_put2, cx_dl, cx_tgt, true_and, and_true, Nat.reduceAdd, Nat.reduceSub, Int.reduceAdd, Int.reduceNeg, Int.reduceToNat, Int.reduceSub, Int.cast_ofNat_Int, List.take_succ_cons, List.take_zero, List.drop_succ_cons, List.drop_zero, List.take_nil, List.drop_nil, Option.toList_some, Option.toList_none, List.cons_append, List.nil_append, wp_spec, ne_eq, Nat.reduceEqDiff, not_false_eq_true, true_or, or_true, gc4]
  exact hK _ h4 G4 F4
theorem f_X10_come (hY : cY Y) {l u : Int} (H : CI c n L Z E h0 [] h) (hZ : Z ≤ 700000) (F : FX c x n pe ro pa lb tp rd en op ob T Lf h g) (h62 : ∀ j, 0 ≤ cq_I g (x + 62) j ∧ cq_I g (x + 62) j ≤ 255) (h58 : cq_I g (x + 58) u < 100) (h85 : cq_I g x 85 ≤ 100)
    (hF : ¬ CO g x n l u → ∀ m h', CI c n L (Z + 5) E h0 [] h' → FX c x n pe ro pa lb tp rd en op ob T Lf h' g → K (some (.inl m)) h')
    (hK : CO g x n l u → ∀ m h' T', CI c n L (Z + 5) E h0 [] h' → FX c x n pe ro pa lb tp rd en op ob T' Lf h' (CMQ g x l u) → K (some (.inl m)) h') : cw Y mi_X10_come K 0 [some (.inr (.inr (some c))), some (.inl l), some (.inl u), none] [] h 52 1298 := by
  have hc := H.cs
  have lc := F.fs.lc
  have H5 := H.up (Z' := Z + 5) (by omega)
  have n26 := F.n26
  have j16 : ¬ CO g x n l u → ∀ lv bc bs, cw Y mi_X10_come K 16 lv [] h bc bs := by
    intro no lv bc bs
    refine bx_X10_come_16 hY (pf2_ok hY) ?_
    simp only [wp_iconst, wp_bipush, wp_sipush, wp_ldc, wp_ldc2_w, wp_lconst0, wp_lconst1, wp_aconst_null, wp_iload_0, wp_istore_0, wp_iload_1, wp_istore_1, wp_iload_2, wp_istore_2, wp_iload_3, wp_istore_3, wp_iload, wp_istore, wp_lload_0, wp_lstore_0, wp_lload_1, wp_lstore_1, wp_lload_2, wp_lstore_2, wp_lload_3, wp_lstore_3, wp_lload, wp_lstore, wp_aload_0, wp_astore_0, wp_aload_1, wp_astore_1, wp_aload_2, wp_astore_2, wp_aload_3, wp_astore_3, wp_aload, wp_astore, wp_iinc, wp_iadd, wp_isub, wp_imul, wp_iand, wp_ior, wp_ixor, wp_ishl, wp_ishr, wp_iushr, wp_irem, wp_ladd, wp_lsub, wp_lmul, wp_land, wp_lor, wp_lxor, wp_lshl, wp_lshr, wp_lushr, wp_lrem, wp_lcmp, wp_i2l, wp_l2i, wp_dupI, wp_dupA, wp_dup2J, wp_dup2IA, wp_popI, wp_popA, wp_pop2, wp_goto, wp_if_eq, wp_icmp_eq, wp_if_ne, wp_icmp_ne, wp_if_lt, wp_icmp_lt, wp_if_ge, wp_icmp_ge, wp_if_gt, wp_icmp_gt, wp_if_le, wp_icmp_le, wp_ifnull, wp_ifnonnull, wp_acmp_eq, wp_acmp_ne, wp_tableswitch, wp_get0, wp_put0, wp_get1, wp_put1, wp_get2, wp_put2, wp_get3, wp_put3, wp_new, wp_newarray, wp_anewarray, wp_alen, wp_iaload, wp_laload, wp_baload, wp_aaload, wp_iastore, wp_lastore, wp_bastore, wp_aastore, wp_return, wp_ireturnI, wp_ireturnZ, wp_lreturn, wp_areturnO, wp_areturnA, wp_max, wp_min, wp_obj, wp_virt, wp_nil, ld_I0, ld_Is, ld_J0, ld_Js, ld_A0, ld_As, ha_0, ha_s, cx_put1, cx_put2, cx_dl, cx_tgt, true_and, and_true, Nat.reduceAdd, Nat.reduceSub, Int.reduceAdd, Int.reduceNeg, Int.reduceToNat, Int.reduceSub, Int.cast_ofNat_Int, List.take_succ_cons, List.take_zero, List.drop_succ_cons, List.drop_zero, List.take_nil, List.drop_nil, Option.toList_some, Option.toList_none, List.cons_append, List.nil_append, wp_spec, ne_eq, Nat.reduceEqDiff, not_false_eq_true, true_or, or_true]
    exact hF no _ h H5 F
  refine bx_X10_come_0 hY (pf2_ok hY) ?_
  simp only [wp_iconst, wp_bipush, wp_sipush, wp_ldc, wp_ldc2_w, wp_lconst0, wp_lconst1, wp_aconst_null, wp_iload_0, wp_istore_0, wp_iload_1, wp_istore_1, wp_iload_2, wp_istore_2, wp_iload_3, wp_istore_3, wp_iload, wp_istore, wp_lload_0, wp_lstore_0, wp_lload_1, wp_lstore_1, wp_lload_2, wp_lstore_2, wp_lload_3, wp_lstore_3, wp_lload, wp_lstore, wp_aload_0, wp_astore_0, wp_aload_1, wp_astore_1, wp_aload_2, wp_astore_2, wp_aload_3, wp_astore_3, wp_aload, wp_astore, wp_iinc, wp_iadd, wp_isub, wp_imul, wp_iand, wp_ior, wp_ixor, wp_ishl, wp_ishr, wp_iushr, wp_irem, wp_ladd, wp_lsub, wp_lmul, wp_land, wp_lor, wp_lxor, wp_lshl, wp_lshr, wp_lushr, wp_lrem, wp_lcmp, wp_i2l, wp_l2i, wp_dupI, wp_dupA, wp_dup2J, wp_dup2IA, wp_popI, wp_popA, wp_pop2, wp_goto, wp_if_eq, wp_icmp_eq, wp_if_ne, wp_icmp_ne, wp_if_lt, wp_icmp_lt, wp_if_ge, wp_icmp_ge, wp_if_gt, wp_icmp_gt, wp_if_le, wp_icmp_le, wp_ifnull, wp_ifnonnull, wp_acmp_eq, wp_acmp_ne, wp_tableswitch, wp_get0, wp_put0, wp_get1, wp_put1, wp_get2, wp_put2, wp_get3, wp_put3, wp_new, wp_newarray, wp_anewarray, wp_alen, wp_iaload, wp_laload, wp_baload, wp_aaload, wp_iastore, wp_lastore, wp_bastore, wp_aastore, wp_return, wp_ireturnI, wp_ireturnZ, wp_lreturn, wp_areturnO, wp_areturnA, wp_max, wp_min, wp_obj, wp_virt, wp_nil, ld_I0, ld_Is, ld_J0, ld_Js, ld_A0, ld_As, ha_0, ha_s, cx_put1, cx_put2, cx_dl, cx_tgt, true_and, and_true, Nat.reduceAdd, Nat.reduceSub, Int.reduceAdd, Int.reduceNeg, Int.reduceToNat, Int.reduceSub, Int.cast_ofNat_Int, List.take_succ_cons, List.take_zero, List.drop_succ_cons, List.drop_zero, List.take_nil, List.drop_nil, Option.toList_some, Option.toList_none, List.cons_append, List.nil_append, wp_spec, ne_eq, Nat.reduceEqDiff, not_false_eq_true, true_or, or_true]
  refine cl_X10_isLetter (Nat.le_of_ble_eq_true rfl) hc (by omega) (by omega) (c_X10_isLetter hY H (fun no => ?_) (fun hi => ?_))
  · rw [lc] at no
    refine bx_X10_come_5 hY (pf2_ok hY) ?_
    simp only [wp_iconst, wp_bipush, wp_sipush, wp_ldc, wp_ldc2_w, wp_lconst0, wp_lconst1, wp_aconst_null, wp_iload_0, wp_istore_0, wp_iload_1, wp_istore_1, wp_iload_2, wp_istore_2, wp_iload_3, wp_istore_3, wp_iload, wp_istore, wp_lload_0, wp_lstore_0, wp_lload_1, wp_lstore_1, wp_lload_2, wp_lstore_2, wp_lload_3, wp_lstore_3, wp_lload, wp_lstore, wp_aload_0, wp_astore_0, wp_aload_1, wp_astore_1, wp_aload_2, wp_astore_2, wp_aload_3, wp_astore_3, wp_aload, wp_astore, wp_iinc, wp_iadd, wp_isub, wp_imul, wp_iand, wp_ior, wp_ixor, wp_ishl, wp_ishr, wp_iushr, wp_irem, wp_ladd, wp_lsub, wp_lmul, wp_land, wp_lor, wp_lxor, wp_lshl, wp_lshr, wp_lushr, wp_lrem, wp_lcmp, wp_i2l, wp_l2i, wp_dupI, wp_dupA, wp_dup2J, wp_dup2IA, wp_popI, wp_popA, wp_pop2, wp_goto, wp_if_eq, wp_icmp_eq, wp_if_ne, wp_icmp_ne, wp_if_lt, wp_icmp_lt, wp_if_ge, wp_icmp_ge, wp_if_gt, wp_icmp_gt, wp_if_le, wp_icmp_le, wp_ifnull, wp_ifnonnull, wp_acmp_eq, wp_acmp_ne, wp_tableswitch, wp_get0, wp_put0, wp_get1, wp_put1, wp_get2, wp_put2, wp_get3, wp_put3, wp_new, wp_newarray, wp_anewarray, wp_alen, wp_iaload, wp_laload, wp_baload, wp_aaload, wp_iastore, wp_lastore, wp_bastore, wp_aastore, wp_return, wp_ireturnI, wp_ireturnZ, wp_lreturn, wp_areturnO, wp_areturnA, wp_max, wp_min, wp_obj, wp_virt, wp_nil, ld_I0, ld_Is, ld_J0, ld_Js, ld_A0, ld_As, ha_0, ha_s, cx_put1, cx_put2, cx_dl, cx_tgt, true_and, and_true, Nat.reduceAdd, Nat.reduceSub, Int.reduceAdd, Int.reduceNeg, Int.reduceToNat, Int.reduceSub, Int.cast_ofNat_Int, List.take_succ_cons, List.take_zero, List.drop_succ_cons, List.drop_zero, List.take_nil, List.drop_nil, Option.toList_some, Option.toList_none, List.cons_append, List.nil_append, wp_spec, ne_eq, Nat.reduceEqDiff, not_false_eq_true, true_or, or_true, Nat.left_eq_add, Nat.add_eq_left, Nat.add_left_cancel_iff, Nat.reduceEqDiff, Int.reduceEq, false_and, and_false, if_false, if_true, and_self, true_and, true_or, or_true, false_or, or_false]
    exact ⟨fun _ => j16 (fun z => no z.2.1) _ _ _, fun w => absurd trivial w⟩
  rw [lc] at hi
  refine bx_X10_come_5 hY (pf2_ok hY) ?_
  simp only [wp_iconst, wp_bipush, wp_sipush, wp_ldc, wp_ldc2_w, wp_lconst0, wp_lconst1, wp_aconst_null, wp_iload_0, wp_istore_0, wp_iload_1, wp_istore_1, wp_iload_2, wp_istore_2, wp_iload_3, wp_istore_3, wp_iload, wp_istore, wp_lload_0, wp_lstore_0, wp_lload_1, wp_lstore_1, wp_lload_2, wp_lstore_2, wp_lload_3, wp_lstore_3, wp_lload, wp_lstore, wp_aload_0, wp_astore_0, wp_aload_1, wp_astore_1, wp_aload_2, wp_astore_2, wp_aload_3, wp_astore_3, wp_aload, wp_astore, wp_iinc, wp_iadd, wp_isub, wp_imul, wp_iand, wp_ior, wp_ixor, wp_ishl, wp_ishr, wp_iushr, wp_irem, wp_ladd, wp_lsub, wp_lmul, wp_land, wp_lor, wp_lxor, wp_lshl, wp_lshr, wp_lushr, wp_lrem, wp_lcmp, wp_i2l, wp_l2i, wp_dupI, wp_dupA, wp_dup2J, wp_dup2IA, wp_popI, wp_popA, wp_pop2, wp_goto, wp_if_eq, wp_icmp_eq, wp_if_ne, wp_icmp_ne, wp_if_lt, wp_icmp_lt, wp_if_ge, wp_icmp_ge, wp_if_gt, wp_icmp_gt, wp_if_le, wp_icmp_le, wp_ifnull, wp_ifnonnull, wp_acmp_eq, wp_acmp_ne, wp_tableswitch, wp_get0, wp_put0, wp_get1, wp_put1, wp_get2, wp_put2, wp_get3, wp_put3, wp_new, wp_newarray, wp_anewarray, wp_alen, wp_iaload, wp_laload, wp_baload, wp_aaload, wp_iastore, wp_lastore, wp_bastore, wp_aastore, wp_return, wp_ireturnI, wp_ireturnZ, wp_lreturn, wp_areturnO, wp_areturnA, wp_max, wp_min, wp_obj, wp_virt, wp_nil, ld_I0, ld_Is, ld_J0, ld_Js, ld_A0, ld_As, ha_0, ha_s, cx_put1, cx_put2, cx_dl, cx_tgt, true_and, and_true, Nat.reduceAdd, Nat.reduceSub, Int.reduceAdd, Int.reduceNeg, Int.reduceToNat, Int.reduceSub, Int.cast_ofNat_Int, List.take_succ_cons, List.take_zero, List.drop_succ_cons, List.drop_zero, List.take_nil, List.drop_nil, Option.toList_some, Option.toList_none, List.cons_append, List.nil_append, wp_spec, ne_eq, Nat.reduceEqDiff, not_false_eq_true, true_or, or_true, Nat.left_eq_add, Nat.add_eq_left, Nat.add_left_cancel_iff, Nat.reduceEqDiff, Int.reduceEq, false_and, and_false, if_false, if_true, and_self, true_and, true_or, or_true, false_or, or_false]
  refine ⟨fun w => absurd w (by decide), fun _ => ?_⟩
  refine cl_X10_isUser (Nat.le_of_ble_eq_true rfl) hc (by omega) (by omega) (c_X10_isUser hY H (fun no => ?_) (fun hu => ?_))
  · refine bx_X10_come_13 hY (pf2_ok hY) ?_
    simp only [wp_iconst, wp_bipush, wp_sipush, wp_ldc, wp_ldc2_w, wp_lconst0, wp_lconst1, wp_aconst_null, wp_iload_0, wp_istore_0, wp_iload_1, wp_istore_1, wp_iload_2, wp_istore_2, wp_iload_3, wp_istore_3, wp_iload, wp_istore, wp_lload_0, wp_lstore_0, wp_lload_1, wp_lstore_1, wp_lload_2, wp_lstore_2, wp_lload_3, wp_lstore_3, wp_lload, wp_lstore, wp_aload_0, wp_astore_0, wp_aload_1, wp_astore_1, wp_aload_2, wp_astore_2, wp_aload_3, wp_astore_3, wp_aload, wp_astore, wp_iinc, wp_iadd, wp_isub, wp_imul, wp_iand, wp_ior, wp_ixor, wp_ishl, wp_ishr, wp_iushr, wp_irem, wp_ladd, wp_lsub, wp_lmul, wp_land, wp_lor, wp_lxor, wp_lshl, wp_lshr, wp_lushr, wp_lrem, wp_lcmp, wp_i2l, wp_l2i, wp_dupI, wp_dupA, wp_dup2J, wp_dup2IA, wp_popI, wp_popA, wp_pop2, wp_goto, wp_if_eq, wp_icmp_eq, wp_if_ne, wp_icmp_ne, wp_if_lt, wp_icmp_lt, wp_if_ge, wp_icmp_ge, wp_if_gt, wp_icmp_gt, wp_if_le, wp_icmp_le, wp_ifnull, wp_ifnonnull, wp_acmp_eq, wp_acmp_ne, wp_tableswitch, wp_get0, wp_put0, wp_get1, wp_put1, wp_get2, wp_put2, wp_get3, wp_put3, wp_new, wp_newarray, wp_anewarray, wp_alen, wp_iaload, wp_laload, wp_baload, wp_aaload, wp_iastore, wp_lastore, wp_bastore, wp_aastore, wp_return, wp_ireturnI, wp_ireturnZ, wp_lreturn, wp_areturnO, wp_areturnA, wp_max, wp_min, wp_obj, wp_virt, wp_nil, ld_I0, ld_Is, ld_J0, ld_Js, ld_A0, ld_As, ha_0, ha_s, cx_put1, cx_put2, cx_dl, cx_tgt, true_and, and_true, Nat.reduceAdd, Nat.reduceSub, Int.reduceAdd, Int.reduceNeg, Int.reduceToNat, Int.reduceSub, Int.cast_ofNat_Int, List.take_succ_cons, List.take_zero, List.drop_succ_cons, List.drop_zero, List.take_nil, List.drop_nil, Option.toList_some, Option.toList_none, List.cons_append, List.nil_append, wp_spec, ne_eq, Nat.reduceEqDiff, not_false_eq_true, true_or, or_true, Nat.left_eq_add, Nat.add_eq_left, Nat.add_left_cancel_iff, Nat.reduceEqDiff, Int.reduceEq, false_and, and_false, if_false, if_true, and_self, true_and, true_or, or_true, false_or, or_false]
    exact ⟨fun w => absurd trivial w, fun _ => j16 (fun z => no z.1) _ _ _⟩
  refine bx_X10_come_13 hY (pf2_ok hY) ?_
  simp only [wp_iconst, wp_bipush, wp_sipush, wp_ldc, wp_ldc2_w, wp_lconst0, wp_lconst1, wp_aconst_null, wp_iload_0, wp_istore_0, wp_iload_1, wp_istore_1, wp_iload_2, wp_istore_2, wp_iload_3, wp_istore_3, wp_iload, wp_istore, wp_lload_0, wp_lstore_0, wp_lload_1, wp_lstore_1, wp_lload_2, wp_lstore_2, wp_lload_3, wp_lstore_3, wp_lload, wp_lstore, wp_aload_0, wp_astore_0, wp_aload_1, wp_astore_1, wp_aload_2, wp_astore_2, wp_aload_3, wp_astore_3, wp_aload, wp_astore, wp_iinc, wp_iadd, wp_isub, wp_imul, wp_iand, wp_ior, wp_ixor, wp_ishl, wp_ishr, wp_iushr, wp_irem, wp_ladd, wp_lsub, wp_lmul, wp_land, wp_lor, wp_lxor, wp_lshl, wp_lshr, wp_lushr, wp_lrem, wp_lcmp, wp_i2l, wp_l2i, wp_dupI, wp_dupA, wp_dup2J, wp_dup2IA, wp_popI, wp_popA, wp_pop2, wp_goto, wp_if_eq, wp_icmp_eq, wp_if_ne, wp_icmp_ne, wp_if_lt, wp_icmp_lt, wp_if_ge, wp_icmp_ge, wp_if_gt, wp_icmp_gt, wp_if_le, wp_icmp_le, wp_ifnull, wp_ifnonnull, wp_acmp_eq, wp_acmp_ne, wp_tableswitch, wp_get0, wp_put0, wp_get1, wp_put1, wp_get2, wp_put2, wp_get3, wp_put3, wp_new, wp_newarray, wp_anewarray, wp_alen, wp_iaload, wp_laload, wp_baload, wp_aaload, wp_iastore, wp_lastore, wp_bastore, wp_aastore, wp_return, wp_ireturnI, wp_ireturnZ, wp_lreturn, wp_areturnO, wp_areturnA, wp_max, wp_min, wp_obj, wp_virt, wp_nil, ld_I0, ld_Is, ld_J0, ld_Js, ld_A0, ld_As, ha_0, ha_s, cx_put1, cx_put2, cx_dl, cx_tgt, true_and, and_true, Nat.reduceAdd, Nat.reduceSub, Int.reduceAdd, Int.reduceNeg, Int.reduceToNat, Int.reduceSub, Int.cast_ofNat_Int, List.take_succ_cons, List.take_zero, List.drop_succ_cons, List.drop_zero, List.take_nil, List.drop_nil, Option.toList_some, Option.toList_none, List.cons_append, List.nil_append, wp_spec, ne_eq, Nat.reduceEqDiff, not_false_eq_true, true_or, or_true, Nat.left_eq_add, Nat.add_eq_left, Nat.add_left_cancel_iff, Nat.reduceEqDiff, Int.reduceEq, false_and, and_false, if_false, if_true, and_self, true_and, true_or, or_true, false_or, or_false]
  refine ⟨fun _ => ?_, fun w => absurd (by decide) w⟩
  have l80 := F.l80
  have zl : cq_z h lb = 80 := H.tz F.s1
  have el := (F.fl l hi.1 hi.2).1
  refine bx_X10_come_18 hY (pf2_ok hY) ?_
  simp only [wp_iconst, wp_bipush, wp_sipush, wp_ldc, wp_ldc2_w, wp_lconst0, wp_lconst1, wp_aconst_null, wp_iload_0, wp_istore_0, wp_iload_1, wp_istore_1, wp_iload_2, wp_istore_2, wp_iload_3, wp_istore_3, wp_iload, wp_istore, wp_lload_0, wp_lstore_0, wp_lload_1, wp_lstore_1, wp_lload_2, wp_lstore_2, wp_lload_3, wp_lstore_3, wp_lload, wp_lstore, wp_aload_0, wp_astore_0, wp_aload_1, wp_astore_1, wp_aload_2, wp_astore_2, wp_aload_3, wp_astore_3, wp_aload, wp_astore, wp_iinc, wp_iadd, wp_isub, wp_imul, wp_iand, wp_ior, wp_ixor, wp_ishl, wp_ishr, wp_iushr, wp_irem, wp_ladd, wp_lsub, wp_lmul, wp_land, wp_lor, wp_lxor, wp_lshl, wp_lshr, wp_lushr, wp_lrem, wp_lcmp, wp_i2l, wp_l2i, wp_dupI, wp_dupA, wp_dup2J, wp_dup2IA, wp_popI, wp_popA, wp_pop2, wp_goto, wp_if_eq, wp_icmp_eq, wp_if_ne, wp_icmp_ne, wp_if_lt, wp_icmp_lt, wp_if_ge, wp_icmp_ge, wp_if_gt, wp_icmp_gt, wp_if_le, wp_icmp_le, wp_ifnull, wp_ifnonnull, wp_acmp_eq, wp_acmp_ne, wp_tableswitch, wp_get0, wp_put0, wp_get1, wp_put1, wp_get2, wp_put2, wp_get3, wp_put3, wp_new, wp_newarray, wp_anewarray, wp_alen, wp_iaload, wp_laload, wp_baload, wp_aaload, wp_iastore, wp_lastore, wp_bastore, wp_aastore, wp_return, wp_ireturnI, wp_ireturnZ, wp_lreturn, wp_areturnO, wp_areturnA, wp_max, wp_min, wp_obj, wp_virt, wp_nil, ld_I0, ld_Is, ld_J0, ld_Js, ld_A0, ld_As, ha_0, ha_s, cx_put1, cx_put2, cx_dl, cx_tgt, true_and, and_true, Nat.reduceAdd, Nat.reduceSub, Int.reduceAdd, Int.reduceNeg, Int.reduceToNat, Int.reduceSub, Int.cast_ofNat_Int, List.take_succ_cons, List.take_zero, List.drop_succ_cons, List.drop_zero, List.take_nil, List.drop_nil, Option.toList_some, Option.toList_none, List.cons_append, List.nil_append, wp_spec, ne_eq, Nat.reduceEqDiff, not_false_eq_true, true_or, or_true, hc, F.a1, F.s1, zl, el, ra_102]
  refine ⟨by omega, ?_⟩
  -- a fault
  have flt : ¬ CO g x n l u → ∀ (f : Int) (m : cx_Q) (bc bs : Nat), 1 ≤ f → f ≤ 10 → CI c n L (Z + 4) E h0 [] m → FX c x n pe ro pa lb tp rd en op ob T Lf m g → cw Y mi_X10_come K 68 [some (.inr (.inr (some c))), some (.inl l), some (.inl u), some (.inl f)] [] m bc bs := by
    intro no f m bc bs f1 f2 G1 F1
    refine bx_X10_come_68 hY (pf2_ok hY) ?_
    simp only [wp_iconst, wp_bipush, wp_sipush, wp_ldc, wp_ldc2_w, wp_lconst0, wp_lconst1, wp_aconst_null, wp_iload_0, wp_istore_0, wp_iload_1, wp_istore_1, wp_iload_2, wp_istore_2, wp_iload_3, wp_istore_3, wp_iload, wp_istore, wp_lload_0, wp_lstore_0, wp_lload_1, wp_lstore_1, wp_lload_2, wp_lstore_2, wp_lload_3, wp_lstore_3, wp_lload, wp_lstore, wp_aload_0, wp_astore_0, wp_aload_1, wp_astore_1, wp_aload_2, wp_astore_2, wp_aload_3, wp_astore_3, wp_aload, wp_astore, wp_iinc, wp_iadd, wp_isub, wp_imul, wp_iand, wp_ior, wp_ixor, wp_ishl, wp_ishr, wp_iushr, wp_irem, wp_ladd, wp_lsub, wp_lmul, wp_land, wp_lor, wp_lxor, wp_lshl, wp_lshr, wp_lushr, wp_lrem, wp_lcmp, wp_i2l, wp_l2i, wp_dupI, wp_dupA, wp_dup2J, wp_dup2IA, wp_popI, wp_popA, wp_pop2, wp_goto, wp_if_eq, wp_icmp_eq, wp_if_ne, wp_icmp_ne, wp_if_lt, wp_icmp_lt, wp_if_ge, wp_icmp_ge, wp_if_gt, wp_icmp_gt, wp_if_le, wp_icmp_le, wp_ifnull, wp_ifnonnull, wp_acmp_eq, wp_acmp_ne, wp_tableswitch, wp_get0, wp_put0, wp_get1, wp_put1, wp_get2, wp_put2, wp_get3, wp_put3, wp_new, wp_newarray, wp_anewarray, wp_alen, wp_iaload, wp_laload, wp_baload, wp_aaload, wp_iastore, wp_lastore, wp_bastore, wp_aastore, wp_return, wp_ireturnI, wp_ireturnZ, wp_lreturn, wp_areturnO, wp_areturnA, wp_max, wp_min, wp_obj, wp_virt, wp_nil, ld_I0, ld_Is, ld_J0, ld_Js, ld_A0, ld_As, ha_0, ha_s, cx_put1, cx_put2, cx_dl, cx_tgt, true_and, and_true, Nat.reduceAdd, Nat.reduceSub, Int.reduceAdd, Int.reduceNeg, Int.reduceToNat, Int.reduceSub, Int.cast_ofNat_Int, List.take_succ_cons, List.take_zero, List.drop_succ_cons, List.drop_zero, List.take_nil, List.drop_nil, Option.toList_some, Option.toList_none, List.cons_append, List.nil_append, wp_spec, ne_eq, Nat.reduceEqDiff, not_false_eq_true, true_or, or_true, cx_rg]
    exact ⟨fun q => absurd q (by omega), fun _ => ⟨by omega, hF no _ m (G1.up (by omega)) F1⟩⟩
  refine cl_X10_faultAtTheDoor (Nat.le_of_ble_eq_true rfl) hc (by omega) (by omega) (f_X10_faultAtTheDoor hY H F hu hi (fun no f m f1 f2 G1 F1 => ?_) (fun rok h11 h84 m G1 F1 R1 => ?_))
  · have zpa : cq_z m pa = n := G1.tz F1.s0
    refine bx_X10_come_29 hY (pf2_ok hY) ?_
    simp only [wp_iconst, wp_bipush, wp_sipush, wp_ldc, wp_ldc2_w, wp_lconst0, wp_lconst1, wp_aconst_null, wp_iload_0, wp_istore_0, wp_iload_1, wp_istore_1, wp_iload_2, wp_istore_2, wp_iload_3, wp_istore_3, wp_iload, wp_istore, wp_lload_0, wp_lstore_0, wp_lload_1, wp_lstore_1, wp_lload_2, wp_lstore_2, wp_lload_3, wp_lstore_3, wp_lload, wp_lstore, wp_aload_0, wp_astore_0, wp_aload_1, wp_astore_1, wp_aload_2, wp_astore_2, wp_aload_3, wp_astore_3, wp_aload, wp_astore, wp_iinc, wp_iadd, wp_isub, wp_imul, wp_iand, wp_ior, wp_ixor, wp_ishl, wp_ishr, wp_iushr, wp_irem, wp_ladd, wp_lsub, wp_lmul, wp_land, wp_lor, wp_lxor, wp_lshl, wp_lshr, wp_lushr, wp_lrem, wp_lcmp, wp_i2l, wp_l2i, wp_dupI, wp_dupA, wp_dup2J, wp_dup2IA, wp_popI, wp_popA, wp_pop2, wp_goto, wp_if_eq, wp_icmp_eq, wp_if_ne, wp_icmp_ne, wp_if_lt, wp_icmp_lt, wp_if_ge, wp_icmp_ge, wp_if_gt, wp_icmp_gt, wp_if_le, wp_icmp_le, wp_ifnull, wp_ifnonnull, wp_acmp_eq, wp_acmp_ne, wp_tableswitch, wp_get0, wp_put0, wp_get1, wp_put1, wp_get2, wp_put2, wp_get3, wp_put3, wp_new, wp_newarray, wp_anewarray, wp_alen, wp_iaload, wp_laload, wp_baload, wp_aaload, wp_iastore, wp_lastore, wp_bastore, wp_aastore, wp_return, wp_ireturnI, wp_ireturnZ, wp_lreturn, wp_areturnO, wp_areturnA, wp_max, wp_min, wp_obj, wp_virt, wp_nil, ld_I0, ld_Is, ld_J0, ld_Js, ld_A0, ld_As, ha_0, ha_s, cx_put1, cx_put2, cx_dl, cx_tgt, true_and, and_true, Nat.reduceAdd, Nat.reduceSub, Int.reduceAdd, Int.reduceNeg, Int.reduceToNat, Int.reduceSub, Int.cast_ofNat_Int, List.take_succ_cons, List.take_zero, List.drop_succ_cons, List.drop_zero, List.take_nil, List.drop_nil, Option.toList_some, Option.toList_none, List.cons_append, List.nil_append, wp_spec, ne_eq, Nat.reduceEqDiff, not_false_eq_true, true_or, or_true, F1.fs.s0, F1.a12, F1.s12, F1.a0, F1.s0, zpa, F1.pa_ u hu.1 hu.2, ra_105]
    exact ⟨fun _ => flt (fun z => no ⟨z.2.2.1, z.2.2.2.1, z.2.2.2.2.1⟩) f m _ _ f1 f2 (G1.up (by omega)) F1, fun q => absurd q (by omega)⟩
  have gc := G1.cs
  have zpa : cq_z m pa = n := G1.tz F1.s0
  have x1 := rl_x (g := g) (x := x) (l := l)
  have xv := rl_v (g := g) (x := x) (l := l)
  have eLs := rl_eL (x := x) (g := g) (l := l)
  have hr62 : ∀ j, 0 ≤ cq_I (m_rl g x l) (x + 62) j ∧ cq_I (m_rl g x l) (x + 62) j ≤ 255 := fun j => by
    rw [x1.2.2.2.2 62 j (by decide)]
    exact h62 j
  have b21 := m_bytes_2r (h := m_rl g x l) (x := x) (p := 21) hr62
  have bpl := m_bytes_2r (h := m_rl g x l) (x := x) (p := m_hd g x l + 10) hr62
  rw [rl_b] at bpl
  have h81 : 0 ≤ cq_I (m_rl g x l) x 81 := by
    rw [xv.2.2]
    exact bpl.1
  have hd0 : 0 ≤ m_hd g x l := by
    unfold m_hd
    split <;> decide
  have d0 : 0 ≤ cq_I (m_rl g x l) x 82 := by
    rw [x1.2.2.1]
    omega
  have e84 : cq_I (m_rl g x l) x 84 = cq_I g x 84 := (eLs.2.2.2.2 x 84 (by omega)).1
  have e85 : cq_I (m_rl g x l) x 85 = cq_I g x 85 := (eLs.2.2.2.2 x 85 (by omega)).1
  have r62 : ∀ j, cq_I (m_rl g x l) (x + 62) j = cq_I g (x + 62) j := fun j => x1.2.2.2.2 62 j (by decide)
  have r11 : cq_I (m_rl g x l) (x + 11) u = cq_I g (x + 11) u := x1.2.2.2.2 11 u (by decide)
  have r58 : cq_I (m_rl g x l) (x + 58) u = cq_I g (x + 58) u := x1.2.2.2.2 58 u (by decide)
  have v0 := h62 (100 * l + 1)
  have hv : 0 ≤ cq_I g (x + 62) (100 * l + 1) ∧ cq_I g (x + 62) (100 * l + 1) < n := by
    have nn := F.nn
    have := rok.2.2.2.2.1
    omega
  have bg := R1.bg
  rw [r62] at bg
  refine bx_X10_come_29 hY (pf2_ok hY) ?_
  simp only [wp_iconst, wp_bipush, wp_sipush, wp_ldc, wp_ldc2_w, wp_lconst0, wp_lconst1, wp_aconst_null, wp_iload_0, wp_istore_0, wp_iload_1, wp_istore_1, wp_iload_2, wp_istore_2, wp_iload_3, wp_istore_3, wp_iload, wp_istore, wp_lload_0, wp_lstore_0, wp_lload_1, wp_lstore_1, wp_lload_2, wp_lstore_2, wp_lload_3, wp_lstore_3, wp_lload, wp_lstore, wp_aload_0, wp_astore_0, wp_aload_1, wp_astore_1, wp_aload_2, wp_astore_2, wp_aload_3, wp_astore_3, wp_aload, wp_astore, wp_iinc, wp_iadd, wp_isub, wp_imul, wp_iand, wp_ior, wp_ixor, wp_ishl, wp_ishr, wp_iushr, wp_irem, wp_ladd, wp_lsub, wp_lmul, wp_land, wp_lor, wp_lxor, wp_lshl, wp_lshr, wp_lushr, wp_lrem, wp_lcmp, wp_i2l, wp_l2i, wp_dupI, wp_dupA, wp_dup2J, wp_dup2IA, wp_popI, wp_popA, wp_pop2, wp_goto, wp_if_eq, wp_icmp_eq, wp_if_ne, wp_icmp_ne, wp_if_lt, wp_icmp_lt, wp_if_ge, wp_icmp_ge, wp_if_gt, wp_icmp_gt, wp_if_le, wp_icmp_le, wp_ifnull, wp_ifnonnull, wp_acmp_eq, wp_acmp_ne, wp_tableswitch, wp_get0, wp_put0, wp_get1, wp_put1, wp_get2, wp_put2, wp_get3, wp_put3, wp_new, wp_newarray, wp_anewarray, wp_alen, wp_iaload, wp_laload, wp_baload, wp_aaload, wp_iastore, wp_lastore, wp_bastore, wp_aastore, wp_return, wp_ireturnI, wp_ireturnZ, wp_lreturn, wp_areturnO, wp_areturnA, wp_max, wp_min, wp_obj, wp_virt, wp_nil, ld_I0, ld_Is, ld_J0, ld_Js, ld_A0, ld_As, ha_0, ha_s, cx_put1, cx_put2, cx_dl, cx_tgt, true_and, and_true, Nat.reduceAdd, Nat.reduceSub, Int.reduceAdd, Int.reduceNeg, Int.reduceToNat, Int.reduceSub, Int.cast_ofNat_Int, List.take_succ_cons, List.take_zero, List.drop_succ_cons, List.drop_zero, List.take_nil, List.drop_nil, Option.toList_some, Option.toList_none, List.cons_append, List.nil_append, wp_spec, ne_eq, Nat.reduceEqDiff, not_false_eq_true, true_or, or_true, gc, F1.a12, F1.s12, F1.a0, F1.s0, zpa, F1.pa_ u hu.1 hu.2, ra_105]
  refine ⟨fun q => absurd trivial q, fun _ => ?_⟩
  by_cases first : cq_I g (x + 62) (100 * l) = 1
  · rw [if_pos first] at bg
    rw [bg]
    refine ⟨fun w => absurd w (by decide), fun _ => ⟨by omega, ?_⟩⟩
    refine cl_X10_openWithBeginning (Nat.le_of_ble_eq_true rfl) gc (by omega) (by omega) (f_X10_openWithBeginning hY G1 (by omega) F1 R1 hu hv (r62 _) (by rw [r62]; exact first) rfl rfl rfl rfl (by rw [r11]; exact h11) b21.1 h81 (by rw [r58]; exact h58) (by rw [e85]; exact h85) (fun no f m2 f1 f2 G2 F2 R2 => ?_) (fun ok m2 T2 k G2 F2 R2 A2 => ?_))
    · have no' : ¬ CO g x n l u := fun z => no (z.2.2.2.2.2.1 first)
      refine bx_X10_come_54 hY (pf2_ok hY) ?_
      simp only [wp_iconst, wp_bipush, wp_sipush, wp_ldc, wp_ldc2_w, wp_lconst0, wp_lconst1, wp_aconst_null, wp_iload_0, wp_istore_0, wp_iload_1, wp_istore_1, wp_iload_2, wp_istore_2, wp_iload_3, wp_istore_3, wp_iload, wp_istore, wp_lload_0, wp_lstore_0, wp_lload_1, wp_lstore_1, wp_lload_2, wp_lstore_2, wp_lload_3, wp_lstore_3, wp_lload, wp_lstore, wp_aload_0, wp_astore_0, wp_aload_1, wp_astore_1, wp_aload_2, wp_astore_2, wp_aload_3, wp_astore_3, wp_aload, wp_astore, wp_iinc, wp_iadd, wp_isub, wp_imul, wp_iand, wp_ior, wp_ixor, wp_ishl, wp_ishr, wp_iushr, wp_irem, wp_ladd, wp_lsub, wp_lmul, wp_land, wp_lor, wp_lxor, wp_lshl, wp_lshr, wp_lushr, wp_lrem, wp_lcmp, wp_i2l, wp_l2i, wp_dupI, wp_dupA, wp_dup2J, wp_dup2IA, wp_popI, wp_popA, wp_pop2, wp_goto, wp_if_eq, wp_icmp_eq, wp_if_ne, wp_icmp_ne, wp_if_lt, wp_icmp_lt, wp_if_ge, wp_icmp_ge, wp_if_gt, wp_icmp_gt, wp_if_le, wp_icmp_le, wp_ifnull, wp_ifnonnull, wp_acmp_eq, wp_acmp_ne, wp_tableswitch, wp_get0, wp_put0, wp_get1, wp_put1, wp_get2, wp_put2, wp_get3, wp_put3, wp_new, wp_newarray, wp_anewarray, wp_alen, wp_iaload, wp_laload, wp_baload, wp_aaload, wp_iastore, wp_lastore, wp_bastore, wp_aastore, wp_return, wp_ireturnI, wp_ireturnZ, wp_lreturn, wp_areturnO, wp_areturnA, wp_max, wp_min, wp_obj, wp_virt, wp_nil, ld_I0, ld_Is, ld_J0, ld_Js, ld_A0, ld_As, ha_0, ha_s, cx_put1, cx_put2, cx_dl, cx_tgt, true_and, and_true, Nat.reduceAdd, Nat.reduceSub, Int.reduceAdd, Int.reduceNeg, Int.reduceToNat, Int.reduceSub, Int.cast_ofNat_Int, List.take_succ_cons, List.take_zero, List.drop_succ_cons, List.drop_zero, List.take_nil, List.drop_nil, Option.toList_some, Option.toList_none, List.cons_append, List.nil_append, wp_spec, ne_eq, Nat.reduceEqDiff, not_false_eq_true, true_or, or_true]
      refine bx_X10_come_67 hY (pf2_ok hY) ?_
      simp only [wp_iconst, wp_bipush, wp_sipush, wp_ldc, wp_ldc2_w, wp_lconst0, wp_lconst1, wp_aconst_null, wp_iload_0, wp_istore_0, wp_iload_1, wp_istore_1, wp_iload_2, wp_istore_2, wp_iload_3, wp_istore_3, wp_iload, wp_istore, wp_lload_0, wp_lstore_0, wp_lload_1, wp_lstore_1, wp_lload_2, wp_lstore_2, wp_lload_3, wp_lstore_3, wp_lload, wp_lstore, wp_aload_0, wp_astore_0, wp_aload_1, wp_astore_1, wp_aload_2, wp_astore_2, wp_aload_3, wp_astore_3, wp_aload, wp_astore, wp_iinc, wp_iadd, wp_isub, wp_imul, wp_iand, wp_ior, wp_ixor, wp_ishl, wp_ishr, wp_iushr, wp_irem, wp_ladd, wp_lsub, wp_lmul, wp_land, wp_lor, wp_lxor, wp_lshl, wp_lshr, wp_lushr, wp_lrem, wp_lcmp, wp_i2l, wp_l2i, wp_dupI, wp_dupA, wp_dup2J, wp_dup2IA, wp_popI, wp_popA, wp_pop2, wp_goto, wp_if_eq, wp_icmp_eq, wp_if_ne, wp_icmp_ne, wp_if_lt, wp_icmp_lt, wp_if_ge, wp_icmp_ge, wp_if_gt, wp_icmp_gt, wp_if_le, wp_icmp_le, wp_ifnull, wp_ifnonnull, wp_acmp_eq, wp_acmp_ne, wp_tableswitch, wp_get0, wp_put0, wp_get1, wp_put1, wp_get2, wp_put2, wp_get3, wp_put3, wp_new, wp_newarray, wp_anewarray, wp_alen, wp_iaload, wp_laload, wp_baload, wp_aaload, wp_iastore, wp_lastore, wp_bastore, wp_aastore, wp_return, wp_ireturnI, wp_ireturnZ, wp_lreturn, wp_areturnO, wp_areturnA, wp_max, wp_min, wp_obj, wp_virt, wp_nil, ld_I0, ld_Is, ld_J0, ld_Js, ld_A0, ld_As, ha_0, ha_s, cx_put1, cx_put2, cx_dl, cx_tgt, true_and, and_true, Nat.reduceAdd, Nat.reduceSub, Int.reduceAdd, Int.reduceNeg, Int.reduceToNat, Int.reduceSub, Int.cast_ofNat_Int, List.take_succ_cons, List.take_zero, List.drop_succ_cons, List.drop_zero, List.take_nil, List.drop_nil, Option.toList_some, Option.toList_none, List.cons_append, List.nil_append, wp_spec, ne_eq, Nat.reduceEqDiff, not_false_eq_true, true_or, or_true]
      exact flt no' f m2 _ _ f1 f2 (G2.up (by omega)) (F2.eL eLs.symm)
    · have ok' : CO g x n l u := ⟨hu, hi, rok, h11, h84, fun _ => ok, fun z => absurd first z⟩
      have hK' := hK ok'
      unfold CMQ CMQ0 at hK'
      rw [if_pos first] at hK'
      refine bx_X10_come_54 hY (pf2_ok hY) ?_
      simp only [wp_iconst, wp_bipush, wp_sipush, wp_ldc, wp_ldc2_w, wp_lconst0, wp_lconst1, wp_aconst_null, wp_iload_0, wp_istore_0, wp_iload_1, wp_istore_1, wp_iload_2, wp_istore_2, wp_iload_3, wp_istore_3, wp_iload, wp_istore, wp_lload_0, wp_lstore_0, wp_lload_1, wp_lstore_1, wp_lload_2, wp_lstore_2, wp_lload_3, wp_lstore_3, wp_lload, wp_lstore, wp_aload_0, wp_astore_0, wp_aload_1, wp_astore_1, wp_aload_2, wp_astore_2, wp_aload_3, wp_astore_3, wp_aload, wp_astore, wp_iinc, wp_iadd, wp_isub, wp_imul, wp_iand, wp_ior, wp_ixor, wp_ishl, wp_ishr, wp_iushr, wp_irem, wp_ladd, wp_lsub, wp_lmul, wp_land, wp_lor, wp_lxor, wp_lshl, wp_lshr, wp_lushr, wp_lrem, wp_lcmp, wp_i2l, wp_l2i, wp_dupI, wp_dupA, wp_dup2J, wp_dup2IA, wp_popI, wp_popA, wp_pop2, wp_goto, wp_if_eq, wp_icmp_eq, wp_if_ne, wp_icmp_ne, wp_if_lt, wp_icmp_lt, wp_if_ge, wp_icmp_ge, wp_if_gt, wp_icmp_gt, wp_if_le, wp_icmp_le, wp_ifnull, wp_ifnonnull, wp_acmp_eq, wp_acmp_ne, wp_tableswitch, wp_get0, wp_put0, wp_get1, wp_put1, wp_get2, wp_put2, wp_get3, wp_put3, wp_new, wp_newarray, wp_anewarray, wp_alen, wp_iaload, wp_laload, wp_baload, wp_aaload, wp_iastore, wp_lastore, wp_bastore, wp_aastore, wp_return, wp_ireturnI, wp_ireturnZ, wp_lreturn, wp_areturnO, wp_areturnA, wp_max, wp_min, wp_obj, wp_virt, wp_nil, ld_I0, ld_Is, ld_J0, ld_Js, ld_A0, ld_As, ha_0, ha_s, cx_put1, cx_put2, cx_dl, cx_tgt, true_and, and_true, Nat.reduceAdd, Nat.reduceSub, Int.reduceAdd, Int.reduceNeg, Int.reduceToNat, Int.reduceSub, Int.cast_ofNat_Int, List.take_succ_cons, List.take_zero, List.drop_succ_cons, List.drop_zero, List.take_nil, List.drop_nil, Option.toList_some, Option.toList_none, List.cons_append, List.nil_append, wp_spec, ne_eq, Nat.reduceEqDiff, not_false_eq_true, true_or, or_true]
      refine bx_X10_come_67 hY (pf2_ok hY) ?_
      simp only [wp_iconst, wp_bipush, wp_sipush, wp_ldc, wp_ldc2_w, wp_lconst0, wp_lconst1, wp_aconst_null, wp_iload_0, wp_istore_0, wp_iload_1, wp_istore_1, wp_iload_2, wp_istore_2, wp_iload_3, wp_istore_3, wp_iload, wp_istore, wp_lload_0, wp_lstore_0, wp_lload_1, wp_lstore_1, wp_lload_2, wp_lstore_2, wp_lload_3, wp_lstore_3, wp_lload, wp_lstore, wp_aload_0, wp_astore_0, wp_aload_1, wp_astore_1, wp_aload_2, wp_astore_2, wp_aload_3, wp_astore_3, wp_aload, wp_astore, wp_iinc, wp_iadd, wp_isub, wp_imul, wp_iand, wp_ior, wp_ixor, wp_ishl, wp_ishr, wp_iushr, wp_irem, wp_ladd, wp_lsub, wp_lmul, wp_land, wp_lor, wp_lxor, wp_lshl, wp_lshr, wp_lushr, wp_lrem, wp_lcmp, wp_i2l, wp_l2i, wp_dupI, wp_dupA, wp_dup2J, wp_dup2IA, wp_popI, wp_popA, wp_pop2, wp_goto, wp_if_eq, wp_icmp_eq, wp_if_ne, wp_icmp_ne, wp_if_lt, wp_icmp_lt, wp_if_ge, wp_icmp_ge, wp_if_gt, wp_icmp_gt, wp_if_le, wp_icmp_le, wp_ifnull, wp_ifnonnull, wp_acmp_eq, wp_acmp_ne, wp_tableswitch, wp_get0, wp_put0, wp_get1, wp_put1, wp_get2, wp_put2, wp_get3, wp_put3, wp_new, wp_newarray, wp_anewarray, wp_alen, wp_iaload, wp_laload, wp_baload, wp_aaload, wp_iastore, wp_lastore, wp_bastore, wp_aastore, wp_return, wp_ireturnI, wp_ireturnZ, wp_lreturn, wp_areturnO, wp_areturnA, wp_max, wp_min, wp_obj, wp_virt, wp_nil, ld_I0, ld_Is, ld_J0, ld_Js, ld_A0, ld_As, ha_0, ha_s, cx_put1, cx_put2, cx_dl, cx_tgt, true_and, and_true, Nat.reduceAdd, Nat.reduceSub, Int.reduceAdd, Int.reduceNeg, Int.reduceToNat, Int.reduceSub, Int.cast_ofNat_Int, List.take_succ_cons, List.take_zero, List.drop_succ_cons, List.drop_zero, List.take_nil, List.drop_nil, Option.toList_some, Option.toList_none, List.cons_append, List.nil_append, wp_spec, ne_eq, Nat.reduceEqDiff, not_false_eq_true, true_or, or_true]
      refine cw_room (Nat.zero_le _) (Nat.zero_le _) (come_ok hY (G2.up (Z' := Z + 4) (by omega)) F2 R2 A2 d0 ?_ e84 h84 (fun t m3 G3 F3 => hK' t m3 T2 (G3.up (by omega)) F3))
      exact cfQ_84 (h := m_rl g x l) (x := x) (u := u) (v := cq_I g (x + 62) (100 * l + 1))
  · rw [if_neg first] at bg
    rw [bg]
    refine ⟨fun _ => ?_, fun w => absurd rfl w⟩
    refine bx_X10_come_57 hY (pf2_ok hY) ?_
    simp only [wp_iconst, wp_bipush, wp_sipush, wp_ldc, wp_ldc2_w, wp_lconst0, wp_lconst1, wp_aconst_null, wp_iload_0, wp_istore_0, wp_iload_1, wp_istore_1, wp_iload_2, wp_istore_2, wp_iload_3, wp_istore_3, wp_iload, wp_istore, wp_lload_0, wp_lstore_0, wp_lload_1, wp_lstore_1, wp_lload_2, wp_lstore_2, wp_lload_3, wp_lstore_3, wp_lload, wp_lstore, wp_aload_0, wp_astore_0, wp_aload_1, wp_astore_1, wp_aload_2, wp_astore_2, wp_aload_3, wp_astore_3, wp_aload, wp_astore, wp_iinc, wp_iadd, wp_isub, wp_imul, wp_iand, wp_ior, wp_ixor, wp_ishl, wp_ishr, wp_iushr, wp_irem, wp_ladd, wp_lsub, wp_lmul, wp_land, wp_lor, wp_lxor, wp_lshl, wp_lshr, wp_lushr, wp_lrem, wp_lcmp, wp_i2l, wp_l2i, wp_dupI, wp_dupA, wp_dup2J, wp_dup2IA, wp_popI, wp_popA, wp_pop2, wp_goto, wp_if_eq, wp_icmp_eq, wp_if_ne, wp_icmp_ne, wp_if_lt, wp_icmp_lt, wp_if_ge, wp_icmp_ge, wp_if_gt, wp_icmp_gt, wp_if_le, wp_icmp_le, wp_ifnull, wp_ifnonnull, wp_acmp_eq, wp_acmp_ne, wp_tableswitch, wp_get0, wp_put0, wp_get1, wp_put1, wp_get2, wp_put2, wp_get3, wp_put3, wp_new, wp_newarray, wp_anewarray, wp_alen, wp_iaload, wp_laload, wp_baload, wp_aaload, wp_iastore, wp_lastore, wp_bastore, wp_aastore, wp_return, wp_ireturnI, wp_ireturnZ, wp_lreturn, wp_areturnO, wp_areturnA, wp_max, wp_min, wp_obj, wp_virt, wp_nil, ld_I0, ld_Is, ld_J0, ld_Js, ld_A0, ld_As, ha_0, ha_s, cx_put1, cx_put2, cx_dl, cx_tgt, true_and, and_true, Nat.reduceAdd, Nat.reduceSub, Int.reduceAdd, Int.reduceNeg, Int.reduceToNat, Int.reduceSub, Int.cast_ofNat_Int, List.take_succ_cons, List.take_zero, List.drop_succ_cons, List.drop_zero, List.take_nil, List.drop_nil, Option.toList_some, Option.toList_none, List.cons_append, List.nil_append, wp_spec, ne_eq, Nat.reduceEqDiff, not_false_eq_true, true_or, or_true, gc, F1.a0, F1.s0, zpa, F1.pa_ u hu.1 hu.2, ra_105]
    refine ⟨by omega, ?_⟩
    have fo := F1.fo u (cq_I g (x + 62) (100 * l + 1)) hu.1 hu.2 hv.1 hv.2
    have r4 := fo.r4
    refine cl_X10_openWithoutBeginning (Nat.le_of_ble_eq_true rfl) gc (by omega) (by omega) (f_X10_openWithoutBeginning hY G1 (by omega) F1 R1 hu hv (r62 _) h81 (fun no f m2 f1 f2 G2 F2 R2 => ?_) (fun ok m2 G2 O2 => ?_))
    · have no' : ¬ CO g x n l u := fun z => no (z.2.2.2.2.2.2 first)
      refine bx_X10_come_67 hY (pf2_ok hY) ?_
      simp only [wp_iconst, wp_bipush, wp_sipush, wp_ldc, wp_ldc2_w, wp_lconst0, wp_lconst1, wp_aconst_null, wp_iload_0, wp_istore_0, wp_iload_1, wp_istore_1, wp_iload_2, wp_istore_2, wp_iload_3, wp_istore_3, wp_iload, wp_istore, wp_lload_0, wp_lstore_0, wp_lload_1, wp_lstore_1, wp_lload_2, wp_lstore_2, wp_lload_3, wp_lstore_3, wp_lload, wp_lstore, wp_aload_0, wp_astore_0, wp_aload_1, wp_astore_1, wp_aload_2, wp_astore_2, wp_aload_3, wp_astore_3, wp_aload, wp_astore, wp_iinc, wp_iadd, wp_isub, wp_imul, wp_iand, wp_ior, wp_ixor, wp_ishl, wp_ishr, wp_iushr, wp_irem, wp_ladd, wp_lsub, wp_lmul, wp_land, wp_lor, wp_lxor, wp_lshl, wp_lshr, wp_lushr, wp_lrem, wp_lcmp, wp_i2l, wp_l2i, wp_dupI, wp_dupA, wp_dup2J, wp_dup2IA, wp_popI, wp_popA, wp_pop2, wp_goto, wp_if_eq, wp_icmp_eq, wp_if_ne, wp_icmp_ne, wp_if_lt, wp_icmp_lt, wp_if_ge, wp_icmp_ge, wp_if_gt, wp_icmp_gt, wp_if_le, wp_icmp_le, wp_ifnull, wp_ifnonnull, wp_acmp_eq, wp_acmp_ne, wp_tableswitch, wp_get0, wp_put0, wp_get1, wp_put1, wp_get2, wp_put2, wp_get3, wp_put3, wp_new, wp_newarray, wp_anewarray, wp_alen, wp_iaload, wp_laload, wp_baload, wp_aaload, wp_iastore, wp_lastore, wp_bastore, wp_aastore, wp_return, wp_ireturnI, wp_ireturnZ, wp_lreturn, wp_areturnO, wp_areturnA, wp_max, wp_min, wp_obj, wp_virt, wp_nil, ld_I0, ld_Is, ld_J0, ld_Js, ld_A0, ld_As, ha_0, ha_s, cx_put1, cx_put2, cx_dl, cx_tgt, true_and, and_true, Nat.reduceAdd, Nat.reduceSub, Int.reduceAdd, Int.reduceNeg, Int.reduceToNat, Int.reduceSub, Int.cast_ofNat_Int, List.take_succ_cons, List.take_zero, List.drop_succ_cons, List.drop_zero, List.take_nil, List.drop_nil, Option.toList_some, Option.toList_none, List.cons_append, List.nil_append, wp_spec, ne_eq, Nat.reduceEqDiff, not_false_eq_true, true_or, or_true]
      exact flt no' f m2 _ _ f1 f2 (G2.up (by omega)) (F2.eL eLs.symm)
    · have ok' : CO g x n l u := ⟨hu, hi, rok, h11, h84, fun z => absurd z first, fun _ => ok⟩
      have hK' := hK ok'
      unfold CMQ CMQ0 at hK'
      rw [if_neg first] at hK'
      obtain ⟨F2, R2, k2⟩ := O2
      have q84 := clQ_84 (h := m_rl g x l) (x := x) (l := l) (u := u) (r := 6 * u + cq_I g (x + 62) (100 * l + 1))
      have ri : (0 ≤ m_clI (m_rl g x l) x l (6 * u + cq_I g (x + 62) (100 * l + 1)) ∧ m_clI (m_rl g x l) x l (6 * u + cq_I g (x + 62) (100 * l + 1)) < cq_I (m_rl g x l) (x + 30) (6 * u + cq_I g (x + 62) (100 * l + 1))) ∧ m_openA (m_rl g x l) x l (cq_I (m_rl g x l) (x + 29) (4 * (6 * u + cq_I g (x + 62) (100 * l + 1)) + m_clI (m_rl g x l) x l (6 * u + cq_I g (x + 62) (100 * l + 1)))) = 0 := by
        unfold m_clA at ok
        have hni : m_clI (m_rl g x l) x l (6 * u + cq_I g (x + 62) (100 * l + 1)) ≠ -2 := by
          intro e
          by_cases c0 : cq_I (m_rl g x l) (x + 30) (6 * u + cq_I g (x + 62) (100 * l + 1)) = 0
          · rw [if_pos c0] at ok; exact absurd ok (by decide)
          rw [if_neg c0, if_pos e] at ok
          unfold m_clI at e
          obtain ⟨k, hk⟩ : ∃ k : Nat, (cq_I (m_rl g x l) (x + 30) (6 * u + cq_I g (x + 62) (100 * l + 1))).toNat = k + 1 := ⟨(cq_I (m_rl g x l) (x + 30) (6 * u + cq_I g (x + 62) (100 * l + 1))).toNat - 1, by omega⟩
          rw [hk, m_ci_s, if_pos ok] at e
          exact absurd e (by decide)
        rcases m_ci_rg (f := m_clF (m_rl g x l) x l (6 * u + cq_I g (x + 62) (100 * l + 1))) (n := (cq_I (m_rl g x l) (x + 30) (6 * u + cq_I g (x + 62) (100 * l + 1))).toNat) (k := 0) with z | z
        · exact absurd z hni
        · unfold m_clI
          refine ⟨⟨z.1, ?_⟩, z.2.2⟩
          have := z.2.1
          omega
      unfold m_clQ at hK' q84
      generalize m_clI (m_rl g x l) x l (6 * u + cq_I g (x + 62) (100 * l + 1)) = i at F2 k2 q84 hK' ri
      have sr := fo.ss i ri.1.1 ri.1.2
      have A := (openQ_rd (u := u) sr.k20 h81 ri.2).e
      have i4 : 0 ≤ i ∧ i < 4 := ⟨ri.1.1, by omega⟩
      refine bx_X10_come_67 hY (pf2_ok hY) ?_
      simp only [wp_iconst, wp_bipush, wp_sipush, wp_ldc, wp_ldc2_w, wp_lconst0, wp_lconst1, wp_aconst_null, wp_iload_0, wp_istore_0, wp_iload_1, wp_istore_1, wp_iload_2, wp_istore_2, wp_iload_3, wp_istore_3, wp_iload, wp_istore, wp_lload_0, wp_lstore_0, wp_lload_1, wp_lstore_1, wp_lload_2, wp_lstore_2, wp_lload_3, wp_lstore_3, wp_lload, wp_lstore, wp_aload_0, wp_astore_0, wp_aload_1, wp_astore_1, wp_aload_2, wp_astore_2, wp_aload_3, wp_astore_3, wp_aload, wp_astore, wp_iinc, wp_iadd, wp_isub, wp_imul, wp_iand, wp_ior, wp_ixor, wp_ishl, wp_ishr, wp_iushr, wp_irem, wp_ladd, wp_lsub, wp_lmul, wp_land, wp_lor, wp_lxor, wp_lshl, wp_lshr, wp_lushr, wp_lrem, wp_lcmp, wp_i2l, wp_l2i, wp_dupI, wp_dupA, wp_dup2J, wp_dup2IA, wp_popI, wp_popA, wp_pop2, wp_goto, wp_if_eq, wp_icmp_eq, wp_if_ne, wp_icmp_ne, wp_if_lt, wp_icmp_lt, wp_if_ge, wp_icmp_ge, wp_if_gt, wp_icmp_gt, wp_if_le, wp_icmp_le, wp_ifnull, wp_ifnonnull, wp_acmp_eq, wp_acmp_ne, wp_tableswitch, wp_get0, wp_put0, wp_get1, wp_put1, wp_get2, wp_put2, wp_get3, wp_put3, wp_new, wp_newarray, wp_anewarray, wp_alen, wp_iaload, wp_laload, wp_baload, wp_aaload, wp_iastore, wp_lastore, wp_bastore, wp_aastore, wp_return, wp_ireturnI, wp_ireturnZ, wp_lreturn, wp_areturnO, wp_areturnA, wp_max, wp_min, wp_obj, wp_virt, wp_nil, ld_I0, ld_Is, ld_J0, ld_Js, ld_A0, ld_As, ha_0, ha_s, cx_put1, cx_put2, cx_dl, cx_tgt, true_and, and_true, Nat.reduceAdd, Nat.reduceSub, Int.reduceAdd, Int.reduceNeg, Int.reduceToNat, Int.reduceSub, Int.cast_ofNat_Int, List.take_succ_cons, List.take_zero, List.drop_succ_cons, List.drop_zero, List.take_nil, List.drop_nil, Option.toList_some, Option.toList_none, List.cons_append, List.nil_append, wp_spec, ne_eq, Nat.reduceEqDiff, not_false_eq_true, true_or, or_true]
      exact cw_room (Nat.zero_le _) (Nat.zero_le _) (come_ok hY (G2.up (Z' := Z + 4) (by omega)) (fx_fbk F2 i4) ⟨R2, k2, F2.s13⟩ (A.front i4) d0 q84 e84 h84 (fun t m3 G3 F3 => hK' t m3 T (G3.up (by omega)) F3))
end
