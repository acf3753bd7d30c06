/-! a letter is opened in a SESSION: TURNS, the chain -/
def m_bef (h : cx_Q) (x : Nat) (s t : Int) : Int := if t ≠ 0 ∧ cq_I h (x + 35) s ≠ 0 ∧ cq_I h (x + 41) s < cq_I h x 80 then cq_I h x 80 - cq_I h (x + 41) s else 0
def m_beh (h : cx_Q) (x : Nat) (s t : Int) : Int := if t ≠ 0 then cq_I h x 81 else cq_I h x 81 - cq_I h (x + 41) s
def m_com (h : cx_Q) (x : Nat) (s t : Int) : Int64 := if t ≠ 0 then f_common (cq_J h (x + 36) s) (cq_J h x 79) else Int64.ofInt 0
def m_ch0 (h : cx_Q) (x : Nat) (s t : Int) : Int64 := if t ≠ 0 then f_key 2 (cq_J h (x + 31) s) (m_com h x s t) else cq_J h (x + 34) s
def m_chn (n : Nat) (k : Int) (a : Int64) : Int64 := m_fold (fun a _ => f_key 4 a (Int64.ofInt 0)) n k a
theorem m_chn_s {n : Nat} {k : Int} {a : Int64} : m_chn (n + 1) k a = m_chn n (k + 1) (f_key 4 a (Int64.ofInt 0)) := by
  unfold m_chn
  rw [m_fold]
theorem m_chn_0 {k : Int} {a : Int64} : m_chn 0 k a = a := by
  unfold m_chn
  rw [m_fold]
def m_okey (h : cx_Q) (x : Nat) (s t : Int) : Int64 := f_key 3 (m_chn (m_beh h x s t).toNat 0 (m_ch0 h x s t)) (Int64.ofInt 0)
def m_oK0 (h : cx_Q) (x : Nat) (s : Int) : cx_Q := if cq_I h (x + 35) s ≠ 0 then m_keep x s (cq_I h x 80 - cq_I h (x + 41) s).toNat h else h
def m_oT (h : cx_Q) (x : Nat) (u s t : Int) : cx_Q := if t ≠ 0 then m_turn (m_oK0 h x s) x u s (m_com h x s t) else h
theorem open_u {Y : cx_Y} (hY : cY Y) {K : Option cx_V → cx_Q → Prop} {gm g : cx_Q} {x : Nat} {l u s N O D : Int} {k X : Int64} {o4 o5 o6 o7 o10 o11 o14 : Option cx_V} (hG : rS gm x) (hE : eT x gm g) (hT : TI x g N O) (hN : N ≤ 16840) (hO : O ≤ 1980) (hR : rdI x gm l) (hs : 0 ≤ s ∧ s < 144) (hu : 0 ≤ u ∧ u < 6) (hd : dI x gm D) (hD : D ≤ 900000)
    (hk : 0 ≤ cq_I gm (x + 53) s) (hp : cq_I gm (x + 53) s + cq_I gm x 81 ≤ 20)
    (hK : ∀ h', eT x (m_oEnd (m_turn gm x u s X) x s k) h' → TI x h' (N + 49) (O + 1) → K (some (.inl 0)) h') :
    cw Y mi_X11_open K 346 [some (.inr (.inr (some x))), some (.inl l), some (.inl u), some (.inl s), o4, o5, o6, o7, some (.inr (.inl X)), none, o10, o11, some (.inr (.inl k)), none, o14] [] g 0 0 := by
  have hR' := hR
  obtain ⟨r1, r2, r3, r4, r5, r6, r7, r8⟩ := hR'
  have hSg := hE.rS hG
  refine bx_X11_open_346 hY (pf1_ok hY) ?_
  simp only [wp_iconst, wp_bipush, wp_sipush, wp_ldc, wp_ldc2_w, wp_lconst0, wp_lconst1, wp_aconst_null, wp_iload_0, wp_istore_0, wp_iload_1, wp_istore_1, wp_iload_2, wp_istore_2, wp_iload_3, wp_istore_3, wp_iload, wp_istore, wp_lload_0, wp_lstore_0, wp_lload_1, wp_lstore_1, wp_lload_2, wp_lstore_2, wp_lload_3, wp_lstore_3, wp_lload, wp_lstore, wp_aload_0, wp_astore_0, wp_aload_1, wp_astore_1, wp_aload_2, wp_astore_2, wp_aload_3, wp_astore_3, wp_aload, wp_astore, wp_iinc, wp_iadd, wp_isub, wp_imul, wp_iand, wp_ior, wp_ixor, wp_ishl, wp_ishr, wp_iushr, wp_irem, wp_ladd, wp_lsub, wp_lmul, wp_land, wp_lor, wp_lxor, wp_lshl, wp_lshr, wp_lushr, wp_lrem, wp_lcmp, wp_i2l, wp_l2i, wp_dupI, wp_dupA, wp_dup2J, wp_dup2IA, wp_popI, wp_popA, wp_pop2, wp_goto, wp_if_eq, wp_icmp_eq, wp_if_ne, wp_icmp_ne, wp_if_lt, wp_icmp_lt, wp_if_ge, wp_icmp_ge, wp_if_gt, wp_icmp_gt, wp_if_le, wp_icmp_le, wp_ifnull, wp_ifnonnull, wp_acmp_eq, wp_acmp_ne, wp_tableswitch, wp_get0, wp_put0, wp_get1, wp_put1, wp_get2, wp_put2, wp_get3, wp_put3, wp_new, wp_newarray, wp_anewarray, wp_alen, wp_iaload, wp_laload, wp_baload, wp_aaload, wp_iastore, wp_lastore, wp_bastore, wp_aastore, wp_return, wp_ireturnI, wp_ireturnZ, wp_lreturn, wp_areturnO, wp_areturnA, wp_max, wp_min, wp_obj, wp_virt, wp_nil, ld_I0, ld_Is, ld_J0, ld_Js, ld_A0, ld_As, ha_0, ha_s, cx_put1, cx_put2, cx_dl, cx_tgt, true_and, and_true, Nat.reduceAdd, Nat.reduceSub, Int.reduceAdd, Int.reduceNeg, Int.reduceToNat, Int.reduceSub, Int.cast_ofNat_Int, List.take_succ_cons, List.take_zero, List.drop_succ_cons, List.drop_zero, List.take_nil, List.drop_nil, Option.toList_some, Option.toList_none, List.cons_append, List.nil_append, wp_spec, ne_eq, Nat.reduceEqDiff, not_false_eq_true, true_or, or_true]
  refine cl_X11_turn (Nat.le_of_ble_eq_true rfl) hSg.1 (Nat.le_refl _) (Nat.le_refl _) (c_X11_turn hY hSg hT (by omega) hO hs hu (hd.eT hE) hD ?_)
  intro g1 hE1 hT1
  have hM := (eT_turn (u := u) (s := s) (X := X) hE).trans hE1
  refine open_e hY (rS_turn hG) hM hT1 (by omega) ?_ hs ?_ ?_ ?_ ?_ ?_
  · unfold rdI
    simp only [m_turn_x]
    exact hR
  · rw [m_turn_41]; omega
  · rw [m_turn_53]; omega
  · rw [m_turn_53]; omega
  · rw [m_turn_53, m_turn_41, m_turn_x]; omega
  intro h' q1 q2
  have a1 : N + 7 + 42 = N + 49 := by omega
  rw [a1] at q2
  exact hK h' q1 q2
theorem open_t {Y : cx_Y} (hY : cY Y) {K : Option cx_V → cx_Q → Prop} {h : cx_Q} {x : Nat} {l u s t N O D : Int} {k : Int64} {o4 o6 o7 o10 o11 o14 : Option cx_V} (hS : rS h x) (hT : TI x h N O) (hN : N ≤ 16800) (hO : O ≤ 1980) (hR : rdI x h l) (hs : 0 ≤ s ∧ s < 144) (hu : 0 ≤ u ∧ u < 6) (hd : dI x h D) (hD : D ≤ 900000)
    (hr : 0 ≤ cq_I h (x + 41) s ∧ cq_I h (x + 41) s ≤ 70000) (hk : 0 ≤ cq_I h (x + 53) s ∧ cq_I h (x + 53) s ≤ 20) (ht : t = 0 ∨ t = 1) (hb1 : cq_I h (x + 53) s + m_bef h x s t + m_beh h x s t ≤ 20) (hb2 : 0 ≤ m_beh h x s t)
    (hK : ∀ h', eT x (m_oEnd (m_oT h x u s t) x s k) h' → TI x h' (N + 89) (O + 1) → K (some (.inl 0)) h') :
    cw Y mi_X11_open K 323 [some (.inr (.inr (some x))), some (.inl l), some (.inl u), some (.inl s), o4, some (.inl t), o6, o7, some (.inr (.inl (m_com h x s t))), none, o10, o11, some (.inr (.inl k)), none, o14] [] h 0 0 := by
  have hR' := hR
  obtain ⟨r1, r2, r3, r4, r5, r6, r7, r8⟩ := hR'
  unfold m_oT at hK
  unfold m_bef m_beh at hb1
  unfold m_beh at hb2
  refine bx_X11_open_323 hY (pf1_ok hY) ?_
  simp only [wp_iconst, wp_bipush, wp_sipush, wp_ldc, wp_ldc2_w, wp_lconst0, wp_lconst1, wp_aconst_null, wp_iload_0, wp_istore_0, wp_iload_1, wp_istore_1, wp_iload_2, wp_istore_2, wp_iload_3, wp_istore_3, wp_iload, wp_istore, wp_lload_0, wp_lstore_0, wp_lload_1, wp_lstore_1, wp_lload_2, wp_lstore_2, wp_lload_3, wp_lstore_3, wp_lload, wp_lstore, wp_aload_0, wp_astore_0, wp_aload_1, wp_astore_1, wp_aload_2, wp_astore_2, wp_aload_3, wp_astore_3, wp_aload, wp_astore, wp_iinc, wp_iadd, wp_isub, wp_imul, wp_iand, wp_ior, wp_ixor, wp_ishl, wp_ishr, wp_iushr, wp_irem, wp_ladd, wp_lsub, wp_lmul, wp_land, wp_lor, wp_lxor, wp_lshl, wp_lshr, wp_lushr, wp_lrem, wp_lcmp, wp_i2l, wp_l2i, wp_dupI, wp_dupA, wp_dup2J, wp_dup2IA, wp_popI, wp_popA, wp_pop2, wp_goto, wp_if_eq, wp_icmp_eq, wp_if_ne, wp_icmp_ne, wp_if_lt, wp_icmp_lt, wp_if_ge, wp_icmp_ge, wp_if_gt, wp_icmp_gt, wp_if_le, wp_icmp_le, wp_ifnull, wp_ifnonnull, wp_acmp_eq, wp_acmp_ne, wp_tableswitch, wp_get0, wp_put0, wp_get1, wp_put1, wp_get2, wp_put2, wp_get3, wp_put3, wp_new, wp_newarray, wp_anewarray, wp_alen, wp_iaload, wp_laload, wp_baload, wp_aaload, wp_iastore, wp_lastore, wp_bastore, wp_aastore, wp_return, wp_ireturnI, wp_ireturnZ, wp_lreturn, wp_areturnO, wp_areturnA, wp_max, wp_min, wp_obj, wp_virt, wp_nil, ld_I0, ld_Is, ld_J0, ld_Js, ld_A0, ld_As, ha_0, ha_s, cx_put1, cx_put2, cx_dl, cx_tgt, true_and, and_true, Nat.reduceAdd, Nat.reduceSub, Int.reduceAdd, Int.reduceNeg, Int.reduceToNat, Int.reduceSub, Int.cast_ofNat_Int, List.take_succ_cons, List.take_zero, List.drop_succ_cons, List.drop_zero, List.take_nil, List.drop_nil, Option.toList_some, Option.toList_none, List.cons_append, List.nil_append, wp_spec, ne_eq, Nat.reduceEqDiff, not_false_eq_true, true_or, or_true, rA_hasRecv hS, rs_hasRecv hS, rz_hasRecv hS, ra_140, (hS).1]
  refine ⟨fun q => ?_, fun q => ?_⟩
  · simp only [if_neg (fun z : t ≠ 0 => z q)] at hK hb1 hb2
    rw [if_neg (fun z => z.1 q)] at hb1
    refine open_e hY hS (eT.refl _ _) hT (by omega) hR hs hr hk.1 hk.2 (by omega) ?_
    intro h' q1 q2
    exact hK h' q1 (q2.le (by omega) (by omega))
  have q' : t ≠ 0 := q
  simp only [if_pos q'] at hK hb1 hb2
  unfold m_oK0 at hK
  refine ⟨by omega, fun w => ?_, fun w => ?_⟩
  · rw [if_neg (fun z => z w)] at hK
    rw [if_neg (fun z => z.2.1 w)] at hb1
    refine open_u hY hS (eT.refl _ _) hT (by omega) hO hR hs hu hd hD hk.1 (by omega) ?_
    intro h' q1 q2
    exact hK h' q1 (q2.le (by omega) (by omega))
  have w' : cq_I h (x + 35) s ≠ 0 := w
  rw [if_pos w'] at hK
  have hbb : cq_I h (x + 53) s + (cq_I h x 80 - cq_I h (x + 41) s).toNat + cq_I h x 81 ≤ 20 := by
    by_cases z : cq_I h (x + 41) s < cq_I h x 80
    · rw [if_pos ⟨q', w', z⟩] at hb1
      omega
    · rw [if_neg (fun y => z y.2.2)] at hb1
      omega
  refine cl_X11_keepUpTo (Nat.le_of_ble_eq_true rfl) hS.1 (Nat.le_refl _) (Nat.le_refl _) (c_X11_keepUpTo hY hS hT (by omega) hs hr hk.1 hk.2 (by omega) ?_)
  intro g1 hE1 hT1
  refine open_u hY (rS_keep hS) hE1 hT1 (by omega) hO ?_ hs hu (dI_keep hd) hD ?_ ?_ ?_
  · unfold rdI
    simp only [m_keep_x]
    exact hR
  · rw [m_keep_53]; omega
  · rw [m_keep_53, m_keep_x]; omega
  intro h' q1 q2
  exact hK h' q1 (q2.le (by omega) (by omega))
