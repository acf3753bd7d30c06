/-! a first letter comes: a new SESSION -/
/-- the first letter is noted -/
def m_cfN (g : cx_Q) (x : Nat) (u s ln : Int) (e : Int64) : cx_Q := cq_sI (cq_sI (cq_sJ (cq_sI (cq_sI g (x + 43) s 0) (x + 59) (100 * u + cq_I g (x + 58) u) ln) (x + 60) (100 * u + cq_I g (x + 58) u) e) (x + 58) u (cq_I g (x + 58) u + 1)) x 85 (cq_I g x 85 + 1)
def m_cfD (g : cx_Q) (x : Nat) (u s ln on : Int) (e : Int64) : cx_Q := if on = 0 then m_cfN g x u s ln e else cq_sI (m_cfN g x u s ln e) (x + 28) (61 * u + on) 0
theorem eT_cfD {x : Nat} {g g' : cx_Q} {u s ln on : Int} {e : Int64} (a : eT x g g') : eT x (m_cfD g x u s ln on e) (m_cfD g' x u s ln on e) := by
  have b : eT x (m_cfN g x u s ln e) (m_cfN g' x u s ln e) := by
    unfold m_cfN
    rw [a.fI (o := 58) (by decide) (by decide), a.xI (j := 85) (by decide) (by decide) (by decide)]
    exact eT.sI (eT.sI (eT.sJ (eT.sI (eT.sI a))))
  unfold m_cfD
  split
  · exact b
  · exact eT.sI b
theorem TI_cfD {F : Nat → Int → Int} {G : cx_Q → Prop} {x : Nat} {g : cx_Q} {u s ln on N O : Int} {e : Int64} (a : TI F G x g N O) : TI F G x (m_cfD g x u s ln on e) N O := by
  have b : TI F G x (m_cfN g x u s ln e) N O := by
    unfold m_cfN
    repeat' (first | with_reducible assumption | with_reducible refine TI.sJ ?_ | (with_reducible refine TI.sF ?_ ?_ ?_ ?_; rotate_left; decide; decide; decide) | (with_reducible refine TI.sT ?_ ?_ ?_; rotate_left; decide; first | exact fun q => absurd q (by decide) | exact fun _ => ⟨by omega, by omega⟩))
  unfold m_cfD
  split
  · exact b
  · repeat' (first | with_reducible assumption | with_reducible refine TI.sJ ?_ | (with_reducible refine TI.sF ?_ ?_ ?_ ?_; rotate_left; decide; decide; decide) | (with_reducible refine TI.sT ?_ ?_ ?_; rotate_left; decide; first | exact fun q => absurd q (by decide) | exact fun _ => ⟨by omega, by omega⟩))
theorem cfD_x2 {x : Nat} {g : cx_Q} {u s ln on j : Int} {e : Int64} (q : j ≠ 85) : cq_I (m_cfD g x u s ln on e) x j = cq_I g x j := by
  have b : cq_I (m_cfN g x u s ln e) x j = cq_I g x j := by
    unfold m_cfN
    rw [mm_sI, if_neg (fun z => q z.2), mm_sI, if_neg (fun z => by omega), mm_IJ, mm_sI, if_neg (fun z => by omega), mm_sI, if_neg (fun z => by omega)]
  unfold m_cfD
  split
  · exact b
  · rw [mm_sI, if_neg (fun z => by omega)]
    exact b
theorem cf_d {Y : cx_Y} (hY : cY Y) {K : Option cx_V → cx_Q → Prop} {g : cx_Q} {x : Nat} {l u s ln on td a : Int} {e : Int64} {o3 o4 o5 o12 o13 o14 o15 o16 o17 o18 o20 o21 o22 o23 o24 : Option cx_V} (hS : rS g x) (hu : 0 ≤ u ∧ u < 6) (hs : 0 ≤ s ∧ s < 144) (hon : 0 ≤ on ∧ on ≤ 60) (hh : 0 ≤ cq_I g (x + 58) u ∧ cq_I g (x + 58) u ≤ 99) (h85 : 0 ≤ cq_I g x 85 ∧ cq_I g x 85 ≤ 100)
    (hK : K (some (.inl a)) (m_cfD g x u s ln on e)) :
    cw Y mi_X11_comeFirst K 656 [some (.inr (.inr (some x))), some (.inl l), some (.inl u), o3, o4, o5, none, some (.inr (.inl e)), none, some (.inl ln), some (.inl on), some (.inl (61 * u + on)), o12, o13, o14, o15, o16, o17, o18, some (.inl s), o20, o21, o22, o23, o24, some (.inl td), none] [.inl a] g 0 0 := by
  have j735 : ∀ g2, K (some (.inl a)) g2 → cw Y mi_X11_comeFirst K 735 [some (.inr (.inr (some x))), some (.inl l), some (.inl u), o3, o4, o5, none, some (.inr (.inl e)), none, some (.inl ln), some (.inl on), some (.inl (61 * u + on)), o12, o13, o14, o15, o16, o17, o18, some (.inl s), o20, o21, o22, o23, o24, some (.inl td), some (.inl a)] [] g2 0 0 := by
    intro g2 q
    refine bx_X11_comeFirst_735 hY (pf1_ok hY) ?_
    simp only [wp_iconst, wp_bipush, wp_sipush, wp_ldc, wp_ldc2_w, wp_lconst0, wp_lconst1, wp_aconst_null, wp_iload_0, wp_istore_0, wp_iload_1, wp_istore_1, wp_iload_2, wp_istore_2, wp_iload_3, wp_istore_3, wp_iload, wp_istore, wp_lload_0, wp_lstore_0, wp_lload_1, wp_lstore_1, wp_lload_2, wp_lstore_2, wp_lload_3, wp_lstore_3, wp_lload, wp_lstore, wp_aload_0, wp_astore_0, wp_aload_1, wp_astore_1, wp_aload_2, wp_astore_2, wp_aload_3, wp_astore_3, wp_aload, wp_astore, wp_iinc, wp_iadd, wp_isub, wp_imul, wp_iand, wp_ior, wp_ixor, wp_ishl, wp_ishr, wp_iushr, wp_irem, wp_ladd, wp_lsub, wp_lmul, wp_land, wp_lor, wp_lxor, wp_lshl, wp_lshr, wp_lushr, wp_lrem, wp_lcmp, wp_i2l, wp_l2i, wp_dupI, wp_dupA, wp_dup2J, wp_dup2IA, wp_popI, wp_popA, wp_pop2, wp_goto, wp_if_eq, wp_icmp_eq, wp_if_ne, wp_icmp_ne, wp_if_lt, wp_icmp_lt, wp_if_ge, wp_icmp_ge, wp_if_gt, wp_icmp_gt, wp_if_le, wp_icmp_le, wp_ifnull, wp_ifnonnull, wp_acmp_eq, wp_acmp_ne, wp_tableswitch, wp_get0, wp_put0, wp_get1, wp_put1, wp_get2, wp_put2, wp_get3, wp_put3, wp_new, wp_newarray, wp_anewarray, wp_alen, wp_iaload, wp_laload, wp_baload, wp_aaload, wp_iastore, wp_lastore, wp_bastore, wp_aastore, wp_return, wp_ireturnI, wp_ireturnZ, wp_lreturn, wp_areturnO, wp_areturnA, wp_max, wp_min, wp_obj, wp_virt, wp_nil, ld_I0, ld_Is, ld_J0, ld_Js, ld_A0, ld_As, ha_0, ha_s, cx_put1, cx_put2, cx_dl, cx_tgt, true_and, and_true, Nat.reduceAdd, Nat.reduceSub, Int.reduceAdd, Int.reduceNeg, Int.reduceToNat, Int.reduceSub, Int.cast_ofNat_Int, List.take_succ_cons, List.take_zero, List.drop_succ_cons, List.drop_zero, List.take_nil, List.drop_nil, Option.toList_some, Option.toList_none, List.cons_append, List.nil_append, wp_spec, ne_eq, Nat.reduceEqDiff, not_false_eq_true, true_or, or_true]
    exact q
  unfold m_cfD at hK
  refine bx_X11_comeFirst_656 hY (pf1_ok hY) ?_
  simp only [wp_iconst, wp_bipush, wp_sipush, wp_ldc, wp_ldc2_w, wp_lconst0, wp_lconst1, wp_aconst_null, wp_iload_0, wp_istore_0, wp_iload_1, wp_istore_1, wp_iload_2, wp_istore_2, wp_iload_3, wp_istore_3, wp_iload, wp_istore, wp_lload_0, wp_lstore_0, wp_lload_1, wp_lstore_1, wp_lload_2, wp_lstore_2, wp_lload_3, wp_lstore_3, wp_lload, wp_lstore, wp_aload_0, wp_astore_0, wp_aload_1, wp_astore_1, wp_aload_2, wp_astore_2, wp_aload_3, wp_astore_3, wp_aload, wp_astore, wp_iinc, wp_iadd, wp_isub, wp_imul, wp_iand, wp_ior, wp_ixor, wp_ishl, wp_ishr, wp_iushr, wp_irem, wp_ladd, wp_lsub, wp_lmul, wp_land, wp_lor, wp_lxor, wp_lshl, wp_lshr, wp_lushr, wp_lrem, wp_lcmp, wp_i2l, wp_l2i, wp_dupI, wp_dupA, wp_dup2J, wp_dup2IA, wp_popI, wp_popA, wp_pop2, wp_goto, wp_if_eq, wp_icmp_eq, wp_if_ne, wp_icmp_ne, wp_if_lt, wp_icmp_lt, wp_if_ge, wp_icmp_ge, wp_if_gt, wp_icmp_gt, wp_if_le, wp_icmp_le, wp_ifnull, wp_ifnonnull, wp_acmp_eq, wp_acmp_ne, wp_tableswitch, wp_get0, wp_put0, wp_get1, wp_put1, wp_get2, wp_put2, wp_get3, wp_put3, wp_new, wp_newarray, wp_anewarray, wp_alen, wp_iaload, wp_laload, wp_baload, wp_aaload, wp_iastore, wp_lastore, wp_bastore, wp_aastore, wp_return, wp_ireturnI, wp_ireturnZ, wp_lreturn, wp_areturnO, wp_areturnA, wp_max, wp_min, wp_obj, wp_virt, wp_nil, ld_I0, ld_Is, ld_J0, ld_Js, ld_A0, ld_As, ha_0, ha_s, cx_put1, cx_put2, cx_dl, cx_tgt, true_and, and_true, Nat.reduceAdd, Nat.reduceSub, Int.reduceAdd, Int.reduceNeg, Int.reduceToNat, Int.reduceSub, Int.cast_ofNat_Int, List.take_succ_cons, List.take_zero, List.drop_succ_cons, List.drop_zero, List.take_nil, List.drop_nil, Option.toList_some, Option.toList_none, List.cons_append, List.nil_append, wp_spec, ne_eq, Nat.reduceEqDiff, not_false_eq_true, true_or, or_true, rA_goesWith hS, rs_goesWith hS, rz_goesWith hS, ra_148, rA_heardLent hS, rs_heardLent hS, rz_heardLent hS, ra_164, rA_heard hS, rs_heard hS, rz_heard hS, ra_163, rA_heardE hS, rs_heardE hS, rz_heardE hS, ra_165, rA_onceKept hS, rs_onceKept hS, rz_onceKept hS, ra_133, (hS).1, mm_sI, mm_sJ, mm_sA, mm_IJ, mm_IA, mm_JI, mm_JA, mm_AI, mm_AJ, mm_ssI, mm_ssJ, mm_ssA, mm_zI, mm_zJ, mm_zA, mm_nI, mm_nJ, mm_nA, Nat.left_eq_add, Nat.add_eq_left, Nat.add_left_cancel_iff, Nat.reduceEqDiff, Int.reduceEq, false_and, and_false, if_false, if_true, and_self, true_and, true_or, or_true, false_or, or_false, cx_rg]
  (repeat' (with_reducible (first | refine And.intro ?_ ?_ | intro _)))
  all_goals (try omega)
  · rename_i q
    rw [if_pos q] at hK
    exact j735 _ hK
  · rename_i q
    rw [if_neg q] at hK
    exact j735 _ hK
theorem rdI.eT {x : Nat} {h h' : cx_Q} {l : Int} (a : rdI x h l) (e : eT x h h') : rdI x h' l := by
  unfold rdI at a ⊢
  rw [e.xI (j := 77) (by decide) (by decide) (by decide), e.xI (j := 78) (by decide) (by decide) (by decide), e.xI (j := 80) (by decide) (by decide) (by decide), e.xI (j := 81) (by decide) (by decide) (by decide), e.xI (j := 82) (by decide) (by decide) (by decide), e.xI (j := 83) (by decide) (by decide) (by decide)]
  exact a
theorem ow_eT {x : Nat} {q gm g : cx_Q} {m : Int} {F F' : Nat → Int → Int} {u s T : Int} (a : eT x gm g) (z : owE x q g m F F' u s T) : owE x q gm m F F' u s T := by
  have w : dW x g u = dW x gm u := dW_eq (h := gm) (h' := g) (by rw [a.fJ (o := 1) (by decide) (by decide)]) (by rw [a.fI (o := 12) (by decide) (by decide)])
  unfold owE at z ⊢
  rw [eT_keptAt a, eT_tn a, a.fI (o := 53) (by decide) (by decide), a.fI (o := 35) (by decide) (by decide), a.fI (o := 41) (by decide) (by decide), a.xI (j := 80) (by decide) (by decide) (by decide), a.xI (j := 81) (by decide) (by decide) (by decide), a.xJ (j := 79) (by decide) (by decide) (by decide), w] at z
  exact z
theorem on_eT {x : Nat} {gm g : cx_Q} {m m' n0 s T : Int} (a : eT x gm g) (z : owN x g m m' n0 s T) : owN x gm m m' n0 s T := by
  unfold owN at z ⊢
  rw [eT_keptAt a, eT_tn a] at z
  exact z
theorem open_eT {F : Nat → Int → Int} {G : cx_Q → Prop} {Y : cx_Y} (hY : cY Y) {K : Option cx_V → cx_Q → Prop} {gm g : cx_Q} {x : Nat} {l u s N O D : Int} (hG : rS gm x) (hE : eT x gm g) (hT : TI F G x g N O) (hN : N ≤ 16800) (hO : O ≤ 1980) (hR : rdI x gm l) (hs : 0 ≤ s ∧ s < 144) (hu : 0 ≤ u ∧ u < 6) (hd : dI x gm D) (hD : D ≤ 900000)
    (hr : 0 ≤ cq_I gm (x + 41) s ∧ cq_I gm (x + 41) s ≤ 70000) (hk : 0 ≤ cq_I gm (x + 53) s ∧ cq_I gm (x + 53) s ≤ 20)
    (hA : ∀ a, m_openA gm x l s = a → a ≠ 0 → K (some (.inl a)) g)
    (hK : m_openA gm x l s = 0 → ∀ (h' : cx_Q) (F' : Nat → Int → Int) (T : Int), eT x (m_openQ gm x u s) h' → TI F' (fun q => G q ∧ owE x q gm (cq_I g x 10) F F' u s T) x h' (N + 89) (O + 1) → owN x gm (cq_I g x 10) (cq_I h' x 10) (cq_I g x 2) s T → K (some (.inl 0)) h') :
    cw Y mi_X11_open K 0 [some (.inr (.inr (some x))), some (.inl l), some (.inl u), some (.inl s), none, none, none, none, none, none, none, none, none, none, none] [] g 0 0 := by
  refine c_X11_open hY (hE.rS hG) hT hN hO (hR.eT hE) hs hu (hd.eT hE) hD ?_ ?_ ?_ ?_
  · rw [hE.fI (o := 41) (by decide) (by decide)]; exact hr
  · rw [hE.fI (o := 53) (by decide) (by decide)]; exact hk
  · intro a ea na
    rw [eT_openA hE] at ea
    exact hA a ea na
  · intro ea h' F' T q1 q2 q3
    rw [eT_openA hE] at ea
    exact hK ea h' F' T ((eT_openQ hE).trans q1) (q2.w (fun z => ⟨z.1, ow_eT hE z.2⟩) (sta_and hT.st sta_ow)) (on_eT hE q3)
def m_cfS (g : cx_Q) (x : Nat) (s ln on own : Int) (e : Int64) : cx_Q := cq_sI (cq_sI (cq_sJ (cq_sI (cq_sJ (cq_sJ g (x + 36) s (cq_J g (x + 17) own)) (x + 37) s (cq_J g (x + 18) own)) (x + 44) s 0) (x + 45) s e) (x + 46) s ln) (x + 47) s on
theorem rS_cfS {g : cx_Q} {x : Nat} {s ln on own : Int} {e : Int64} (H : rS g x) : rS (m_cfS g x s ln on own e) x := by
  unfold m_cfS
  exact rS.sI (rS.sI (rS.sJ (rS.sI (rS.sJ (rS.sJ H)))))
theorem dI_cfS {g : cx_Q} {x : Nat} {s ln on own D : Int} {e : Int64} (H : dI x g D) : dI x (m_cfS g x s ln on own e) D := by
  unfold m_cfS
  exact dI.sI (dI.sI (dI.sJ (dI.sI (dI.sJ (dI.sJ H)) (by decide))) (by decide)) (by decide)
theorem cfS_x {g : cx_Q} {x : Nat} {s ln on own j : Int} {e : Int64} : cq_I (m_cfS g x s ln on own e) x j = cq_I g x j := by
  unfold m_cfS
  simp only [mm_sI, mm_sJ, mm_sA, mm_IJ, mm_IA, mm_JI, mm_JA, mm_AI, mm_AJ, mm_ssI, mm_ssJ, mm_ssA, mm_zI, mm_zJ, mm_zA, mm_nI, mm_nJ, mm_nA, Nat.left_eq_add, Nat.add_eq_left, Nat.add_left_cancel_iff, Nat.reduceEqDiff, Int.reduceEq, false_and, and_false, if_false, if_true, and_self, true_and, true_or, or_true, false_or, or_false]
theorem cfS_I {g : cx_Q} {x o : Nat} {s ln on own j : Int} {e : Int64} (h1 : o ≠ 44) (h2 : o ≠ 46) (h3 : o ≠ 47) : cq_I (m_cfS g x s ln on own e) (x + o) j = cq_I g (x + o) j := by
  unfold m_cfS
  simp only [mm_sI, mm_sJ, mm_sA, mm_IJ, mm_IA, mm_JI, mm_JA, mm_AI, mm_AJ, mm_ssI, mm_ssJ, mm_ssA, mm_zI, mm_zJ, mm_zA, mm_nI, mm_nJ, mm_nA]
  rw [if_neg (fun e => by omega), if_neg (fun e => by omega), if_neg (fun e => by omega)]
theorem cf_c {F : Nat → Int → Int} {G : cx_Q → Prop} {Y : cx_Y} (hY : cY Y) {K : Option cx_V → cx_Q → Prop} {gm g : cx_Q} {x : Nat} {l u s ln on own t td N O D : Int} {e : Int64} {o3 o4 o5 o13 o15 o17 o20 o21 o22 o23 o24 : Option cx_V} (hG : rS gm x) (hE : eT x gm g) (hT : TI F G x g N O) (hN : N ≤ 16800) (hO : O ≤ 1980) (hR : rdI x gm l) (hs : 0 ≤ s ∧ s < 144) (hu : 0 ≤ u ∧ u < 6) (hd : dI x gm D) (hD : D ≤ 900000) (hown : 0 ≤ own ∧ own < 126)
    (h41 : cq_I gm (x + 41) s = 0) (h53 : cq_I gm (x + 53) s = 0) (hon : 0 ≤ on ∧ on ≤ 60) (hh : 0 ≤ cq_I gm (x + 58) u ∧ cq_I gm (x + 58) u ≤ 99) (h85 : 0 ≤ cq_I gm x 85 ∧ cq_I gm x 85 ≤ 100) (ht : 0 ≤ t ∧ t ≤ 16999) (hl : t < cq_I g x 2)
    (hO0 : m_openA (m_cfS gm x s ln on own e) x l s = 0)
    (hK : ∀ (h' : cx_Q) (F' : Nat → Int → Int) (T : Int), eT x (m_cfD (m_openQ (m_cfS gm x s ln on own e) x u s) x u s ln on e) h' → TI F' (fun q => G q ∧ owE x q (m_cfS gm x s ln on own e) (cq_I g x 10) (upF (upF (upF F 48 s t) 49 s t) 52 s (F 19 own)) F' u s T) x h' (N + 89) (O + 1) → owN x (m_cfS gm x s ln on own e) (cq_I g x 10) (cq_I h' x 10) (cq_I g x 2) s T → K (some (.inl 0)) h') :
    cw Y mi_X11_comeFirst K 556 [some (.inr (.inr (some x))), some (.inl l), some (.inl u), o3, o4, o5, none, some (.inr (.inl e)), none, some (.inl ln), some (.inl on), some (.inl (61 * u + on)), some (.inl own), o13, none, o15, none, o17, none, some (.inl s), o20, o21, o22, o23, o24, some (.inl td), none] [.inl t, .inl s, .inr (.inr (some (x + 48)))] g 0 0 := by
  have hS1 := hE.rS hG
  have tl := hT.tv 19 (by decide) own
  have tl2 := hT.lt 19 (by decide) own
  have r19 := hT.re 19 (by decide) own
  have hTc := TI.sT (o := 47) (j := s) (v := on) (TI.sT (o := 46) (j := s) (v := ln) (TI.sJ (i := x + 45) (k := s) (v := e) (TI.sT (o := 44) (j := s) (v := 0) (TI.sR (o := 52) (j := s) (v := cq_I g (x + 19) own) (TI.sJ (i := x + 37) (k := s) (v := cq_J gm (x + 18) own) (TI.sJ (i := x + 36) (k := s) (v := cq_J gm (x + 17) own) (TI.sR (o := 49) (j := s) (v := t) (TI.sR (o := 48) (j := s) (v := t) hT (by decide) ht hl) (by decide) ht (by rw [mm_sI, if_neg (fun e => by omega)]; exact hl)))) (by decide) tl (by rw [mm_IJ, mm_IJ, mm_sI, if_neg (fun e => by omega), mm_sI, if_neg (fun e => by omega)]; exact tl2)) (by decide) (fun q => absurd q (by decide)))) (by decide) (fun q => absurd q (by decide))) (by decide) (fun q => absurd q (by decide))
  have hTd := hTc.eF (F' := (upF (upF (upF F 48 s t) 49 s t) 52 s (F 19 own))) (fun o _ j => by rw [r19])
  have c10 : cq_I (cq_sI (cq_sI (cq_sJ (cq_sI (cq_sI (cq_sJ (cq_sJ (cq_sI (cq_sI g (x + 48) s t) (x + 49) s t) (x + 36) s (cq_J gm (x + 17) own)) (x + 37) s (cq_J gm (x + 18) own)) (x + 52) s (cq_I g (x + 19) own)) (x + 44) s 0) (x + 45) s e) (x + 46) s ln) (x + 47) s on) x 10 = cq_I g x 10 := by
    simp only [mm_sI, mm_sJ, mm_sA, mm_IJ, mm_IA, mm_JI, mm_JA, mm_AI, mm_AJ, mm_ssI, mm_ssJ, mm_ssA, mm_zI, mm_zJ, mm_zA, mm_nI, mm_nJ, mm_nA, Nat.left_eq_add, Nat.add_eq_left, Nat.add_left_cancel_iff, Nat.reduceEqDiff, Int.reduceEq, false_and, and_false, if_false, if_true, and_self, true_and, true_or, or_true, false_or, or_false]
  have c2 : cq_I (cq_sI (cq_sI (cq_sJ (cq_sI (cq_sI (cq_sJ (cq_sJ (cq_sI (cq_sI g (x + 48) s t) (x + 49) s t) (x + 36) s (cq_J gm (x + 17) own)) (x + 37) s (cq_J gm (x + 18) own)) (x + 52) s (cq_I g (x + 19) own)) (x + 44) s 0) (x + 45) s e) (x + 46) s ln) (x + 47) s on) x 2 = cq_I g x 2 := by
    simp only [mm_sI, mm_sJ, mm_sA, mm_IJ, mm_IA, mm_JI, mm_JA, mm_AI, mm_AJ, mm_ssI, mm_ssJ, mm_ssA, mm_zI, mm_zJ, mm_zA, mm_nI, mm_nJ, mm_nA, Nat.left_eq_add, Nat.add_eq_left, Nat.add_left_cancel_iff, Nat.reduceEqDiff, Int.reduceEq, false_and, and_false, if_false, if_true, and_self, true_and, true_or, or_true, false_or, or_false]
  refine bx_X11_comeFirst_556 hY (pf1_ok hY) ?_
  simp only [wp_iconst, wp_bipush, wp_sipush, wp_ldc, wp_ldc2_w, wp_lconst0, wp_lconst1, wp_aconst_null, wp_iload_0, wp_istore_0, wp_iload_1, wp_istore_1, wp_iload_2, wp_istore_2, wp_iload_3, wp_istore_3, wp_iload, wp_istore, wp_lload_0, wp_lstore_0, wp_lload_1, wp_lstore_1, wp_lload_2, wp_lstore_2, wp_lload_3, wp_lstore_3, wp_lload, wp_lstore, wp_aload_0, wp_astore_0, wp_aload_1, wp_astore_1, wp_aload_2, wp_astore_2, wp_aload_3, wp_astore_3, wp_aload, wp_astore, wp_iinc, wp_iadd, wp_isub, wp_imul, wp_iand, wp_ior, wp_ixor, wp_ishl, wp_ishr, wp_iushr, wp_irem, wp_ladd, wp_lsub, wp_lmul, wp_land, wp_lor, wp_lxor, wp_lshl, wp_lshr, wp_lushr, wp_lrem, wp_lcmp, wp_i2l, wp_l2i, wp_dupI, wp_dupA, wp_dup2J, wp_dup2IA, wp_popI, wp_popA, wp_pop2, wp_goto, wp_if_eq, wp_icmp_eq, wp_if_ne, wp_icmp_ne, wp_if_lt, wp_icmp_lt, wp_if_ge, wp_icmp_ge, wp_if_gt, wp_icmp_gt, wp_if_le, wp_icmp_le, wp_ifnull, wp_ifnonnull, wp_acmp_eq, wp_acmp_ne, wp_tableswitch, wp_get0, wp_put0, wp_get1, wp_put1, wp_get2, wp_put2, wp_get3, wp_put3, wp_new, wp_newarray, wp_anewarray, wp_alen, wp_iaload, wp_laload, wp_baload, wp_aaload, wp_iastore, wp_lastore, wp_bastore, wp_aastore, wp_return, wp_ireturnI, wp_ireturnZ, wp_lreturn, wp_areturnO, wp_areturnA, wp_max, wp_min, wp_obj, wp_virt, wp_nil, ld_I0, ld_Is, ld_J0, ld_Js, ld_A0, ld_As, ha_0, ha_s, cx_put1, cx_put2, cx_dl, cx_tgt, true_and, and_true, Nat.reduceAdd, Nat.reduceSub, Int.reduceAdd, Int.reduceNeg, Int.reduceToNat, Int.reduceSub, Int.cast_ofNat_Int, List.take_succ_cons, List.take_zero, List.drop_succ_cons, List.drop_zero, List.take_nil, List.drop_nil, Option.toList_some, Option.toList_none, List.cons_append, List.nil_append, wp_spec, ne_eq, Nat.reduceEqDiff, not_false_eq_true, true_or, or_true, rA_tRoot hS1, rs_tRoot hS1, rz_tRoot hS1, ra_153, rA_tFirst hS1, rs_tFirst hS1, rz_tFirst hS1, ra_154, rA_sOwn hS1, rs_sOwn hS1, rz_sOwn hS1, ra_141, rA_lent hS1, rs_lent hS1, rz_lent hS1, ra_122, rA_sOwnOpen hS1, rs_sOwnOpen hS1, rz_sOwnOpen hS1, ra_142, rA_lentOpen hS1, rs_lentOpen hS1, rz_lentOpen hS1, ra_123, rA_tOwn hS1, rs_tOwn hS1, rz_tOwn hS1, ra_157, rA_lentTerm hS1, rs_lentTerm hS1, rz_lentTerm hS1, ra_124, rA_isBegun hS1, rs_isBegun hS1, rz_isBegun hS1, ra_149, rA_sE hS1, rs_sE hS1, rz_sE hS1, ra_150, rA_sLent hS1, rs_sLent hS1, rz_sLent hS1, ra_151, rA_sOnce hS1, rs_sOnce hS1, rz_sOnce hS1, ra_152, (hS1).1, eT.fJ hE (o := 17) (by decide) (by decide), eT.fJ hE (o := 18) (by decide) (by decide), mm_sI, mm_sJ, mm_sA, mm_IJ, mm_IA, mm_JI, mm_JA, mm_AI, mm_AJ, mm_ssI, mm_ssJ, mm_ssA, mm_zI, mm_zJ, mm_zA, mm_nI, mm_nJ, mm_nA, Nat.left_eq_add, Nat.add_eq_left, Nat.add_left_cancel_iff, Nat.reduceEqDiff, Int.reduceEq, false_and, and_false, if_false, if_true, and_self, true_and, true_or, or_true, false_or, or_false, cx_rg]
  (repeat' (with_reducible (first | refine And.intro ?_ ?_ | intro _)))
  all_goals (try omega)
  refine cl_X11_open (Nat.le_of_ble_eq_true rfl) hS1.1 (Nat.le_refl _) (Nat.le_refl _) (open_eT (F := (upF (upF (upF F 48 s t) 49 s t) 52 s (F 19 own))) (G := G) (gm := m_cfS gm x s ln on own e) (N := N) (O := O) (D := D) hY (rS_cfS hG) ?_ ?_ hN hO ?_ hs hu (dI_cfS hd) hD ?_ ?_ ?_ ?_)
  · unfold m_cfS
    repeat' (first | with_reducible exact eT.refl _ _ | with_reducible assumption | (with_reducible refine eT.tI ?_ ?_; rotate_left; first | exact isT_a (by decide) | exact isT_f (by decide)) | (with_reducible refine eT.tJ ?_ ?_; rotate_left; first | exact isT_a (by decide) | exact isT_f (by decide)) | with_reducible refine eT.sI ?_ | with_reducible refine eT.sJ ?_)
  · exact hTd
  · unfold rdI
    simp only [cfS_x]
    exact hR
  · rw [cfS_I (by decide) (by decide) (by decide)]; omega
  · rw [cfS_I (by decide) (by decide) (by decide)]; omega
  · intro a ea na
    exact absurd (ea.symm.trans hO0) na
  · intro _ g2 F' T hE2 hT2 oN
    rw [c10] at hT2 oN
    rw [c2] at oN
    have hM : rS (m_openQ (m_cfS gm x s ln on own e) x u s) x := rS_openQ (rS_cfS hG)
    have e58 : cq_I g2 (x + 58) u = cq_I gm (x + 58) u := by rw [hE2.fI (o := 58) (by decide) (by decide), openQ_I (by decide) (by decide), cfS_I (by decide) (by decide) (by decide)]
    have e85 : cq_I g2 x 85 = cq_I gm x 85 := by rw [hE2.xI (j := 85) (by decide) (by decide) (by decide), openQ_x (by decide), cfS_x]
    refine cf_d hY (hE2.rS hM) hu hs hon (by omega) (by omega) ?_
    exact hK _ F' T (eT_cfD hE2) (TI_cfD hT2) (by rw [cfD_x2 (by decide)]; exact oN)
/-- a first letter's ROOT: lt, iu, ot the terms of the LENT key, the IDENTITY, the ONCE key (number k) -/
def fnT (x : Nat) (g : cx_Q) (m lt iu ot : Int) (who e : Int64) (k tF : Int) : Prop := ∃ wi ei ta tb tc td, (m ≤ cq_I g x 10 ∧ sO x g m who wi) ∧ (m ≤ cq_I g x 10 ∧ sO x g m e ei) ∧ cmT x g ta lt wi ∧ cmT x g tb iu ei ∧ cmT x g tc lt ei ∧ ((k = 0 ∧ td = 0) ∨ (k ≠ 0 ∧ cmT x g td ot ei)) ∧ tmT x g tF 3 ta tb tc td
theorem sta_fn {x : Nat} {m lt iu ot : Int} {who e : Int64} {k tF : Int} : sta x (fun g => fnT x g m lt iu ot who e k tF) := fun h h' b z => by
  obtain ⟨wi, ei, ta, tb, tc, td, z1, z2, z3, z4, z5, z6, z7⟩ := z
  refine ⟨wi, ei, ta, tb, tc, td, sta_sO h h' b z1, sta_sO h h' b z2, z3.ex b, z4.ex b, z5.ex b, ?_, z7.ex b⟩
  rcases z6 with z | z
  · exact Or.inl z
  · exact Or.inr ⟨z.1, z.2.ex b⟩
/-- a SESSION is made by a letter: k as the letter found it -/
def cfE (x : Nat) (q k : cx_Q) (m : Int) (F F' : Nat → Int → Int) (u s own on : Int) (who e : Int64) (T tF : Int) : Prop := fnT x q m (F 19 own) (F 15 u) (F 26 (61 * u + on)) who e on tF ∧ owE x q k m (upF (upF (upF F 48 s tF) 49 s tF) 52 s (F 19 own)) F' u s T
theorem sta_cf {x : Nat} {k : cx_Q} {m : Int} {F F' : Nat → Int → Int} {u s own on : Int} {who e : Int64} {T tF : Int} : sta x (fun q => cfE x q k m F F' u s own on who e T tF) := fun h h' b z => ⟨sta_fn h h' b z.1, sta_ow h h' b z.2⟩
theorem on_le {x : Nat} {h : cx_Q} {m m' n0 n1 s T : Int} (z : owN x h m m' n0 s T) (q : n1 ≤ n0) : owN x h m m' n1 s T := ⟨fun w => ⟨by have := (z.1 w).1; omega, (z.1 w).2⟩, z.2⟩
theorem cf_b {F : Nat → Int → Int} {G : cx_Q → Prop} {Y : cx_Y} (hY : cY Y) {K : Option cx_V → cx_Q → Prop} {gm g : cx_Q} {x : Nat} {l u s ln on own ta tb tc td N O D : Int} {e : Int64} {o3 o4 o5 o13 o15 o17 o20 o21 o25 : Option cx_V} (hG : rS gm x) (hE : eT x gm g) (hT : TI F G x g N O) (hN : N ≤ 16790) (hO : O ≤ 1980) (hR : rdI x gm l) (hs : 0 ≤ s ∧ s < 144) (hu : 0 ≤ u ∧ u < 6) (hd : dI x gm D) (hD : D ≤ 900000) (hown : 0 ≤ own ∧ own < 126)
    (h41 : cq_I gm (x + 41) s = 0) (h53 : cq_I gm (x + 53) s = 0) (hon : 0 ≤ on ∧ on ≤ 60) (hh : 0 ≤ cq_I gm (x + 58) u ∧ cq_I gm (x + 58) u ≤ 99) (h85 : 0 ≤ cq_I gm x 85 ∧ cq_I gm x 85 ≤ 100) (ha : 0 ≤ ta ∧ ta ≤ 16999) (hb : 0 ≤ tb ∧ tb ≤ 16999) (hc : 0 ≤ tc ∧ tc ≤ 16999) (hdd : 0 ≤ td ∧ td ≤ 16999) (la : ta < cq_I g x 2) (lb : tb < cq_I g x 2) (lc : tc < cq_I g x 2) (ld : td < cq_I g x 2)
    (hO0 : m_openA (m_cfS gm x s ln on own e) x l s = 0)
    (hK : ∀ (h' : cx_Q) (F' : Nat → Int → Int) (T tF : Int), eT x (m_cfD (m_openQ (m_cfS gm x s ln on own e) x u s) x u s ln on e) h' → TI F' (fun q => (G q ∧ tmT x q tF 3 ta tb tc td) ∧ owE x q (m_cfS gm x s ln on own e) (cq_I g x 10) (upF (upF (upF F 48 s tF) 49 s tF) 52 s (F 19 own)) F' u s T) x h' (N + 90) (O + 1) → owN x (m_cfS gm x s ln on own e) (cq_I g x 10) (cq_I h' x 10) (cq_I g x 2) s T → K (some (.inl 0)) h') :
    cw Y mi_X11_comeFirst K 535 [some (.inr (.inr (some x))), some (.inl l), some (.inl u), o3, o4, o5, none, some (.inr (.inl e)), none, some (.inl ln), some (.inl on), some (.inl (61 * u + on)), some (.inl own), o13, none, o15, none, o17, none, some (.inl s), o20, o21, some (.inl ta), some (.inl tb), some (.inl tc), o25, none] [.inl td] g 0 0 := by
  have hS1 := hE.rS hG
  refine bx_X11_comeFirst_535 hY (pf1_ok hY) ?_
  simp only [wp_iconst, wp_bipush, wp_sipush, wp_ldc, wp_ldc2_w, wp_lconst0, wp_lconst1, wp_aconst_null, wp_iload_0, wp_istore_0, wp_iload_1, wp_istore_1, wp_iload_2, wp_istore_2, wp_iload_3, wp_istore_3, wp_iload, wp_istore, wp_lload_0, wp_lstore_0, wp_lload_1, wp_lstore_1, wp_lload_2, wp_lstore_2, wp_lload_3, wp_lstore_3, wp_lload, wp_lstore, wp_aload_0, wp_astore_0, wp_aload_1, wp_astore_1, wp_aload_2, wp_astore_2, wp_aload_3, wp_astore_3, wp_aload, wp_astore, wp_iinc, wp_iadd, wp_isub, wp_imul, wp_iand, wp_ior, wp_ixor, wp_ishl, wp_ishr, wp_iushr, wp_irem, wp_ladd, wp_lsub, wp_lmul, wp_land, wp_lor, wp_lxor, wp_lshl, wp_lshr, wp_lushr, wp_lrem, wp_lcmp, wp_i2l, wp_l2i, wp_dupI, wp_dupA, wp_dup2J, wp_dup2IA, wp_popI, wp_popA, wp_pop2, wp_goto, wp_if_eq, wp_icmp_eq, wp_if_ne, wp_icmp_ne, wp_if_lt, wp_icmp_lt, wp_if_ge, wp_icmp_ge, wp_if_gt, wp_icmp_gt, wp_if_le, wp_icmp_le, wp_ifnull, wp_ifnonnull, wp_acmp_eq, wp_acmp_ne, wp_tableswitch, wp_get0, wp_put0, wp_get1, wp_put1, wp_get2, wp_put2, wp_get3, wp_put3, wp_new, wp_newarray, wp_anewarray, wp_alen, wp_iaload, wp_laload, wp_baload, wp_aaload, wp_iastore, wp_lastore, wp_bastore, wp_aastore, wp_return, wp_ireturnI, wp_ireturnZ, wp_lreturn, wp_areturnO, wp_areturnA, wp_max, wp_min, wp_obj, wp_virt, wp_nil, ld_I0, ld_Is, ld_J0, ld_Js, ld_A0, ld_As, ha_0, ha_s, cx_put1, cx_put2, cx_dl, cx_tgt, true_and, and_true, Nat.reduceAdd, Nat.reduceSub, Int.reduceAdd, Int.reduceNeg, Int.reduceToNat, Int.reduceSub, Int.cast_ofNat_Int, List.take_succ_cons, List.take_zero, List.drop_succ_cons, List.drop_zero, List.take_nil, List.drop_nil, Option.toList_some, Option.toList_none, List.cons_append, List.nil_append, wp_spec, ne_eq, Nat.reduceEqDiff, not_false_eq_true, true_or, or_true, rA_tRoot hS1, rs_tRoot hS1, rz_tRoot hS1, ra_153, (hS1).1]
  refine cl_X11_term (Nat.le_of_ble_eq_true rfl) hS1.1 (Nat.le_refl _) (Nat.le_refl _) (c_X11_term hY hS1 (hT.more (G' := fun q => cq_I g x 2 ≤ cq_I q x 2) (Int.le_refl _) sta_le2) (by omega) ⟨ha.1, la⟩ ⟨hb.1, lb⟩ ⟨hc.1, lc⟩ ⟨hdd.1, ld⟩ ?_)
  intro t g1 t1 t2 hE1 hT1 o10 _
  have le1 : cq_I g x 2 ≤ cq_I g1 x 2 := hT1.g.1.2
  refine cf_c hY hG (hE.trans hE1) hT1 (by omega) hO hR hs hu hd hD hown h41 h53 hon hh h85 ⟨t1, t2⟩ hT1.g.2.1.2 hO0 ?_
  intro h' F' T q1 q2 q3
  rw [o10] at q2 q3
  exact hK h' F' T t q1 ((q2.w (fun z => ⟨⟨z.1.1.1, z.1.2⟩, z.2⟩) (sta_and (sta_and hT.st sta_hT) sta_ow)).le (by omega) (by omega)) (on_le q3 le1)
theorem cf_a {F : Nat → Int → Int} {G : cx_Q → Prop} {Y : cx_Y} (hY : cY Y) {K : Option cx_V → cx_Q → Prop} {gm g : cx_Q} {x : Nat} {l u s ln on own N O D : Int} {e who root : Int64} {o3 o4 o15 o17 : Option cx_V} (hG : rS gm x) (hE : eT x gm g) (hT : TI F G x g N O) (hN : N ≤ 16780) (hO : O ≤ 1980) (hR : rdI x gm l) (hs : 0 ≤ s ∧ s < 144) (hu : 0 ≤ u ∧ u < 6) (hd : dI x gm D) (hD : D ≤ 900000) (hown : 0 ≤ own ∧ own < 126)
    (h41 : cq_I gm (x + 41) s = 0) (h53 : cq_I gm (x + 53) s = 0) (hon : 0 ≤ on ∧ on ≤ 60) (hh : 0 ≤ cq_I gm (x + 58) u ∧ cq_I gm (x + 58) u ≤ 99) (h85 : 0 ≤ cq_I gm x 85 ∧ cq_I gm x 85 ≤ 100)
    (hO0 : m_openA (m_cfS (cq_sJ gm (x + 31) s root) x s ln on own e) x l s = 0)
    (hK : ∀ (h' : cx_Q) (F' : Nat → Int → Int) (T tF : Int), eT x (m_cfD (m_openQ (m_cfS (cq_sJ gm (x + 31) s root) x s ln on own e) x u s) x u s ln on e) h' → TI F' (fun q => G q ∧ cfE x q (m_cfS (cq_sJ gm (x + 31) s root) x s ln on own e) (cq_I g x 10) F F' u s own on who e T tF) x h' (N + 94) (O + 1) → owN x (m_cfS (cq_sJ gm (x + 31) s root) x s ln on own e) (cq_I g x 10) (cq_I h' x 10) (cq_I g x 2) s T → K (some (.inl 0)) h') :
    cw Y mi_X11_comeFirst K 444 [some (.inr (.inr (some x))), some (.inl l), some (.inl u), o3, o4, some (.inr (.inl who)), none, some (.inr (.inl e)), none, some (.inl ln), some (.inl on), some (.inl (61 * u + on)), some (.inl own), some (.inr (.inl root)), none, o15, none, o17, none, some (.inl s), none, none, none, none, none, none, none] [] g 0 0 := by
  have hS1 := hE.rS hG
  have hG2 : rS (cq_sJ gm (x + 31) s root) x := rS.sJ hG
  have hE2 : eT x (cq_sJ gm (x + 31) s root) (cq_sJ g (x + 31) s root) := eT.sJ hE
  have hT2 : TI F G x (cq_sJ g (x + 31) s root) N O := TI.sJ hT
  have hR2 : rdI x (cq_sJ gm (x + 31) s root) l := by
    unfold rdI
    simp only [mm_IJ]
    exact hR
  have hd2 : dI x (cq_sJ gm (x + 31) s root) D := dI.sJ hd
  have i41 : cq_I (cq_sJ gm (x + 31) s root) (x + 41) s = 0 := by rw [mm_IJ]; exact h41
  have i53 : cq_I (cq_sJ gm (x + 31) s root) (x + 53) s = 0 := by rw [mm_IJ]; exact h53
  have i58 : cq_I (cq_sJ gm (x + 31) s root) (x + 58) u = cq_I gm (x + 58) u := by rw [mm_IJ]
  have i85 : cq_I (cq_sJ gm (x + 31) s root) x 85 = cq_I gm x 85 := by rw [mm_IJ]
  refine bx_X11_comeFirst_444 hY (pf1_ok hY) ?_
  simp only [wp_iconst, wp_bipush, wp_sipush, wp_ldc, wp_ldc2_w, wp_lconst0, wp_lconst1, wp_aconst_null, wp_iload_0, wp_istore_0, wp_iload_1, wp_istore_1, wp_iload_2, wp_istore_2, wp_iload_3, wp_istore_3, wp_iload, wp_istore, wp_lload_0, wp_lstore_0, wp_lload_1, wp_lstore_1, wp_lload_2, wp_lstore_2, wp_lload_3, wp_lstore_3, wp_lload, wp_lstore, wp_aload_0, wp_astore_0, wp_aload_1, wp_astore_1, wp_aload_2, wp_astore_2, wp_aload_3, wp_astore_3, wp_aload, wp_astore, wp_iinc, wp_iadd, wp_isub, wp_imul, wp_iand, wp_ior, wp_ixor, wp_ishl, wp_ishr, wp_iushr, wp_irem, wp_ladd, wp_lsub, wp_lmul, wp_land, wp_lor, wp_lxor, wp_lshl, wp_lshr, wp_lushr, wp_lrem, wp_lcmp, wp_i2l, wp_l2i, wp_dupI, wp_dupA, wp_dup2J, wp_dup2IA, wp_popI, wp_popA, wp_pop2, wp_goto, wp_if_eq, wp_icmp_eq, wp_if_ne, wp_icmp_ne, wp_if_lt, wp_icmp_lt, wp_if_ge, wp_icmp_ge, wp_if_gt, wp_icmp_gt, wp_if_le, wp_icmp_le, wp_ifnull, wp_ifnonnull, wp_acmp_eq, wp_acmp_ne, wp_tableswitch, wp_get0, wp_put0, wp_get1, wp_put1, wp_get2, wp_put2, wp_get3, wp_put3, wp_new, wp_newarray, wp_anewarray, wp_alen, wp_iaload, wp_laload, wp_baload, wp_aaload, wp_iastore, wp_lastore, wp_bastore, wp_aastore, wp_return, wp_ireturnI, wp_ireturnZ, wp_lreturn, wp_areturnO, wp_areturnA, wp_max, wp_min, wp_obj, wp_virt, wp_nil, ld_I0, ld_Is, ld_J0, ld_Js, ld_A0, ld_As, ha_0, ha_s, cx_put1, cx_put2, cx_dl, cx_tgt, true_and, and_true, Nat.reduceAdd, Nat.reduceSub, Int.reduceAdd, Int.reduceNeg, Int.reduceToNat, Int.reduceSub, Int.cast_ofNat_Int, List.take_succ_cons, List.take_zero, List.drop_succ_cons, List.drop_zero, List.take_nil, List.drop_nil, Option.toList_some, Option.toList_none, List.cons_append, List.nil_append, wp_spec, ne_eq, Nat.reduceEqDiff, not_false_eq_true, true_or, or_true, rA_sRoot hS1, rs_sRoot hS1, rz_sRoot hS1, ra_136, (hS1).1]
  refine ⟨by omega, ?_⟩
  have g10 : cq_I (cq_sJ g (x + 31) s root) x 10 = cq_I g x 10 := by rw [mm_IJ]
  have g2_ : cq_I (cq_sJ g (x + 31) s root) x 2 = cq_I g x 2 := by rw [mm_IJ]
  rw [← g10, ← g2_] at hK
  clear g10 g2_
  generalize cq_sJ gm (x + 31) s root = gm at hG2 hE2 hR2 hd2 i41 i53 i58 i85 hO0 hK
  generalize cq_sJ g (x + 31) s root = g at hE2 hT2 hK
  have hS2 := hE2.rS hG2
  refine cl_X11_secretOf (Nat.le_of_ble_eq_true rfl) hS2.1 (Nat.le_refl _) (Nat.le_refl _) (c_X11_secretOf hY hS2 hT2 (by omega) ?_)
  intro wi a1 a2 a3 a4
  refine bx_X11_comeFirst_459 hY (pf1_ok hY) ?_
  simp only [wp_iconst, wp_bipush, wp_sipush, wp_ldc, wp_ldc2_w, wp_lconst0, wp_lconst1, wp_aconst_null, wp_iload_0, wp_istore_0, wp_iload_1, wp_istore_1, wp_iload_2, wp_istore_2, wp_iload_3, wp_istore_3, wp_iload, wp_istore, wp_lload_0, wp_lstore_0, wp_lload_1, wp_lstore_1, wp_lload_2, wp_lstore_2, wp_lload_3, wp_lstore_3, wp_lload, wp_lstore, wp_aload_0, wp_astore_0, wp_aload_1, wp_astore_1, wp_aload_2, wp_astore_2, wp_aload_3, wp_astore_3, wp_aload, wp_astore, wp_iinc, wp_iadd, wp_isub, wp_imul, wp_iand, wp_ior, wp_ixor, wp_ishl, wp_ishr, wp_iushr, wp_irem, wp_ladd, wp_lsub, wp_lmul, wp_land, wp_lor, wp_lxor, wp_lshl, wp_lshr, wp_lushr, wp_lrem, wp_lcmp, wp_i2l, wp_l2i, wp_dupI, wp_dupA, wp_dup2J, wp_dup2IA, wp_popI, wp_popA, wp_pop2, wp_goto, wp_if_eq, wp_icmp_eq, wp_if_ne, wp_icmp_ne, wp_if_lt, wp_icmp_lt, wp_if_ge, wp_icmp_ge, wp_if_gt, wp_icmp_gt, wp_if_le, wp_icmp_le, wp_ifnull, wp_ifnonnull, wp_acmp_eq, wp_acmp_ne, wp_tableswitch, wp_get0, wp_put0, wp_get1, wp_put1, wp_get2, wp_put2, wp_get3, wp_put3, wp_new, wp_newarray, wp_anewarray, wp_alen, wp_iaload, wp_laload, wp_baload, wp_aaload, wp_iastore, wp_lastore, wp_bastore, wp_aastore, wp_return, wp_ireturnI, wp_ireturnZ, wp_lreturn, wp_areturnO, wp_areturnA, wp_max, wp_min, wp_obj, wp_virt, wp_nil, ld_I0, ld_Is, ld_J0, ld_Js, ld_A0, ld_As, ha_0, ha_s, cx_put1, cx_put2, cx_dl, cx_tgt, true_and, and_true, Nat.reduceAdd, Nat.reduceSub, Int.reduceAdd, Int.reduceNeg, Int.reduceToNat, Int.reduceSub, Int.cast_ofNat_Int, List.take_succ_cons, List.take_zero, List.drop_succ_cons, List.drop_zero, List.take_nil, List.drop_nil, Option.toList_some, Option.toList_none, List.cons_append, List.nil_append, wp_spec, ne_eq, Nat.reduceEqDiff, not_false_eq_true, true_or, or_true]
  refine cl_X11_secretOf (Nat.le_of_ble_eq_true rfl) hS2.1 (Nat.le_refl _) (Nat.le_refl _) (c_X11_secretOf hY hS2 hT2 (by omega) ?_)
  intro ei b1 b2 b3 b4
  have tl := hT2.tl 19 (by decide) own
  have r19 := hT2.re 19 (by decide) own
  have hTm := hT2.more (G' := fun q => ((cq_I g x 10 ≤ cq_I q x 10 ∧ sO x q (cq_I g x 10) who wi) ∧ (cq_I g x 10 ≤ cq_I q x 10 ∧ sO x q (cq_I g x 10) e ei)) ∧ cq_I g x 2 ≤ cq_I q x 2) ⟨⟨⟨Int.le_refl _, a4⟩, ⟨Int.le_refl _, b4⟩⟩, Int.le_refl _⟩ (sta_and (sta_and sta_sO sta_sO) sta_le2)
  refine bx_X11_comeFirst_467 hY (pf1_ok hY) ?_
  simp only [wp_iconst, wp_bipush, wp_sipush, wp_ldc, wp_ldc2_w, wp_lconst0, wp_lconst1, wp_aconst_null, wp_iload_0, wp_istore_0, wp_iload_1, wp_istore_1, wp_iload_2, wp_istore_2, wp_iload_3, wp_istore_3, wp_iload, wp_istore, wp_lload_0, wp_lstore_0, wp_lload_1, wp_lstore_1, wp_lload_2, wp_lstore_2, wp_lload_3, wp_lstore_3, wp_lload, wp_lstore, wp_aload_0, wp_astore_0, wp_aload_1, wp_astore_1, wp_aload_2, wp_astore_2, wp_aload_3, wp_astore_3, wp_aload, wp_astore, wp_iinc, wp_iadd, wp_isub, wp_imul, wp_iand, wp_ior, wp_ixor, wp_ishl, wp_ishr, wp_iushr, wp_irem, wp_ladd, wp_lsub, wp_lmul, wp_land, wp_lor, wp_lxor, wp_lshl, wp_lshr, wp_lushr, wp_lrem, wp_lcmp, wp_i2l, wp_l2i, wp_dupI, wp_dupA, wp_dup2J, wp_dup2IA, wp_popI, wp_popA, wp_pop2, wp_goto, wp_if_eq, wp_icmp_eq, wp_if_ne, wp_icmp_ne, wp_if_lt, wp_icmp_lt, wp_if_ge, wp_icmp_ge, wp_if_gt, wp_icmp_gt, wp_if_le, wp_icmp_le, wp_ifnull, wp_ifnonnull, wp_acmp_eq, wp_acmp_ne, wp_tableswitch, wp_get0, wp_put0, wp_get1, wp_put1, wp_get2, wp_put2, wp_get3, wp_put3, wp_new, wp_newarray, wp_anewarray, wp_alen, wp_iaload, wp_laload, wp_baload, wp_aaload, wp_iastore, wp_lastore, wp_bastore, wp_aastore, wp_return, wp_ireturnI, wp_ireturnZ, wp_lreturn, wp_areturnO, wp_areturnA, wp_max, wp_min, wp_obj, wp_virt, wp_nil, ld_I0, ld_Is, ld_J0, ld_Js, ld_A0, ld_As, ha_0, ha_s, cx_put1, cx_put2, cx_dl, cx_tgt, true_and, and_true, Nat.reduceAdd, Nat.reduceSub, Int.reduceAdd, Int.reduceNeg, Int.reduceToNat, Int.reduceSub, Int.cast_ofNat_Int, List.take_succ_cons, List.take_zero, List.drop_succ_cons, List.drop_zero, List.take_nil, List.drop_nil, Option.toList_some, Option.toList_none, List.cons_append, List.nil_append, wp_spec, ne_eq, Nat.reduceEqDiff, not_false_eq_true, true_or, or_true, rA_lentTerm hS2, rs_lentTerm hS2, rz_lentTerm hS2, ra_124, (hS2).1]
  refine ⟨by omega, ?_⟩
  refine cl_X11_commonTerm (Nat.le_of_ble_eq_true rfl) hS2.1 (Nat.le_refl _) (Nat.le_refl _) (c_X11_commonTerm hY hS2 hTm (by omega) tl ⟨a1, a3⟩ ?_)
  intro ta g1 c1 c2 hE3 hT3 o10
  have hS3 := hE3.rS hS2
  have tu := hT3.tl 15 (by decide) u
  have ru := hT3.re 15 (by decide) u
  have le1 : cq_I g x 2 ≤ cq_I g1 x 2 := hT3.g.1.2.2
  refine bx_X11_comeFirst_482 hY (pf1_ok hY) ?_
  simp only [wp_iconst, wp_bipush, wp_sipush, wp_ldc, wp_ldc2_w, wp_lconst0, wp_lconst1, wp_aconst_null, wp_iload_0, wp_istore_0, wp_iload_1, wp_istore_1, wp_iload_2, wp_istore_2, wp_iload_3, wp_istore_3, wp_iload, wp_istore, wp_lload_0, wp_lstore_0, wp_lload_1, wp_lstore_1, wp_lload_2, wp_lstore_2, wp_lload_3, wp_lstore_3, wp_lload, wp_lstore, wp_aload_0, wp_astore_0, wp_aload_1, wp_astore_1, wp_aload_2, wp_astore_2, wp_aload_3, wp_astore_3, wp_aload, wp_astore, wp_iinc, wp_iadd, wp_isub, wp_imul, wp_iand, wp_ior, wp_ixor, wp_ishl, wp_ishr, wp_iushr, wp_irem, wp_ladd, wp_lsub, wp_lmul, wp_land, wp_lor, wp_lxor, wp_lshl, wp_lshr, wp_lushr, wp_lrem, wp_lcmp, wp_i2l, wp_l2i, wp_dupI, wp_dupA, wp_dup2J, wp_dup2IA, wp_popI, wp_popA, wp_pop2, wp_goto, wp_if_eq, wp_icmp_eq, wp_if_ne, wp_icmp_ne, wp_if_lt, wp_icmp_lt, wp_if_ge, wp_icmp_ge, wp_if_gt, wp_icmp_gt, wp_if_le, wp_icmp_le, wp_ifnull, wp_ifnonnull, wp_acmp_eq, wp_acmp_ne, wp_tableswitch, wp_get0, wp_put0, wp_get1, wp_put1, wp_get2, wp_put2, wp_get3, wp_put3, wp_new, wp_newarray, wp_anewarray, wp_alen, wp_iaload, wp_laload, wp_baload, wp_aaload, wp_iastore, wp_lastore, wp_bastore, wp_aastore, wp_return, wp_ireturnI, wp_ireturnZ, wp_lreturn, wp_areturnO, wp_areturnA, wp_max, wp_min, wp_obj, wp_virt, wp_nil, ld_I0, ld_Is, ld_J0, ld_Js, ld_A0, ld_As, ha_0, ha_s, cx_put1, cx_put2, cx_dl, cx_tgt, true_and, and_true, Nat.reduceAdd, Nat.reduceSub, Int.reduceAdd, Int.reduceNeg, Int.reduceToNat, Int.reduceSub, Int.cast_ofNat_Int, List.take_succ_cons, List.take_zero, List.drop_succ_cons, List.drop_zero, List.take_nil, List.drop_nil, Option.toList_some, Option.toList_none, List.cons_append, List.nil_append, wp_spec, ne_eq, Nat.reduceEqDiff, not_false_eq_true, true_or, or_true, rA_identityTerm hS3, rs_identityTerm hS3, rz_identityTerm hS3, ra_120, (hS3).1]
  refine ⟨by omega, ?_⟩
  refine cl_X11_commonTerm (Nat.le_of_ble_eq_true rfl) hS3.1 (Nat.le_refl _) (Nat.le_refl _) (c_X11_commonTerm hY hS3 hT3 (by omega) tu ⟨b1, by omega⟩ ?_)
  intro tb g2 d1 d2 hE4 hT4 o10b
  have hS4 := hE4.rS hS3
  have tl2 := hT4.tl 19 (by decide) own
  have r19b := hT4.re 19 (by decide) own
  have le2 : cq_I g x 2 ≤ cq_I g2 x 2 := hT4.g.1.1.2.2
  refine bx_X11_comeFirst_496 hY (pf1_ok hY) ?_
  simp only [wp_iconst, wp_bipush, wp_sipush, wp_ldc, wp_ldc2_w, wp_lconst0, wp_lconst1, wp_aconst_null, wp_iload_0, wp_istore_0, wp_iload_1, wp_istore_1, wp_iload_2, wp_istore_2, wp_iload_3, wp_istore_3, wp_iload, wp_istore, wp_lload_0, wp_lstore_0, wp_lload_1, wp_lstore_1, wp_lload_2, wp_lstore_2, wp_lload_3, wp_lstore_3, wp_lload, wp_lstore, wp_aload_0, wp_astore_0, wp_aload_1, wp_astore_1, wp_aload_2, wp_astore_2, wp_aload_3, wp_astore_3, wp_aload, wp_astore, wp_iinc, wp_iadd, wp_isub, wp_imul, wp_iand, wp_ior, wp_ixor, wp_ishl, wp_ishr, wp_iushr, wp_irem, wp_ladd, wp_lsub, wp_lmul, wp_land, wp_lor, wp_lxor, wp_lshl, wp_lshr, wp_lushr, wp_lrem, wp_lcmp, wp_i2l, wp_l2i, wp_dupI, wp_dupA, wp_dup2J, wp_dup2IA, wp_popI, wp_popA, wp_pop2, wp_goto, wp_if_eq, wp_icmp_eq, wp_if_ne, wp_icmp_ne, wp_if_lt, wp_icmp_lt, wp_if_ge, wp_icmp_ge, wp_if_gt, wp_icmp_gt, wp_if_le, wp_icmp_le, wp_ifnull, wp_ifnonnull, wp_acmp_eq, wp_acmp_ne, wp_tableswitch, wp_get0, wp_put0, wp_get1, wp_put1, wp_get2, wp_put2, wp_get3, wp_put3, wp_new, wp_newarray, wp_anewarray, wp_alen, wp_iaload, wp_laload, wp_baload, wp_aaload, wp_iastore, wp_lastore, wp_bastore, wp_aastore, wp_return, wp_ireturnI, wp_ireturnZ, wp_lreturn, wp_areturnO, wp_areturnA, wp_max, wp_min, wp_obj, wp_virt, wp_nil, ld_I0, ld_Is, ld_J0, ld_Js, ld_A0, ld_As, ha_0, ha_s, cx_put1, cx_put2, cx_dl, cx_tgt, true_and, and_true, Nat.reduceAdd, Nat.reduceSub, Int.reduceAdd, Int.reduceNeg, Int.reduceToNat, Int.reduceSub, Int.cast_ofNat_Int, List.take_succ_cons, List.take_zero, List.drop_succ_cons, List.drop_zero, List.take_nil, List.drop_nil, Option.toList_some, Option.toList_none, List.cons_append, List.nil_append, wp_spec, ne_eq, Nat.reduceEqDiff, not_false_eq_true, true_or, or_true, rA_lentTerm hS4, rs_lentTerm hS4, rz_lentTerm hS4, ra_124, (hS4).1]
  refine ⟨by omega, ?_⟩
  refine cl_X11_commonTerm (Nat.le_of_ble_eq_true rfl) hS4.1 (Nat.le_refl _) (Nat.le_refl _) (c_X11_commonTerm hY hS4 hT4 (by omega) tl2 ⟨b1, by omega⟩ ?_)
  intro tc g3 f1 f2 hE5 hT5 o10c
  have le3 : cq_I g x 2 ≤ cq_I g3 x 2 := hT5.g.1.1.1.2.2
  have lta : ta < cq_I g3 x 2 := hT5.g.1.1.2.1.2
  have ltb : tb < cq_I g3 x 2 := hT5.g.1.2.1.2
  have ltc : tc < cq_I g3 x 2 := hT5.g.2.1.2
  have h05 := hT5.1
  have hS5 := hE5.rS hS4
  have hE6 := ((hE2.trans hE3).trans hE4).trans hE5
  have to_ := hT5.tl 26 (by decide) (61 * u + on)
  have ro := hT5.re 26 (by decide) (61 * u + on)
  refine bx_X11_comeFirst_511 hY (pf1_ok hY) ?_
  simp only [wp_iconst, wp_bipush, wp_sipush, wp_ldc, wp_ldc2_w, wp_lconst0, wp_lconst1, wp_aconst_null, wp_iload_0, wp_istore_0, wp_iload_1, wp_istore_1, wp_iload_2, wp_istore_2, wp_iload_3, wp_istore_3, wp_iload, wp_istore, wp_lload_0, wp_lstore_0, wp_lload_1, wp_lstore_1, wp_lload_2, wp_lstore_2, wp_lload_3, wp_lstore_3, wp_lload, wp_lstore, wp_aload_0, wp_astore_0, wp_aload_1, wp_astore_1, wp_aload_2, wp_astore_2, wp_aload_3, wp_astore_3, wp_aload, wp_astore, wp_iinc, wp_iadd, wp_isub, wp_imul, wp_iand, wp_ior, wp_ixor, wp_ishl, wp_ishr, wp_iushr, wp_irem, wp_ladd, wp_lsub, wp_lmul, wp_land, wp_lor, wp_lxor, wp_lshl, wp_lshr, wp_lushr, wp_lrem, wp_lcmp, wp_i2l, wp_l2i, wp_dupI, wp_dupA, wp_dup2J, wp_dup2IA, wp_popI, wp_popA, wp_pop2, wp_goto, wp_if_eq, wp_icmp_eq, wp_if_ne, wp_icmp_ne, wp_if_lt, wp_icmp_lt, wp_if_ge, wp_icmp_ge, wp_if_gt, wp_icmp_gt, wp_if_le, wp_icmp_le, wp_ifnull, wp_ifnonnull, wp_acmp_eq, wp_acmp_ne, wp_tableswitch, wp_get0, wp_put0, wp_get1, wp_put1, wp_get2, wp_put2, wp_get3, wp_put3, wp_new, wp_newarray, wp_anewarray, wp_alen, wp_iaload, wp_laload, wp_baload, wp_aaload, wp_iastore, wp_lastore, wp_bastore, wp_aastore, wp_return, wp_ireturnI, wp_ireturnZ, wp_lreturn, wp_areturnO, wp_areturnA, wp_max, wp_min, wp_obj, wp_virt, wp_nil, ld_I0, ld_Is, ld_J0, ld_Js, ld_A0, ld_As, ha_0, ha_s, cx_put1, cx_put2, cx_dl, cx_tgt, true_and, and_true, Nat.reduceAdd, Nat.reduceSub, Int.reduceAdd, Int.reduceNeg, Int.reduceToNat, Int.reduceSub, Int.cast_ofNat_Int, List.take_succ_cons, List.take_zero, List.drop_succ_cons, List.drop_zero, List.take_nil, List.drop_nil, Option.toList_some, Option.toList_none, List.cons_append, List.nil_append, wp_spec, ne_eq, Nat.reduceEqDiff, not_false_eq_true, true_or, or_true]
  refine ⟨fun q => ?_, fun q => ?_⟩
  · refine bx_X11_comeFirst_522 hY (pf1_ok hY) ?_
    simp only [wp_iconst, wp_bipush, wp_sipush, wp_ldc, wp_ldc2_w, wp_lconst0, wp_lconst1, wp_aconst_null, wp_iload_0, wp_istore_0, wp_iload_1, wp_istore_1, wp_iload_2, wp_istore_2, wp_iload_3, wp_istore_3, wp_iload, wp_istore, wp_lload_0, wp_lstore_0, wp_lload_1, wp_lstore_1, wp_lload_2, wp_lstore_2, wp_lload_3, wp_lstore_3, wp_lload, wp_lstore, wp_aload_0, wp_astore_0, wp_aload_1, wp_astore_1, wp_aload_2, wp_astore_2, wp_aload_3, wp_astore_3, wp_aload, wp_astore, wp_iinc, wp_iadd, wp_isub, wp_imul, wp_iand, wp_ior, wp_ixor, wp_ishl, wp_ishr, wp_iushr, wp_irem, wp_ladd, wp_lsub, wp_lmul, wp_land, wp_lor, wp_lxor, wp_lshl, wp_lshr, wp_lushr, wp_lrem, wp_lcmp, wp_i2l, wp_l2i, wp_dupI, wp_dupA, wp_dup2J, wp_dup2IA, wp_popI, wp_popA, wp_pop2, wp_goto, wp_if_eq, wp_icmp_eq, wp_if_ne, wp_icmp_ne, wp_if_lt, wp_icmp_lt, wp_if_ge, wp_icmp_ge, wp_if_gt, wp_icmp_gt, wp_if_le, wp_icmp_le, wp_ifnull, wp_ifnonnull, wp_acmp_eq, wp_acmp_ne, wp_tableswitch, wp_get0, wp_put0, wp_get1, wp_put1, wp_get2, wp_put2, wp_get3, wp_put3, wp_new, wp_newarray, wp_anewarray, wp_alen, wp_iaload, wp_laload, wp_baload, wp_aaload, wp_iastore, wp_lastore, wp_bastore, wp_aastore, wp_return, wp_ireturnI, wp_ireturnZ, wp_lreturn, wp_areturnO, wp_areturnA, wp_max, wp_min, wp_obj, wp_virt, wp_nil, ld_I0, ld_Is, ld_J0, ld_Js, ld_A0, ld_As, ha_0, ha_s, cx_put1, cx_put2, cx_dl, cx_tgt, true_and, and_true, Nat.reduceAdd, Nat.reduceSub, Int.reduceAdd, Int.reduceNeg, Int.reduceToNat, Int.reduceSub, Int.cast_ofNat_Int, List.take_succ_cons, List.take_zero, List.drop_succ_cons, List.drop_zero, List.take_nil, List.drop_nil, Option.toList_some, Option.toList_none, List.cons_append, List.nil_append, wp_spec, ne_eq, Nat.reduceEqDiff, not_false_eq_true, true_or, or_true, rA_onceTerm hS5, rs_onceTerm hS5, rz_onceTerm hS5, ra_131, (hS5).1]
    refine ⟨by omega, ?_⟩
    refine cl_X11_commonTerm (Nat.le_of_ble_eq_true rfl) hS5.1 (Nat.le_refl _) (Nat.le_refl _) (c_X11_commonTerm hY hS5 hT5 (by omega) to_ ⟨b1, by omega⟩ ?_)
    intro td g4 k1 k2 hE7 hT7 o10d
    have le4 : cq_I g x 2 ≤ cq_I g4 x 2 := hT7.g.1.1.1.1.2.2
    refine cf_b hY hG2 (hE6.trans hE7) hT7 (by omega) hO hR2 hs hu hd2 hD hown i41 i53 hon (by omega) (by omega) (by omega) (by omega) (by omega) (by omega) hT7.g.1.1.1.2.1.2 hT7.g.1.1.2.1.2 hT7.g.1.2.1.2 hT7.g.2.1.2 hO0 ?_
    intro h' F' T tF q1 q2 q3
    rw [o10d, o10c, o10b, o10] at q2 q3
    refine hK h' F' T tF q1 ((q2.w (fun z => ⟨z.1.1.1.1.1.1.1, ⟨wi, ei, ta, tb, tc, td, z.1.1.1.1.1.1.2.1.1, z.1.1.1.1.1.1.2.1.2, ?_, ?_, ?_, Or.inr ⟨q, ?_⟩, z.1.2⟩, z.2⟩) (sta_and hT.st sta_cf)).le (by omega) (by omega)) (on_le q3 le4)
    · rw [← r19]; exact z.1.1.1.1.1.2
    · rw [← ru]; exact z.1.1.1.1.2
    · rw [← r19b]; exact z.1.1.1.2
    · rw [← ro]; exact z.1.1.2
  · refine cf_b hY hG2 hE6 hT5 (by omega) hO hR2 hs hu hd2 hD hown i41 i53 hon (by omega) (by omega) (by omega) (by omega) (by omega) (by omega) lta ltb ltc (by omega) hO0 ?_
    intro h' F' T tF q1 q2 q3
    rw [o10c, o10b, o10] at q2 q3
    refine hK h' F' T tF q1 ((q2.w (fun z => ⟨z.1.1.1.1.1.1, ⟨wi, ei, ta, tb, tc, 0, z.1.1.1.1.1.2.1.1, z.1.1.1.1.1.2.1.2, ?_, ?_, ?_, Or.inl ⟨Classical.not_not.mp q, rfl⟩, z.1.2⟩, z.2⟩) (sta_and hT.st sta_cf)).le (by omega) (by omega)) (on_le q3 le3)
    · rw [← r19]; exact z.1.1.1.1.2
    · rw [← ru]; exact z.1.1.1.2
    · rw [← r19b]; exact z.1.1.2
