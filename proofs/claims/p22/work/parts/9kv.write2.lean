/-! class and reference side by side: write -/
theorem wAB_c {go u v : Int} {idn eO : Int64} {ln on ln' on' : Int} (e : go ≠ 0 → ln = ln' ∧ on = on') : wAB go u v idn eO ln on = wAB go u v idn eO ln' on' := by
  unfold wAB
  by_cases w : go = 0
  · rw [if_pos w, if_pos w]
  · rw [if_neg w, if_neg w, (e w).1, (e w).2]
theorem wAll_c {go u v : Int} {idn eO own : Int64} {ln on ln' on' pn ns m : Int} {tp tp' : Int → Int} {key : Int64} (hm : 0 ≤ m) (e : go ≠ 0 → ln = ln' ∧ on = on') (et : ∀ k, 0 ≤ k → k < m → tp k = tp' k) : wAll go u v idn eO ln on own pn ns m tp key = wAll go u v idn eO ln' on' own pn ns m tp' key := by
  unfold wAll
  rw [wAB_c e, wD_c (tp := tp) (tp' := tp') (fun k k0 k1 => et k k0 (by omega))]
section
variable {Y : cx_Y} {K : Option cx_V → cx_Q → Prop} {c x : Nat} {n L Z : Int} {E : Nat → Option Int} {h0 : cx_Q} {h g g' : cx_Q} {pe : Int → Nat} {ro : Int → Int → Nat} {pa lb tp rd en op ob : Nat} {T Lf : Int → Nat}
theorem WR.eT {g1 : cx_Q} {u v : Int} (e : eT x g g1) (W : WR x u v g1 g') : WR x u v g g' := by
  have eS : wrS x g1 u v = wrS x g u v := by unfold wrS; rw [e.fI (by decide) (by decide)]
  have x72 : cq_I g1 x 72 = cq_I g x 72 := e.xI (by decide) (by decide) (by decide)
  have eZ : ∀ s, wrZ x g1 s = wrZ x g s := fun s => by unfold wrZ; rw [e.fI (by decide) (by decide), e.xI (j := 68) (by decide) (by decide) (by decide)]
  have eB : ∀ s, wrB x g1 u v s = wrB x g u v s := fun s => by
    unfold wrB
    rw [e.fI (o := 43) (by decide) (by decide), e.fJ (o := 14) (by decide) (by decide), e.fJ (o := 45) (by decide) (by decide), e.fI (o := 46) (by decide) (by decide), e.fI (o := 47) (by decide) (by decide), e.fJ (o := 37) (by decide) (by decide), e.fI (o := 42) (by decide) (by decide), e.fI (o := 40) (by decide) (by decide), e.xI (j := 68) (by decide) (by decide) (by decide), e.fI (o := 61) (by decide) (by decide), e.fJ (o := 32) (by decide) (by decide)]
  unfold WR at W ⊢
  rw [eS, eZ, eB] at W
  generalize wrS x g u v = s at W ⊢
  refine ⟨fun j w1 w2 w3 w4 w5 w6 => (W.x_ j w1 w2 w3 w4 w5 w6).trans (e.xI w4 w5 w6), by rw [W.x72, x72], W.x68, fun o j w1 w2 w3 w4 w5 w6 => by rw [W.I_ o j w1 w2 w3 w4 (by rw [x72]; exact w5) (by rw [x72]; exact w6), e.fI w1 w3], fun o j w1 w2 w3 w4 => by rw [W.J_ o j w1 w2 w3 w4, e.fJ w1 w3], by rw [W.i40, e.fI (by decide) (by decide)], by rw [W.j32, e.fJ (by decide) (by decide)], by rw [← x72]; exact W.z, fun k k0 k1 => by rw [← x72]; exact W.b_ k k0 k1⟩
/-- turns, their pairs, SESSIONS' references and SECRETS are as they were -/
def WX (h h' : cx_Q) : Prop := et h h' ∧ (∀ d, cq_s h d = 7 → cq_A h' d = cq_A h d) ∧ (∀ d, cq_s h d = 6 → cq_J h' d = cq_J h d) ∧ ∀ d, cq_s h d = 1 → cq_A h' d = cq_A h d
theorem WX.trans {h1 h2 h3 : cx_Q} (p : WX h1 h2) (q : WX h2 h3) : WX h1 h3 := ⟨p.1.trans q.1, fun d w => (q.2.1 d ((p.1.1 d (by rw [w]; decide)).1.trans w)).trans (p.2.1 d w), fun d w => (q.2.2.1 d ((p.1.1 d (by rw [w]; decide)).1.trans w)).trans (p.2.2.1 d w), fun d w => (q.2.2.2 d ((p.1.1 d (by rw [w]; decide)).1.trans w)).trans (p.2.2.2 d w)⟩
theorem BX.w {c : Nat} {pe : Int → Nat} {T T' : Int → Nat} {h h1 h' : cx_Q} {u v k sl dr : Int} {lo sd : Int64} (B : BX c pe T T' h h1 u v k sl lo sd dr) (w : WX h1 h') : BX c pe T T' h h' u v k sl lo sd dr := by
  obtain ⟨a, t, r, f, s, nt, idu, idv, o6, o7, b1, b2, b3, b4, b5, b6, b7, b8, b9, b10, b11, b12⟩ := B
  have s_ : ∀ {d q : Nat}, cq_s h1 d = q → q ≠ 99 → cq_s h' d = q := fun {d q} y z => (w.1.1 d (by rw [y]; exact z)).1.trans y
  have eA := w.2.1 a b2.2
  exact ⟨a, t, r, f, s, nt, idu, idv, o6, o7, b1, ⟨b2.1, s_ b2.2 (by decide)⟩, ⟨b3.1, s_ b3.2.1 (by decide), by rw [w.2.2.1 t b3.2.1]; exact b3.2.2⟩, ⟨b4.1, s_ b4.2.1 (by decide), by rw [w.2.2.1 r b4.2.1]; exact b4.2.2⟩, b5, b6, b7, ⟨b8.1.w w.1, b8.2⟩, ⟨b9.1.w w.1, b9.2⟩, by rw [eA]; exact b10, s_ b11 (by decide), by rw [w.2.2.2 (a + 1) b11]; exact b12⟩
/-- the letter that was written: its turn and its place -/
def LX (x : Nat) (T Lf Lf' : Int → Nat) (g : cx_Q) (u v : Int) (h' : cx_Q) : Prop := (∀ k, k ≠ cq_I g x 72 → Lf' k = Lf k) ∧ cq_A h' (Lf' (cq_I g x 72)) 2 = cq_A h' (T (wrS x g u v)) 9 ∧ cq_I h' (Lf' (cq_I g x 72)) 3 = cq_I g (x + 40) (wrS x g u v)
theorem f_write93 (hY : cY Y) {u v : Int} {z4 : Option cx_V} (H : CI c n L Z E h0 [] h) (hZ : Z ≤ 1000000) (F : FX c x n pe ro pa lb tp rd en op ob T Lf h g) (hu : 0 ≤ u ∧ u < n) (hv : 0 ≤ v ∧ v < n) (hU : cq_I g (x + 11) u ≠ 0) (hr : 0 < cq_I g (x + 30) (6 * u + v)) (h72 : cq_I g x 72 < 80) (hK : ∀ h' Lf', CI c n L (Z + 1) E h0 [] h' → (∀ g', WR x u v g g' → FX c x n pe ro pa lb tp rd en op ob T Lf' h' g') → LX x T Lf Lf' g u v h' → WX h h' → K (some (.inl (cq_I g x 72))) h') : cw Y mi_X10_write K 93 [some (.inr (.inr (some c))), some (.inl u), some (.inl v), some (.inr (.inr (some (ro u v)))), z4] [] h 2 104 := by
  have hc := H.cs
  have i9 := H.i9_9 hc
  have fs := F.fs
  have fu := F.fu u hu.1 hu.2
  have fo := F.fo u v hu.1 hu.2 hv.1 hv.2
  have at0 := fo.at_ 0 (Int.le_refl _) hr
  have sr := fo.ss 0 (Int.le_refl _) hr
  rw [Int.add_zero] at at0 sr
  unfold WR LX at hK
  have eS : cq_I g (x + 29) (4 * (6 * u + v)) = wrS x g u v := rfl
  rw [eS] at at0 sr
  generalize wrS x g u v = s at hK at0 sr eS
  have ss := sr.s0
  have lb1 := F.a1
  have slb := F.s1
  obtain ⟨d, ed, sd, jd0, jd1, _, _, _⟩ := fu.n1 hU
  obtain ⟨w, ew, sw, jw0, jw1⟩ := sr.ow
  refine bx_X10_write_93 hY (pf2_ok hY) ?_
  simp only [wp_iconst, wp_bipush, wp_sipush, wp_ldc, wp_ldc2_w, wp_lconst0, wp_lconst1, wp_aconst_null, wp_iload_0, wp_istore_0, wp_iload_1, wp_istore_1, wp_iload_2, wp_istore_2, wp_iload_3, wp_istore_3, wp_iload, wp_istore, wp_lload_0, wp_lstore_0, wp_lload_1, wp_lstore_1, wp_lload_2, wp_lstore_2, wp_lload_3, wp_lstore_3, wp_lload, wp_lstore, wp_aload_0, wp_astore_0, wp_aload_1, wp_astore_1, wp_aload_2, wp_astore_2, wp_aload_3, wp_astore_3, wp_aload, wp_astore, wp_iinc, wp_iadd, wp_isub, wp_imul, wp_iand, wp_ior, wp_ixor, wp_ishl, wp_ishr, wp_iushr, wp_irem, wp_ladd, wp_lsub, wp_lmul, wp_land, wp_lor, wp_lxor, wp_lshl, wp_lshr, wp_lushr, wp_lrem, wp_lcmp, wp_i2l, wp_l2i, wp_dupI, wp_dupA, wp_dup2J, wp_dup2IA, wp_popI, wp_popA, wp_pop2, wp_goto, wp_if_eq, wp_icmp_eq, wp_if_ne, wp_icmp_ne, wp_if_lt, wp_icmp_lt, wp_if_ge, wp_icmp_ge, wp_if_gt, wp_icmp_gt, wp_if_le, wp_icmp_le, wp_ifnull, wp_ifnonnull, wp_acmp_eq, wp_acmp_ne, wp_tableswitch, wp_get0, wp_put0, wp_get1, wp_put1, wp_get2, wp_put2, wp_get3, wp_put3, wp_new, wp_newarray, wp_anewarray, wp_alen, wp_iaload, wp_laload, wp_baload, wp_aaload, wp_iastore, wp_lastore, wp_bastore, wp_aastore, wp_return, wp_ireturnI, wp_ireturnZ, wp_lreturn, wp_areturnO, wp_areturnA, wp_max, wp_min, wp_obj, wp_virt, wp_nil, ld_I0, ld_Is, ld_J0, ld_Js, ld_A0, ld_As, ha_0, ha_s, cx_put1, cx_put2, cx_dl, cx_tgt, true_and, and_true, Nat.reduceAdd, Nat.reduceSub, Int.reduceAdd, Int.reduceNeg, Int.reduceToNat, Int.reduceSub, Int.cast_ofNat_Int, List.take_succ_cons, List.take_zero, List.drop_succ_cons, List.drop_zero, List.take_nil, List.drop_nil, Option.toList_some, Option.toList_none, List.cons_append, List.nil_append, wp_spec, ne_eq, Nat.reduceEqDiff, not_false_eq_true, true_or, or_true]
  refine cl_X6_at (Nat.le_of_ble_eq_true rfl) fo.s0 (by omega) (by omega) (c_X6_at hY H List.not_mem_nil fo.s0 (fun q => ?_) (fun _ _ t et _ _ => ?_))
  · have := fo.rm
    omega
  have ett : t = T s := by
    rw [at0] at et
    exact (Option.some.inj et).symm
  rw [ett]
  clear et ett
  refine bx_X10_write_98 hY (pf2_ok hY) ?_
  simp only [wp_iconst, wp_bipush, wp_sipush, wp_ldc, wp_ldc2_w, wp_lconst0, wp_lconst1, wp_aconst_null, wp_iload_0, wp_istore_0, wp_iload_1, wp_istore_1, wp_iload_2, wp_istore_2, wp_iload_3, wp_istore_3, wp_iload, wp_istore, wp_lload_0, wp_lstore_0, wp_lload_1, wp_lstore_1, wp_lload_2, wp_lstore_2, wp_lload_3, wp_lstore_3, wp_lload, wp_lstore, wp_aload_0, wp_astore_0, wp_aload_1, wp_astore_1, wp_aload_2, wp_astore_2, wp_aload_3, wp_astore_3, wp_aload, wp_astore, wp_iinc, wp_iadd, wp_isub, wp_imul, wp_iand, wp_ior, wp_ixor, wp_ishl, wp_ishr, wp_iushr, wp_irem, wp_ladd, wp_lsub, wp_lmul, wp_land, wp_lor, wp_lxor, wp_lshl, wp_lshr, wp_lushr, wp_lrem, wp_lcmp, wp_i2l, wp_l2i, wp_dupI, wp_dupA, wp_dup2J, wp_dup2IA, wp_popI, wp_popA, wp_pop2, wp_goto, wp_if_eq, wp_icmp_eq, wp_if_ne, wp_icmp_ne, wp_if_lt, wp_icmp_lt, wp_if_ge, wp_icmp_ge, wp_if_gt, wp_icmp_gt, wp_if_le, wp_icmp_le, wp_ifnull, wp_ifnonnull, wp_acmp_eq, wp_acmp_ne, wp_tableswitch, wp_get0, wp_put0, wp_get1, wp_put1, wp_get2, wp_put2, wp_get3, wp_put3, wp_new, wp_newarray, wp_anewarray, wp_alen, wp_iaload, wp_laload, wp_baload, wp_aaload, wp_iastore, wp_lastore, wp_bastore, wp_aastore, wp_return, wp_ireturnI, wp_ireturnZ, wp_lreturn, wp_areturnO, wp_areturnA, wp_max, wp_min, wp_obj, wp_virt, wp_nil, ld_I0, ld_Is, ld_J0, ld_Js, ld_A0, ld_As, ha_0, ha_s, cx_put1, cx_put2, cx_dl, cx_tgt, true_and, and_true, Nat.reduceAdd, Nat.reduceSub, Int.reduceAdd, Int.reduceNeg, Int.reduceToNat, Int.reduceSub, Int.cast_ofNat_Int, List.take_succ_cons, List.take_zero, List.drop_succ_cons, List.drop_zero, List.take_nil, List.drop_nil, Option.toList_some, Option.toList_none, List.cons_append, List.nil_append, wp_spec, ne_eq, Nat.reduceEqDiff, not_false_eq_true, true_or, or_true]
  refine ⟨fun i _ => ?_, fun q => (nomatch q)⟩
  refine bx_X10_write_107 hY (pf2_ok hY) ?_
  simp only [wp_iconst, wp_bipush, wp_sipush, wp_ldc, wp_ldc2_w, wp_lconst0, wp_lconst1, wp_aconst_null, wp_iload_0, wp_istore_0, wp_iload_1, wp_istore_1, wp_iload_2, wp_istore_2, wp_iload_3, wp_istore_3, wp_iload, wp_istore, wp_lload_0, wp_lstore_0, wp_lload_1, wp_lstore_1, wp_lload_2, wp_lstore_2, wp_lload_3, wp_lstore_3, wp_lload, wp_lstore, wp_aload_0, wp_astore_0, wp_aload_1, wp_astore_1, wp_aload_2, wp_astore_2, wp_aload_3, wp_astore_3, wp_aload, wp_astore, wp_iinc, wp_iadd, wp_isub, wp_imul, wp_iand, wp_ior, wp_ixor, wp_ishl, wp_ishr, wp_iushr, wp_irem, wp_ladd, wp_lsub, wp_lmul, wp_land, wp_lor, wp_lxor, wp_lshl, wp_lshr, wp_lushr, wp_lrem, wp_lcmp, wp_i2l, wp_l2i, wp_dupI, wp_dupA, wp_dup2J, wp_dup2IA, wp_popI, wp_popA, wp_pop2, wp_goto, wp_if_eq, wp_icmp_eq, wp_if_ne, wp_icmp_ne, wp_if_lt, wp_icmp_lt, wp_if_ge, wp_icmp_ge, wp_if_gt, wp_icmp_gt, wp_if_le, wp_icmp_le, wp_ifnull, wp_ifnonnull, wp_acmp_eq, wp_acmp_ne, wp_tableswitch, wp_get0, wp_put0, wp_get1, wp_put1, wp_get2, wp_put2, wp_get3, wp_put3, wp_new, wp_newarray, wp_anewarray, wp_alen, wp_iaload, wp_laload, wp_baload, wp_aaload, wp_iastore, wp_lastore, wp_bastore, wp_aastore, wp_return, wp_ireturnI, wp_ireturnZ, wp_lreturn, wp_areturnO, wp_areturnA, wp_max, wp_min, wp_obj, wp_virt, wp_nil, ld_I0, ld_Is, ld_J0, ld_Js, ld_A0, ld_As, ha_0, ha_s, cx_put1, cx_put2, cx_dl, cx_tgt, true_and, and_true, Nat.reduceAdd, Nat.reduceSub, Int.reduceAdd, Int.reduceNeg, Int.reduceToNat, Int.reduceSub, Int.cast_ofNat_Int, List.take_succ_cons, List.take_zero, List.drop_succ_cons, List.drop_zero, List.take_nil, List.drop_nil, Option.toList_some, Option.toList_none, List.cons_append, List.nil_append, wp_spec, ne_eq, Nat.reduceEqDiff, not_false_eq_true, true_or, or_true, hc, lb1]
  refine cl_X10_writeIn (Nat.le_of_ble_eq_true rfl) hc (by omega) (by omega) (e_X10_writeIn hY H (by omega) ss sr.s9 hu F.a0 (F.pa_ u hu.1 hu.2) ed ew fs.a8 (fun m G km st a0 s1 z1 b1 l2 l3 => ?_))
  have F1 := fx_wrote F hu hv hr eS (i := cq_I h (T s) 16 + 1) (j := nx1 (cq_J h (T s) 8))
  have es1 : ∀ q, cq_s (cq_sI (cq_sJ h (T s) 8 (nx1 (cq_J h (T s) 8))) (T s) 16 (cq_I h (T s) 16 + 1)) q = cq_s h q := fun _ => rfl
  have eA1 : cq_A (cq_sI (cq_sJ h (T s) 8 (nx1 (cq_J h (T s) 8))) (T s) 16 (cq_I h (T s) 16 + 1)) = cq_A h := rfl
  have ncT : c ≠ T s := ns hc ss (by decide)
  have ec1 : cq_I (cq_sI (cq_sJ h (T s) 8 (nx1 (cq_J h (T s) 8))) (T s) 16 (cq_I h (T s) 16 + 1)) c = cq_I h c := by
    funext k
    rw [mm_sI, if_neg (fun q => ncT q.1), mm_IJ]
  have bb : ∀ k, wAll (cq_I h (T s) 5) u v (cq_J h d 1) (cq_J h (T s) 2) (cq_I h (T s) 3) (cq_I h (T s) 4) (cq_J h w 1) (cq_I h (T s) 18) (cq_I h (T s) 16) (cq_I h c 9) (cq_I h tp) (lkC (cq_J h (T s) 8)) k = wrB x g u v s k := fun k => by
    unfold wrB
    rw [sr.gw, jd1, sr.be, jw1, sr.pn, sr.ns, fs.tc, sr.sn]
    rw [wAll_c (ln' := cq_I g (x + 46) s) (on' := cq_I g (x + 47) s) (tp' := cq_I g (x + 61)) (by rw [← fs.tc]; exact i9.1) sr.gl fs.tp_]
  have zz : wp0 (cq_I h (T s) 5) + 13 + cq_I h c 9 + 8 = wrZ x g s := by unfold wrZ; rw [sr.gw, fs.tc]
  have zr : 0 ≤ wrZ x g s ∧ wrZ x g s ≤ 100 := by
    rw [← zz]
    unfold wp0
    split <;> omega
  rw [zz] at z1 b1
  have e40 := sr.ns
  have e32 := sr.sn
  have w1_ : et h (cq_sI (cq_sJ h (T s) 8 (nx1 (cq_J h (T s) 8))) (T s) 16 (cq_I h (T s) 16 + 1)) := et.of rfl rfl rfl
  have j1_ : ∀ d, cq_s h d = 6 → cq_J (cq_sI (cq_sJ h (T s) 8 (nx1 (cq_J h (T s) 8))) (T s) 16 (cq_I h (T s) 16 + 1)) d = cq_J h d := fun d sd6 => by
    funext k
    rw [mm_JI, mm_sJ, if_neg (fun q => by rw [q.1, ss] at sd6; exact absurd sd6 (by decide))]
  generalize cq_sI (cq_sJ h (T s) 8 (nx1 (cq_J h (T s) 8))) (T s) 16 (cq_I h (T s) 16 + 1) = h1 at km F1 es1 eA1 ec1 w1_ j1_
  rw [e40, e32] at F1
  have gc := G.cs
  have hc1 : cq_s h1 c = 9 := by rw [es1]; exact hc
  have gI : cq_I m c = cq_I h c := by rw [km.I hc1 rfl, ec1]
  have gA : cq_A m c = cq_A h c := by rw [km.A hc1 rfl, eA1]
  have sl1 : cq_s h1 lb = 102 := by rw [es1]; exact slb
  have gsl : cq_s m lb = 102 := km.s sl1 (by decide)
  have gzl : cq_z m lb = 80 := G.tz gsl
  have gl : cq_A m c 1 = some lb := by rw [gA]; exact lb1
  have gAl : cq_A m lb = cq_A h lb := by rw [km.A sl1 rfl, eA1]
  have lc := fs.lc
  have l80 := F.l80
  have nc : ¬ c = lb := ns gc gsl (by decide)
  have G1 := G.more gl gsl st (by rw [gI]; omega)
  rw [gI] at G1
  have G2 := G1.sI (a := c) (j := 9) (v := 0) gc (own_9 (by decide)) ⟨by omega, by omega⟩ rfl
  have ft : cq_s h1 h.1 = 99 := by rw [es1]; exact H.al h.1 (Nat.le_refl _)
  have ft1 : cq_s h1 (h.1 + 1) = 99 := by rw [es1]; exact H.al _ (by omega)
  refine bx_X10_write_123 hY (pf2_ok hY) ?_
  simp only [wp_iconst, wp_bipush, wp_sipush, wp_ldc, wp_ldc2_w, wp_lconst0, wp_lconst1, wp_aconst_null, wp_iload_0, wp_istore_0, wp_iload_1, wp_istore_1, wp_iload_2, wp_istore_2, wp_iload_3, wp_istore_3, wp_iload, wp_istore, wp_lload_0, wp_lstore_0, wp_lload_1, wp_lstore_1, wp_lload_2, wp_lstore_2, wp_lload_3, wp_lstore_3, wp_lload, wp_lstore, wp_aload_0, wp_astore_0, wp_aload_1, wp_astore_1, wp_aload_2, wp_astore_2, wp_aload_3, wp_astore_3, wp_aload, wp_astore, wp_iinc, wp_iadd, wp_isub, wp_imul, wp_iand, wp_ior, wp_ixor, wp_ishl, wp_ishr, wp_iushr, wp_irem, wp_ladd, wp_lsub, wp_lmul, wp_land, wp_lor, wp_lxor, wp_lshl, wp_lshr, wp_lushr, wp_lrem, wp_lcmp, wp_i2l, wp_l2i, wp_dupI, wp_dupA, wp_dup2J, wp_dup2IA, wp_popI, wp_popA, wp_pop2, wp_goto, wp_if_eq, wp_icmp_eq, wp_if_ne, wp_icmp_ne, wp_if_lt, wp_icmp_lt, wp_if_ge, wp_icmp_ge, wp_if_gt, wp_icmp_gt, wp_if_le, wp_icmp_le, wp_ifnull, wp_ifnonnull, wp_acmp_eq, wp_acmp_ne, wp_tableswitch, wp_get0, wp_put0, wp_get1, wp_put1, wp_get2, wp_put2, wp_get3, wp_put3, wp_new, wp_newarray, wp_anewarray, wp_alen, wp_iaload, wp_laload, wp_baload, wp_aaload, wp_iastore, wp_lastore, wp_bastore, wp_aastore, wp_return, wp_ireturnI, wp_ireturnZ, wp_lreturn, wp_areturnO, wp_areturnA, wp_max, wp_min, wp_obj, wp_virt, wp_nil, ld_I0, ld_Is, ld_J0, ld_Js, ld_A0, ld_As, ha_0, ha_s, cx_put1, cx_put2, cx_dl, cx_tgt, true_and, and_true, Nat.reduceAdd, Nat.reduceSub, Int.reduceAdd, Int.reduceNeg, Int.reduceToNat, Int.reduceSub, Int.cast_ofNat_Int, List.take_succ_cons, List.take_zero, List.drop_succ_cons, List.drop_zero, List.take_nil, List.drop_nil, Option.toList_some, Option.toList_none, List.cons_append, List.nil_append, wp_spec, ne_eq, Nat.reduceEqDiff, not_false_eq_true, true_or, or_true, gc, gsl, gzl, gI, ra_102, mm_sI, mm_sJ, mm_sA, mm_IJ, mm_IA, mm_JI, mm_JA, mm_AI, mm_AJ, mm_ssI, mm_ssJ, mm_ssA, mm_zI, mm_zJ, mm_zA, mm_nI, mm_nJ, mm_nA, Nat.left_eq_add, Nat.add_eq_left, Nat.add_left_cancel_iff, Nat.reduceEqDiff, Int.reduceEq, false_and, and_false, if_false, if_true, and_self, true_and, true_or, or_true, false_or, or_false, cx_rg]
  (repeat' (with_reducible (first | refine And.intro ?_ ?_ | intro _)))
  all_goals (try omega)
  · exact st
  have ans : cq_I h c 2 + 1 - 1 = cq_I g x 72 := by omega
  rw [ans]
  have nlb : ¬ h.1 = lb := fun z => by rw [z, sl1] at ft; exact absurd ft (by decide)
  have nhc : ¬ h.1 = c := fun z => by rw [z, hc1] at ft; exact absurd ft (by decide)
  have ss1 : cq_s h1 (T s) = 7 := by rw [es1]; exact ss
  have nTl : ¬ T s = lb := ns ss1 sl1 (by decide)
  refine hK _ (fun l => if l = cq_I g x 72 then h.1 else Lf l) G2 (fun g' W => ?_) ⟨fun k w => if_neg w, ?_, ?_⟩ ⟨?_, fun d w => ?_, fun d w => ?_, fun d w => ?_⟩
  rotate_left
  · rw [if_pos rfl]
    simp only [mm_sI, mm_sJ, mm_sA, mm_IJ, mm_IA, mm_JI, mm_JA, mm_AI, mm_AJ, mm_ssI, mm_ssJ, mm_ssA, mm_zI, mm_zJ, mm_zA, mm_nI, mm_nJ, mm_nA, nlb, nTl, Nat.left_eq_add, Nat.add_eq_left, Nat.add_left_cancel_iff, Nat.reduceEqDiff, Int.reduceEq, false_and, and_false, if_false, if_true, and_self, true_and, true_or, or_true, false_or, or_false]
    rw [l2, km.A ss1 rfl, eA1]
  · rw [if_pos rfl]
    simp only [mm_sI, mm_sJ, mm_sA, mm_IJ, mm_IA, mm_JI, mm_JA, mm_AI, mm_AJ, mm_ssI, mm_ssJ, mm_ssA, mm_zI, mm_zJ, mm_zA, mm_nI, mm_nJ, mm_nA, nhc, Nat.left_eq_add, Nat.add_eq_left, Nat.add_left_cancel_iff, Nat.reduceEqDiff, Int.reduceEq, false_and, and_false, if_false, if_true, and_self, true_and, true_or, or_true, false_or, or_false]
    rw [l3]
    exact sr.ns
  · have y := (w1_.trans km.et).sA (a := lb) (j := cq_I h c 2) (v := some h.1) slb (by decide) (by decide)
    exact ⟨y.1, y.2.1, y.2.2⟩
  · have sd7 : cq_s h1 d = 7 := by rw [es1]; exact w
    have nd : ¬ d = lb := ns sd7 sl1 (by decide)
    funext k
    simp only [mm_sI, mm_sJ, mm_sA, mm_IJ, mm_IA, mm_JI, mm_JA, mm_AI, mm_AJ, mm_ssI, mm_ssJ, mm_ssA, mm_zI, mm_zJ, mm_zA, mm_nI, mm_nJ, mm_nA, nd, Nat.left_eq_add, Nat.add_eq_left, Nat.add_left_cancel_iff, Nat.reduceEqDiff, Int.reduceEq, false_and, and_false, if_false, if_true, and_self, true_and, true_or, or_true, false_or, or_false]
    rw [km.A sd7 rfl, eA1]
  · have sd6 : cq_s h1 d = 6 := by rw [es1]; exact w
    rw [mm_JI, mm_JI, mm_JA, km.J sd6 (by decide)]
    exact j1_ d w
  · have sd1 : cq_s h1 d = 1 := by rw [es1]; exact w
    have nd : ¬ d = lb := ns sd1 sl1 (by decide)
    funext k
    simp only [mm_sI, mm_sJ, mm_sA, mm_IJ, mm_IA, mm_JI, mm_JA, mm_AI, mm_AJ, mm_ssI, mm_ssJ, mm_ssA, mm_zI, mm_zJ, mm_zA, mm_nI, mm_nJ, mm_nA, nd, Nat.left_eq_add, Nat.add_eq_left, Nat.add_left_cancel_iff, Nat.reduceEqDiff, Int.reduceEq, false_and, and_false, if_false, if_true, and_self, true_and, true_or, or_true, false_or, or_false]
    rw [km.A sd1 rfl, eA1]
  have nt : ¬ h.1 = lb := fun z => by rw [z, sl1] at ft; exact absurd ft (by decide)
  have nt1 : ¬ h.1 + 1 = c := fun z => by rw [z, hc1] at ft1; exact absurd ft1 (by decide)
  have ex : evx (fun a => a = c ∨ a = lb) h1 (cq_sI (cq_sI (cq_sA m lb (cq_I h c 2) (some h.1)) c 2 (cq_I h c 2 + 1)) c 9 0) := ((km.x.sA (Or.inr rfl)).sI (Or.inl rfl)).sI (Or.inl rfl)
  have eA' : cq_A (cq_sI (cq_sI (cq_sA m lb (cq_I h c 2) (some h.1)) c 2 (cq_I h c 2 + 1)) c 9 0) c = cq_A h1 c := by
    rw [eA1, ← gA]
    funext j
    simp only [mm_sI, mm_sJ, mm_sA, mm_IJ, mm_IA, mm_JI, mm_JA, mm_AI, mm_AJ, mm_ssI, mm_ssJ, mm_ssA, mm_zI, mm_zJ, mm_zA, mm_nI, mm_nJ, mm_nA, nc, Nat.left_eq_add, Nat.add_eq_left, Nat.add_left_cancel_iff, Nat.reduceEqDiff, Int.reduceEq, false_and, and_false, if_false, if_true, and_self, true_and, true_or, or_true, false_or, or_false]
  have eI : ∀ j, j ≠ 2 → j ≠ 9 → cq_I (cq_sI (cq_sI (cq_sA m lb (cq_I h c 2) (some h.1)) c 2 (cq_I h c 2 + 1)) c 9 0) c j = cq_I h c j := fun j w1 w2 => by
    rw [mm_sI, if_neg (fun q => w2 q.2), mm_sI, if_neg (fun q => w1 q.2), mm_IA, gI]
  have i2' : cq_I (cq_sI (cq_sI (cq_sA m lb (cq_I h c 2) (some h.1)) c 2 (cq_I h c 2 + 1)) c 9 0) c 2 = cq_I h c 2 + 1 := by
    rw [mm_sI, if_neg (fun q => absurd q.2 (by decide)), mm_sI, if_pos ⟨rfl, rfl⟩]
  have i9' : cq_I (cq_sI (cq_sI (cq_sA m lb (cq_I h c 2) (some h.1)) c 2 (cq_I h c 2 + 1)) c 9 0) c 9 = 0 := by
    rw [mm_sI, if_pos ⟨rfl, rfl⟩]
  have lbA : ∀ j, cq_A (cq_sI (cq_sI (cq_sA m lb (cq_I h c 2) (some h.1)) c 2 (cq_I h c 2 + 1)) c 9 0) lb j = if j = cq_I g x 72 then some h.1 else cq_A h1 lb j := fun j => by
    rw [eA1, ← gAl]
    simp only [mm_sI, mm_sJ, mm_sA, mm_IJ, mm_IA, mm_JI, mm_JA, mm_AI, mm_AJ, mm_ssI, mm_ssJ, mm_ssA, mm_zI, mm_zJ, mm_zA, mm_nI, mm_nJ, mm_nA, Nat.left_eq_add, Nat.add_eq_left, Nat.add_left_cancel_iff, Nat.reduceEqDiff, Int.reduceEq, false_and, and_false, if_false, if_true, and_self, true_and, true_or, or_true, false_or, or_false]
    rw [lc]
  have tA : cq_A (cq_sI (cq_sI (cq_sA m lb (cq_I h c 2) (some h.1)) c 2 (cq_I h c 2 + 1)) c 9 0) h.1 0 = some (h.1 + 1) := by
    simp only [mm_sI, mm_sJ, mm_sA, mm_IJ, mm_IA, mm_JI, mm_JA, mm_AI, mm_AJ, mm_ssI, mm_ssJ, mm_ssA, mm_zI, mm_zJ, mm_zA, mm_nI, mm_nJ, mm_nA, nt, Nat.left_eq_add, Nat.add_eq_left, Nat.add_left_cancel_iff, Nat.reduceEqDiff, Int.reduceEq, false_and, and_false, if_false, if_true, and_self, true_and, true_or, or_true, false_or, or_false]
    exact a0
  have tI : ∀ k, 0 ≤ k → k < wrZ x g s → cq_I (cq_sI (cq_sI (cq_sA m lb (cq_I h c 2) (some h.1)) c 2 (cq_I h c 2 + 1)) c 9 0) (h.1 + 1) k = wrB x g u v s k := fun k k0 k1 => by
    simp only [mm_sI, mm_sJ, mm_sA, mm_IJ, mm_IA, mm_JI, mm_JA, mm_AI, mm_AJ, mm_ssI, mm_ssJ, mm_ssA, mm_zI, mm_zJ, mm_zA, mm_nI, mm_nJ, mm_nA, nt1, Nat.left_eq_add, Nat.add_eq_left, Nat.add_left_cancel_iff, Nat.reduceEqDiff, Int.reduceEq, false_and, and_false, if_false, if_true, and_self, true_and, true_or, or_true, false_or, or_false]
    rw [b1 k k0 k1]
    exact bb k
  have tz : cq_z (cq_sI (cq_sI (cq_sA m lb (cq_I h c 2) (some h.1)) c 2 (cq_I h c 2 + 1)) c 9 0) (h.1 + 1) = wrZ x g s := z1
  have ts : cq_s (cq_sI (cq_sI (cq_sA m lb (cq_I h c 2) (some h.1)) c 2 (cq_I h c 2 + 1)) c 9 0) h.1 = 2 := st
  have ts1 : cq_s (cq_sI (cq_sI (cq_sA m lb (cq_I h c 2) (some h.1)) c 2 (cq_I h c 2 + 1)) c 9 0) (h.1 + 1) = 100 := s1
  generalize cq_sI (cq_sI (cq_sA m lb (cq_I h c 2) (some h.1)) c 2 (cq_I h c 2 + 1)) c 9 0 = h2 at ex eA' eI i2' i9' lbA tA tI tz ts ts1 ⊢
  -- the reference between
  have gx : ∀ j, cq_I (cq_sI (cq_sJ g (x + 32) s (nx1 (cq_J g (x + 32) s))) (x + 40) s (cq_I g (x + 40) s + 1)) x j = cq_I g x j := fun j => by rw [mm_sI, if_neg (fun q => by omega), mm_IJ]
  have go : ∀ o j, cq_I (cq_sI (cq_sJ g (x + 32) s (nx1 (cq_J g (x + 32) s))) (x + 40) s (cq_I g (x + 40) s + 1)) (x + o) j = if o = 40 ∧ j = s then cq_I g (x + 40) s + 1 else cq_I g (x + o) j := fun o j => by
    rw [mm_sI, mm_IJ]
    by_cases w : o = 40 ∧ j = s
    · rw [if_pos w, if_pos ⟨by omega, w.2⟩]
    · rw [if_neg w, if_neg (fun q => w ⟨by omega, q.2⟩)]
  have gj : ∀ o j, cq_J (cq_sI (cq_sJ g (x + 32) s (nx1 (cq_J g (x + 32) s))) (x + 40) s (cq_I g (x + 40) s + 1)) (x + o) j = if o = 32 ∧ j = s then nx1 (cq_J g (x + 32) s) else cq_J g (x + o) j := fun o j => by
    rw [mm_JI, mm_sJ]
    by_cases w : o = 32 ∧ j = s
    · rw [if_pos w, if_pos ⟨by omega, w.2⟩]
    · rw [if_neg w, if_neg (fun q => w ⟨by omega, q.2⟩)]
  generalize cq_sI (cq_sJ g (x + 32) s (nx1 (cq_J g (x + 32) s))) (x + 40) s (cq_I g (x + 40) s + 1) = g1 at F1 gx go gj
  have Q : CQ x (wrZ x g s) (wrB x g u v s) g1 g' := by
    refine ⟨fun j w1 w2 w3 w4 w5 w6 w7 => by rw [gx]; exact W.x_ j w1 w3 w4 w5 w6 w7, by rw [gx]; exact W.x72, fun o j w1 w2 w3 w4 w5 => ?_, fun o j w1 w2 w3 => ?_, by rw [gx]; exact W.z, fun k k0 k1 => by rw [gx]; exact W.b_ k k0 k1⟩
    · rw [gx] at w4 w5
      rw [go]
      by_cases q : o = 40 ∧ j = s
      · rw [if_pos q, q.1, q.2]
        exact W.i40
      · rw [if_neg q]
        exact W.I_ o j w1 w2 w3 q w4 w5
    · rw [gj]
      by_cases q : o = 32 ∧ j = s
      · rw [if_pos q, q.1, q.2]
        exact W.j32
      · rw [if_neg q]
        exact W.J_ o j w1 w2 w3 q
  have wx : ∀ j, j ≠ 72 → j ≠ 76 → j ≠ 68 → j ≠ 2 → j ≠ 10 → j ≠ 33 → cq_I g' x j = cq_I g x j := W.x_
  have w72 := W.x72
  have w68 := W.x68
  have w65 : ∀ k, cq_I g' (x + 65) k = cq_I g (x + 65) k := fun k => W.I_ 65 k (by decide) (by decide) (by decide) (by omega) (by omega) (by omega)
  clear W
  have FF := fx_more F1 Q zr (by rw [gx]; exact h72) ex (fun a w => w) ft ts ts1 tA tz tI eA' (by rw [gx]; exact lbA) ⟨ex.s F1.fs.s0 (by decide), ex.s F1.fs.s1 (by decide), ex.s F1.fs.s2 (by decide), by rw [eA']; exact F1.fs.a8, by rw [eA']; exact F1.fs.a10, by rw [i2', w72, lc], by rw [eI 3 (by decide) (by decide), wx 73 (by decide) (by decide) (by decide) (by decide) (by decide) (by decide)]; exact fs.cc, by rw [eI 4 (by decide) (by decide), wx 63 (by decide) (by decide) (by decide) (by decide) (by decide) (by decide)]; exact fs.bc, by rw [eI 5 (by decide) (by decide), wx 85 (by decide) (by decide) (by decide) (by decide) (by decide) (by decide)]; exact fs.mc, by rw [eI 6 (by decide) (by decide), wx 84 (by decide) (by decide) (by decide) (by decide) (by decide) (by decide)]; exact fs.oc, by rw [eI 7 (by decide) (by decide), wx 86 (by decide) (by decide) (by decide) (by decide) (by decide) (by decide)]; exact fs.kc, by rw [i9', w68], by rw [eI 11 (by decide) (by decide), wx 75 (by decide) (by decide) (by decide) (by decide) (by decide) (by decide)]; exact fs.rc, fun k k0 k1 => by rw [w68] at k1; omega, fun k k0 k1 => ?_, fun k k0 k1 => by rw [w68] at k1; omega⟩
  · rw [gx] at FF
    exact FF
  · rw [wx 75 (by decide) (by decide) (by decide) (by decide) (by decide) (by decide)] at k1
    have f := F1.fs.rd_ k k0 (by rw [gx]; exact k1)
    rw [go, if_neg (by omega)] at f
    rw [ex.I F1.fs.s2 rfl (fun z => z.elim (ns F1.fs.s2 F1.fs.s0 (by decide)) (ns F1.fs.s2 F1.s1 (by decide))), w65]
    exact f
end
