/-! a SESSION in no row, behind a TURN: what is other -/
section
variable {c x : Nat} {h g h' : cx_Q} {P : Nat → Prop}
theorem tu_ex {a p t q q2 : Nat} {z0 n0 i17 i16 z1 n1 k17 d i0' : Int} {o13 eo R1 R2 eo2 v6 X2 : Int64} {o : Option Nat} {r1 r2 : Int → Int64} (S : sc5 h a) (e : ew (tsW (coD (coR (kpW (trW (kpW (cq_sI h a 5 0) (a + 1) (a + 2) (a + 3) (a + 4) z0 n0 o13 i17 r1) a q i16 eo R1 o) (a + 1) (a + 2) (a + 3) (a + 4) z1 n1 eo2 i0' r2) a v6 k17) p t d) a t q2 R2 X2) h') : evx (scl a) (coD h p t d) h' := by
  have es' : cq_s (tsW (coD (coR (kpW (trW (kpW (cq_sI h a 5 0) (a + 1) (a + 2) (a + 3) (a + 4) z0 n0 o13 i17 r1) a q i16 eo R1 o) (a + 1) (a + 2) (a + 3) (a + 4) z1 n1 eo2 i0' r2) a v6 k17) p t d) a t q2 R2 X2) = cq_s h := by
    rw [tsW_s, coD_s, coR_s, kpW_qs, trW_s, kpW_qs]
    exact Eq.trans rfl rfl
  have ez : cq_z (tsW (coD (coR (kpW (trW (kpW (cq_sI h a 5 0) (a + 1) (a + 2) (a + 3) (a + 4) z0 n0 o13 i17 r1) a q i16 eo R1 o) (a + 1) (a + 2) (a + 3) (a + 4) z1 n1 eo2 i0' r2) a v6 k17) p t d) a t q2 R2 X2) = cq_z h := by
    rw [tsW_z, coD_z, coR_z, kpW_z, trW_z, kpW_z]
    exact Eq.trans rfl rfl
  have oI : ∀ b, ¬ scl a b → cq_I (tsW (coD (coR (kpW (trW (kpW (cq_sI h a 5 0) (a + 1) (a + 2) (a + 3) (a + 4) z0 n0 o13 i17 r1) a q i16 eo R1 o) (a + 1) (a + 2) (a + 3) (a + 4) z1 n1 eo2 i0' r2) a v6 k17) p t d) a t q2 R2 X2) b = cq_I (coD h p t d) b ∧ cq_A (tsW (coD (coR (kpW (trW (kpW (cq_sI h a 5 0) (a + 1) (a + 2) (a + 3) (a + 4) z0 n0 o13 i17 r1) a q i16 eo R1 o) (a + 1) (a + 2) (a + 3) (a + 4) z1 n1 eo2 i0' r2) a v6 k17) p t d) a t q2 R2 X2) b = cq_A (coD h p t d) b ∧ cq_J (tsW (coD (coR (kpW (trW (kpW (cq_sI h a 5 0) (a + 1) (a + 2) (a + 3) (a + 4) z0 n0 o13 i17 r1) a q i16 eo R1 o) (a + 1) (a + 2) (a + 3) (a + 4) z1 n1 eo2 i0' r2) a v6 k17) p t d) a t q2 R2 X2) b = cq_J (coD h p t d) b := by
    intro b w
    have w0 : b ≠ a := fun z => w (Or.inl z)
    have w1 : b ≠ a + 1 := fun z => w (Or.inr (Or.inl z))
    have w2 : b ≠ a + 2 := fun z => w (Or.inr (Or.inr (Or.inl z)))
    have w3 : b ≠ a + 3 := fun z => w (Or.inr (Or.inr (Or.inr (Or.inl z))))
    have w4 : b ≠ a + 4 := fun z => w (Or.inr (Or.inr (Or.inr (Or.inr z))))
    have e5 : cq_I (cq_sI h a 5 0) b = cq_I h b := by
      funext j
      rw [mm_sI, if_neg (fun z => w0 z.1)]
    rw [(tsW_o w0).1, (tsW_o w0).2.1, (tsW_o w0).2.2]
    have cc := coD_c (p := p) (t := t) (i := d) (d := b) (m := coR (kpW (trW (kpW (cq_sI h a 5 0) (a + 1) (a + 2) (a + 3) (a + 4) z0 n0 o13 i17 r1) a q i16 eo R1 o) (a + 1) (a + 2) (a + 3) (a + 4) z1 n1 eo2 i0' r2) a v6 k17) (m' := h) (by rw [(coR_o w0).1, kpW_I w1 w3, (trW_o w0).1, kpW_I w1 w3, e5]) (by rw [coR_A, kpW_qA, (trW_o w0).2.2, kpW_qA]; exact Eq.trans rfl rfl)
    refine ⟨cc.1, cc.2, ?_⟩
    rw [coD_J, coD_J, (coR_o w0).2, kpW_J w2 w4, (trW_o w0).2.1, kpW_J w2 w4]
    exact Eq.trans rfl rfl
  generalize tsW (coD (coR (kpW (trW (kpW (cq_sI h a 5 0) (a + 1) (a + 2) (a + 3) (a + 4) z0 n0 o13 i17 r1) a q i16 eo R1 o) (a + 1) (a + 2) (a + 3) (a + 4) z1 n1 eo2 i0' r2) a v6 k17) p t d) a t q2 R2 X2 = M at e es' ez oI
  have cs : cq_s (coD h p t d) = cq_s h := coD_s
  have cz : cq_z (coD h p t d) = cq_z h := coD_z
  refine evx.trans (h1 := M) ⟨fun b _ => ⟨by rw [es', cs], by rw [ez, cz]⟩, fun b w => ?_, fun b w z => ⟨(oI b z).2.2, fun _ => (oI b z).1, fun _ => (oI b z).2.1⟩⟩ e.x
  refine (oI b (fun z => ?_)).2.2
  have := S.cl z
  rw [cs] at w
  omega
/-- the envelope and the key at hand -/
def EK (x en b op : Nat) (l : Int) (k : Int64) (g h : cx_Q) : Prop := ER x en b l h g ∧ cq_J h op 7 = k ∧ cq_s h op = 3
theorem EK.st {en b op : Nat} {l : Int} {k : Int64} (R : EK x en b op l k g h) (e : evx P h h') (hP : ∀ a, P a → cq_s h a ≠ 0 ∧ cq_s h a ≠ 100 ∧ cq_s h a ≠ 3) : EK x en b op l k g h' := by
  obtain ⟨R, k7, so⟩ := R
  exact ⟨R.ex e (fun z => (hP _ z).1 R.s0) (fun z => (hP _ z).2.1 R.sb), by rw [e.J so (by decide) (fun z => (hP _ z).2.2 so)]; exact k7, e.s so (by decide)⟩
end
section
variable {Y : cx_Y} {K : Option cx_V → cx_Q → Prop} {c : Nat} {n L Z : Int} {E : Nat → Option Int} {h0 : cx_Q} {h : cx_Q}
theorem e_X10_commonWith (hY : cY Y) {o : Option Nat} {v w : Int64} (ho : ∀ b, o = some b → cq_s h b = 6) (hw : ∀ b, o = some b → f_common (cq_J h b 0) v = w) (h0 : o = none → w = Int64.ofInt 0) (hK : K (some (.inr (.inl w))) h) : cw Y mi_X10_commonWith K 0 [some (.inr (.inr o)), some (.inr (.inl v)), none] [] h 0 0 := by
  have j16 : ∀ u, u = w → cw Y mi_X10_commonWith K 16 [some (.inr (.inr o)), some (.inr (.inl v)), none] [.inr (.inl u)] h 0 0 := by
    intro u q
    refine bx_X10_commonWith_16 hY (pf2_ok hY) ?_
    simp only [wp_iconst, wp_bipush, wp_sipush, wp_ldc, wp_ldc2_w, wp_lconst0, wp_lconst1, wp_aconst_null, wp_iload_0, wp_istore_0, wp_iload_1, wp_istore_1, wp_iload_2, wp_istore_2, wp_iload_3, wp_istore_3, wp_iload, wp_istore, wp_lload_0, wp_lstore_0, wp_lload_1, wp_lstore_1, wp_lload_2, wp_lstore_2, wp_lload_3, wp_lstore_3, wp_lload, wp_lstore, wp_aload_0, wp_astore_0, wp_aload_1, wp_astore_1, wp_aload_2, wp_astore_2, wp_aload_3, wp_astore_3, wp_aload, wp_astore, wp_iinc, wp_iadd, wp_isub, wp_imul, wp_iand, wp_ior, wp_ixor, wp_ishl, wp_ishr, wp_iushr, wp_irem, wp_ladd, wp_lsub, wp_lmul, wp_land, wp_lor, wp_lxor, wp_lshl, wp_lshr, wp_lushr, wp_lrem, wp_lcmp, wp_i2l, wp_l2i, wp_dupI, wp_dupA, wp_dup2J, wp_dup2IA, wp_popI, wp_popA, wp_pop2, wp_goto, wp_if_eq, wp_icmp_eq, wp_if_ne, wp_icmp_ne, wp_if_lt, wp_icmp_lt, wp_if_ge, wp_icmp_ge, wp_if_gt, wp_icmp_gt, wp_if_le, wp_icmp_le, wp_ifnull, wp_ifnonnull, wp_acmp_eq, wp_acmp_ne, wp_tableswitch, wp_get0, wp_put0, wp_get1, wp_put1, wp_get2, wp_put2, wp_get3, wp_put3, wp_new, wp_newarray, wp_anewarray, wp_alen, wp_iaload, wp_laload, wp_baload, wp_aaload, wp_iastore, wp_lastore, wp_bastore, wp_aastore, wp_return, wp_ireturnI, wp_ireturnZ, wp_lreturn, wp_areturnO, wp_areturnA, wp_max, wp_min, wp_obj, wp_virt, wp_nil, ld_I0, ld_Is, ld_J0, ld_Js, ld_A0, ld_As, ha_0, ha_s, cx_put1, cx_put2, cx_dl, cx_tgt, true_and, and_true, Nat.reduceAdd, Nat.reduceSub, Int.reduceAdd, Int.reduceNeg, Int.reduceToNat, Int.reduceSub, Int.cast_ofNat_Int, List.take_succ_cons, List.take_zero, List.drop_succ_cons, List.drop_zero, List.take_nil, List.drop_nil, Option.toList_some, Option.toList_none, List.cons_append, List.nil_append, wp_spec, ne_eq, Nat.reduceEqDiff, not_false_eq_true, true_or, or_true]
    rw [q]
    exact hK
  cases o with
  | none =>
    refine bx_X10_commonWith_0 hY (pf2_ok hY) ?_
    simp only [wp_iconst, wp_bipush, wp_sipush, wp_ldc, wp_ldc2_w, wp_lconst0, wp_lconst1, wp_aconst_null, wp_iload_0, wp_istore_0, wp_iload_1, wp_istore_1, wp_iload_2, wp_istore_2, wp_iload_3, wp_istore_3, wp_iload, wp_istore, wp_lload_0, wp_lstore_0, wp_lload_1, wp_lstore_1, wp_lload_2, wp_lstore_2, wp_lload_3, wp_lstore_3, wp_lload, wp_lstore, wp_aload_0, wp_astore_0, wp_aload_1, wp_astore_1, wp_aload_2, wp_astore_2, wp_aload_3, wp_astore_3, wp_aload, wp_astore, wp_iinc, wp_iadd, wp_isub, wp_imul, wp_iand, wp_ior, wp_ixor, wp_ishl, wp_ishr, wp_iushr, wp_irem, wp_ladd, wp_lsub, wp_lmul, wp_land, wp_lor, wp_lxor, wp_lshl, wp_lshr, wp_lushr, wp_lrem, wp_lcmp, wp_i2l, wp_l2i, wp_dupI, wp_dupA, wp_dup2J, wp_dup2IA, wp_popI, wp_popA, wp_pop2, wp_goto, wp_if_eq, wp_icmp_eq, wp_if_ne, wp_icmp_ne, wp_if_lt, wp_icmp_lt, wp_if_ge, wp_icmp_ge, wp_if_gt, wp_icmp_gt, wp_if_le, wp_icmp_le, wp_ifnull, wp_ifnonnull, wp_acmp_eq, wp_acmp_ne, wp_tableswitch, wp_get0, wp_put0, wp_get1, wp_put1, wp_get2, wp_put2, wp_get3, wp_put3, wp_new, wp_newarray, wp_anewarray, wp_alen, wp_iaload, wp_laload, wp_baload, wp_aaload, wp_iastore, wp_lastore, wp_bastore, wp_aastore, wp_return, wp_ireturnI, wp_ireturnZ, wp_lreturn, wp_areturnO, wp_areturnA, wp_max, wp_min, wp_obj, wp_virt, wp_nil, ld_I0, ld_Is, ld_J0, ld_Js, ld_A0, ld_As, ha_0, ha_s, cx_put1, cx_put2, cx_dl, cx_tgt, true_and, and_true, Nat.reduceAdd, Nat.reduceSub, Int.reduceAdd, Int.reduceNeg, Int.reduceToNat, Int.reduceSub, Int.cast_ofNat_Int, List.take_succ_cons, List.take_zero, List.drop_succ_cons, List.drop_zero, List.take_nil, List.drop_nil, Option.toList_some, Option.toList_none, List.cons_append, List.nil_append, wp_spec, ne_eq, Nat.reduceEqDiff, not_false_eq_true, true_or, or_true]
    exact ⟨fun i q => (nomatch q), fun _ => j16 _ (h0 rfl).symm⟩
  | some b =>
    have sb := ho b rfl
    refine bx_X10_commonWith_0 hY (pf2_ok hY) ?_
    simp only [wp_iconst, wp_bipush, wp_sipush, wp_ldc, wp_ldc2_w, wp_lconst0, wp_lconst1, wp_aconst_null, wp_iload_0, wp_istore_0, wp_iload_1, wp_istore_1, wp_iload_2, wp_istore_2, wp_iload_3, wp_istore_3, wp_iload, wp_istore, wp_lload_0, wp_lstore_0, wp_lload_1, wp_lstore_1, wp_lload_2, wp_lstore_2, wp_lload_3, wp_lstore_3, wp_lload, wp_lstore, wp_aload_0, wp_astore_0, wp_aload_1, wp_astore_1, wp_aload_2, wp_astore_2, wp_aload_3, wp_astore_3, wp_aload, wp_astore, wp_iinc, wp_iadd, wp_isub, wp_imul, wp_iand, wp_ior, wp_ixor, wp_ishl, wp_ishr, wp_iushr, wp_irem, wp_ladd, wp_lsub, wp_lmul, wp_land, wp_lor, wp_lxor, wp_lshl, wp_lshr, wp_lushr, wp_lrem, wp_lcmp, wp_i2l, wp_l2i, wp_dupI, wp_dupA, wp_dup2J, wp_dup2IA, wp_popI, wp_popA, wp_pop2, wp_goto, wp_if_eq, wp_icmp_eq, wp_if_ne, wp_icmp_ne, wp_if_lt, wp_icmp_lt, wp_if_ge, wp_icmp_ge, wp_if_gt, wp_icmp_gt, wp_if_le, wp_icmp_le, wp_ifnull, wp_ifnonnull, wp_acmp_eq, wp_acmp_ne, wp_tableswitch, wp_get0, wp_put0, wp_get1, wp_put1, wp_get2, wp_put2, wp_get3, wp_put3, wp_new, wp_newarray, wp_anewarray, wp_alen, wp_iaload, wp_laload, wp_baload, wp_aaload, wp_iastore, wp_lastore, wp_bastore, wp_aastore, wp_return, wp_ireturnI, wp_ireturnZ, wp_lreturn, wp_areturnO, wp_areturnA, wp_max, wp_min, wp_obj, wp_virt, wp_nil, ld_I0, ld_Is, ld_J0, ld_Js, ld_A0, ld_As, ha_0, ha_s, cx_put1, cx_put2, cx_dl, cx_tgt, true_and, and_true, Nat.reduceAdd, Nat.reduceSub, Int.reduceAdd, Int.reduceNeg, Int.reduceToNat, Int.reduceSub, Int.cast_ofNat_Int, List.take_succ_cons, List.take_zero, List.drop_succ_cons, List.drop_zero, List.take_nil, List.drop_nil, Option.toList_some, Option.toList_none, List.cons_append, List.nil_append, wp_spec, ne_eq, Nat.reduceEqDiff, not_false_eq_true, true_or, or_true]
    refine ⟨fun i q => ?_, fun q => (nomatch q)⟩
    refine bx_X10_commonWith_8 hY (pf2_ok hY) ?_
    simp only [wp_iconst, wp_bipush, wp_sipush, wp_ldc, wp_ldc2_w, wp_lconst0, wp_lconst1, wp_aconst_null, wp_iload_0, wp_istore_0, wp_iload_1, wp_istore_1, wp_iload_2, wp_istore_2, wp_iload_3, wp_istore_3, wp_iload, wp_istore, wp_lload_0, wp_lstore_0, wp_lload_1, wp_lstore_1, wp_lload_2, wp_lstore_2, wp_lload_3, wp_lstore_3, wp_lload, wp_lstore, wp_aload_0, wp_astore_0, wp_aload_1, wp_astore_1, wp_aload_2, wp_astore_2, wp_aload_3, wp_astore_3, wp_aload, wp_astore, wp_iinc, wp_iadd, wp_isub, wp_imul, wp_iand, wp_ior, wp_ixor, wp_ishl, wp_ishr, wp_iushr, wp_irem, wp_ladd, wp_lsub, wp_lmul, wp_land, wp_lor, wp_lxor, wp_lshl, wp_lshr, wp_lushr, wp_lrem, wp_lcmp, wp_i2l, wp_l2i, wp_dupI, wp_dupA, wp_dup2J, wp_dup2IA, wp_popI, wp_popA, wp_pop2, wp_goto, wp_if_eq, wp_icmp_eq, wp_if_ne, wp_icmp_ne, wp_if_lt, wp_icmp_lt, wp_if_ge, wp_icmp_ge, wp_if_gt, wp_icmp_gt, wp_if_le, wp_icmp_le, wp_ifnull, wp_ifnonnull, wp_acmp_eq, wp_acmp_ne, wp_tableswitch, wp_get0, wp_put0, wp_get1, wp_put1, wp_get2, wp_put2, wp_get3, wp_put3, wp_new, wp_newarray, wp_anewarray, wp_alen, wp_iaload, wp_laload, wp_baload, wp_aaload, wp_iastore, wp_lastore, wp_bastore, wp_aastore, wp_return, wp_ireturnI, wp_ireturnZ, wp_lreturn, wp_areturnO, wp_areturnA, wp_max, wp_min, wp_obj, wp_virt, wp_nil, ld_I0, ld_Is, ld_J0, ld_Js, ld_A0, ld_As, ha_0, ha_s, cx_put1, cx_put2, cx_dl, cx_tgt, true_and, and_true, Nat.reduceAdd, Nat.reduceSub, Int.reduceAdd, Int.reduceNeg, Int.reduceToNat, Int.reduceSub, Int.cast_ofNat_Int, List.take_succ_cons, List.take_zero, List.drop_succ_cons, List.drop_zero, List.take_nil, List.drop_nil, Option.toList_some, Option.toList_none, List.cons_append, List.nil_append, wp_spec, ne_eq, Nat.reduceEqDiff, not_false_eq_true, true_or, or_true, wf_X3_mix, wf_X3_key, wf_X3_times, wf_X3_timesModuloQ, wf_X3_power, wf_X3_rest, wf_X3_secretOf, wf_X3_sealSum, wf_X3_sum, wf_X3_letterKey, wf_X3_nextOf, wf_X3_isOpen, wf_X3_veil, wf_X3_sealIsRight, cx_sz, cx_c2, cond_true, cond_false, Nat.reduceLeDiff, sb]
    refine j16 _ ?_
    rw [g_power_f]
    exact hw b rfl
/-- a SESSION that the other began, just made: SR0 -/
theorem sr_new {x d r : Nat} {u w s ln : Int} {e root : Int64} {g G m : cx_Q} (H : CI c n L Z E h0 [] h) (Q : GQ x u w s ln e root g G) (hm : CI c n L Z E h0 [] m) (sd : cq_s h d = 6) (k1 : ev (seW (cq_nw h 7 0) h.1 (h.1 + 1) d r 0 root e) m) (w1 : cq_s m (h.1 + 1) = 1) (w2 : cq_I m (h.1 + 1) 4 = 0) (w3 : cq_A m (h.1 + 1) 0 = some (h.1 + 1 + 1)) (w4 : cq_A m (h.1 + 1) 1 = some (h.1 + 1 + 2)) (w5 : cq_A m (h.1 + 1) 2 = some (h.1 + 1 + 3)) : SR0 x h.1 s m G ∧ ev h m ∧ cq_A m h.1 12 = some d := by
  have hal := H.al h.1 (Nat.le_refl _)
  obtain ⟨s2, _, nI, nJ, nA⟩ := nw_n (h := h) (s := 7) (z := 0)
  have k2 : ev h (cq_nw h 7 0) := ev.refl.nw hal
  have es : cq_s (seW (cq_nw h 7 0) h.1 (h.1 + 1) d r 0 root e) = cq_s (cq_nw h 7 0) := Eq.trans rfl rfl
  have k21 : ev h m := by
    refine ev.trans ?_ k1
    unfold seW
    exact (((((((k2.fA hal).fI hal).fI hal).fJ hal).fJ hal).fJ hal).fA hal).fA hal
  have ss1 : cq_s m h.1 = 7 := k1.s (by rw [es]; exact s2) (by decide)
  have a1 : ∀ j, cq_I m h.1 j = 0 := fun j => by
    rw [k1.I (k0 := 7) (by rw [es]; exact s2) rfl]
    unfold seW
    simp only [mm_sI, mm_sJ, mm_sA, mm_IJ, mm_IA, mm_JI, mm_JA, mm_AI, mm_AJ, mm_ssI, mm_ssJ, mm_ssA, mm_zI, mm_zJ, mm_zA, mm_nI, mm_nJ, mm_nA, Nat.left_eq_add, Nat.add_eq_left, Nat.add_left_cancel_iff, Nat.reduceEqDiff, Int.reduceEq, false_and, and_false, if_false, if_true, and_self, true_and, true_or, or_true, false_or, or_false]
    rw [nI]
    split
    · rfl
    · split <;> rfl
  have a2 : ∀ j, cq_J m h.1 j = if j = 2 then e else if j = 6 then root else if j = 1 then root else 0 := fun j => by
    rw [k1.J (k0 := 7) (by rw [es]; exact s2) (by decide)]
    unfold seW
    simp only [mm_sI, mm_sJ, mm_sA, mm_IJ, mm_IA, mm_JI, mm_JA, mm_AI, mm_AJ, mm_ssI, mm_ssJ, mm_ssA, mm_zI, mm_zJ, mm_zA, mm_nI, mm_nJ, mm_nA, Nat.left_eq_add, Nat.add_eq_left, Nat.add_left_cancel_iff, Nat.reduceEqDiff, Int.reduceEq, false_and, and_false, if_false, if_true, and_self, true_and, true_or, or_true, false_or, or_false]
    rw [nJ]
  have a3 : ∀ j, cq_A m h.1 j = if j = 7 then some r else if j = 12 then some d else if j = 19 then some (h.1 + 1) else none := fun j => by
    rw [k1.A (k0 := 7) (by rw [es]; exact s2) rfl]
    unfold seW
    simp only [mm_sI, mm_sJ, mm_sA, mm_IJ, mm_IA, mm_JI, mm_JA, mm_AI, mm_AJ, mm_ssI, mm_ssJ, mm_ssA, mm_zI, mm_zJ, mm_zA, mm_nI, mm_nJ, mm_nA, Nat.left_eq_add, Nat.add_eq_left, Nat.add_left_cancel_iff, Nat.reduceEqDiff, Int.reduceEq, false_and, and_false, if_false, if_true, and_self, true_and, true_or, or_true, false_or, or_false]
    rw [nA]
  have t2 : cq_s m (h.1 + 2) = 171 := hm.ta w1 (own_9 (by decide)) w3
  have t3 : cq_s m (h.1 + 3) = 172 := hm.ta w1 (own_9 (by decide)) w4
  have t4 : cq_s m (h.1 + 4) = 173 := hm.ta w1 (own_9 (by decide)) w5
  refine ⟨⟨ss1, w1, t2, t3, t4, by rw [a3, if_neg (by decide), if_neg (by decide), if_pos rfl], w3, w4, w5, by rw [a1, Q.i44], by rw [a2, if_pos rfl, Q.j45], by rw [a2, if_neg (by decide), if_pos rfl, Q.j31], ⟨fun _ => Q.i35, fun _ => by rw [a3, if_neg (by decide), if_neg (by decide), if_neg (by decide)]⟩, fun z => absurd Q.i35 z, by rw [a2, if_neg (by decide), if_neg (by decide), if_neg (by decide), Q.j38]; rfl, by rw [a1, Q.i39], by rw [a1, Q.i40], by rw [a1, Q.i41], by rw [w2, Q.i53], by rw [Q.i53]; omega, fun k k0 k1 => by rw [Q.i53] at k1; omega⟩, k21, by rw [a3, if_neg (by decide), if_pos rfl]⟩
end
