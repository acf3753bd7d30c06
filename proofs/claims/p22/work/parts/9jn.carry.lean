/-! the class, exactly: an opening is carried out -/
/-- a row with so many more -/
def kpG {α : Type} (f : Int → α) (sz m : Int) (v : Int → α) (r : Int) : α := if sz ≤ r ∧ r < sz + m then v (r - sz) else f r
/-- so many KEPT keys more -/
def kpW (q : cx_Q) (k b0 b1 b2 : Nat) (sz m : Int) (o : Int64) (nr : Int) (key : Int → Int64) : cx_Q := cq_sI (cq_rJ (cq_rI (cq_rJ q b0 (kpG (cq_J q b0) sz m (fun _ => o))) b1 (kpG (cq_I q b1) sz m (fun i => nr + i))) b2 (kpG (cq_J q b2) sz m key)) k 4 (sz + m)
theorem kpG_s {α : Type} {f : Int → α} {sz m r : Int} {v : Int → α} (hm : 0 ≤ m) : kpG f sz (m + 1) v r = if r = sz + m then v m else kpG f sz m v r := by
  unfold kpG
  by_cases w : r = sz + m
  · rw [if_pos w, if_pos (by omega), w]
    have : sz + m - sz = m := by omega
    rw [this]
  · rw [if_neg w]
    by_cases w2 : sz ≤ r ∧ r < sz + m
    · rw [if_pos w2, if_pos (by omega)]
    · rw [if_neg w2, if_neg (by omega)]
theorem kpG_0 {α : Type} {f : Int → α} {sz : Int} {v : Int → α} : kpG f sz 0 v = f := by
  funext r
  unfold kpG
  rw [if_neg (by omega)]
section
variable {Y : cx_Y} {K : Option cx_V → cx_Q → Prop} {c : Nat} {n L Z : Int} {E : Nat → Option Int} {h0 : cx_Q} {X : List Nat} {h : cx_Q}
theorem kpW_qs {k b0 b1 b2 : Nat} {sz m : Int} {o : Int64} {nr : Int} {key : Int → Int64} : cq_s (kpW h k b0 b1 b2 sz m o nr key) = cq_s h := Eq.trans rfl rfl
theorem kpW_qA {k b0 b1 b2 : Nat} {sz m : Int} {o : Int64} {nr : Int} {key : Int → Int64} : cq_A (kpW h k b0 b1 b2 sz m o nr key) = cq_A h := Eq.trans rfl rfl
theorem kpW_I {k b0 b1 b2 d : Nat} {sz m : Int} {o : Int64} {nr : Int} {key : Int → Int64} (h1 : d ≠ k) (h2 : d ≠ b1) : cq_I (kpW h k b0 b1 b2 sz m o nr key) d = cq_I h d := by
  funext r
  unfold kpW
  rw [mm_sI, if_neg (fun e => h1 e.1), rr_IJ, rr_I, if_neg h2, rr_IJ]
theorem kpW_J {k b0 b1 b2 d : Nat} {sz m : Int} {o : Int64} {nr : Int} {key : Int → Int64} (h1 : d ≠ b0) (h2 : d ≠ b2) : cq_J (kpW h k b0 b1 b2 sz m o nr key) d = cq_J h d := by
  unfold kpW
  rw [mm_JI, rr_J, if_neg h2, rr_JI, rr_J, if_neg h1]
theorem kpW_4 {k b0 b1 b2 : Nat} {sz m : Int} {o : Int64} {nr : Int} {key : Int → Int64} : cq_I (kpW h k b0 b1 b2 sz m o nr key) k 4 = sz + m := by
  unfold kpW
  rw [mm_sI, if_pos ⟨rfl, rfl⟩]
theorem kpW_s {k b0 b1 b2 : Nat} {sz m : Int} {o : Int64} {nr : Int} {key : Int → Int64} (hm : 0 ≤ m) (n02 : b0 ≠ b2) (n1 : k ≠ b1) : cq_sI (cq_sJ (cq_sI (cq_sJ (kpW h k b0 b1 b2 sz m o nr key) b0 (sz + m) o) b1 (sz + m) (nr + m)) b2 (sz + m) (key m)) k 4 (sz + m + 1) = kpW h k b0 b1 b2 sz (m + 1) o nr key := by
  have es : sz + m + 1 = sz + (m + 1) := by omega
  refine qext rfl rfl rfl (fun q r => ?_) (fun q r => ?_) (fun q r => rfl)
  · unfold kpW
    simp only [mm_sI, mm_IJ, rr_I, rr_IJ]
    by_cases w : q = k ∧ r = 4
    · rw [if_pos w, if_pos w, es]
    · rw [if_neg w, if_neg w, if_neg w]
      by_cases w1 : q = b1
      · rw [if_pos w1, if_pos w1, kpG_s hm]
        by_cases w2 : r = sz + m
        · rw [if_pos ⟨w1, w2⟩, if_pos w2]
        · rw [if_neg (fun e => w2 e.2), if_neg w2]
      · rw [if_neg (fun e => w1 e.1), if_neg w1, if_neg w1]
  · unfold kpW
    simp only [mm_sJ, mm_JI, rr_J, rr_JI]
    by_cases w2 : q = b2
    · rw [if_pos w2, if_pos w2, kpG_s hm]
      by_cases wk : r = sz + m
      · rw [if_pos ⟨w2, wk⟩, if_pos wk]
      · rw [if_neg (fun e => wk e.2), if_neg wk, if_neg (fun e => n02 (e.1.symm.trans w2))]
    · rw [if_neg (fun e => w2 e.1), if_neg w2, if_neg w2]
      by_cases w0 : q = b0
      · rw [if_pos w0, if_pos w0, kpG_s hm]
        by_cases wk : r = sz + m
        · rw [if_pos ⟨w0, wk⟩, if_pos wk]
        · rw [if_neg (fun e => wk e.2), if_neg wk]
      · rw [if_neg (fun e => w0 e.1), if_neg w0, if_neg w0]
theorem kpW_0 {k b0 b1 b2 : Nat} {sz : Int} {o : Int64} {nr : Int} {key : Int → Int64} (e : sz = cq_I h k 4) : kpW h k b0 b1 b2 sz 0 o nr key = h := by
  unfold kpW
  rw [kpG_0, kpG_0, kpG_0]
  refine qext rfl rfl rfl (fun q r => ?_) (fun q r => ?_) (fun q r => rfl)
  · simp only [mm_sI, rr_IJ, rr_I]
    split
    · rename_i w; rw [w.1, w.2, e]; omega
    · split
      · rename_i w; rw [w]
      · rfl
  · simp only [mm_JI, rr_J, rr_JI]
    split
    · rename_i w; rw [w]
    · split
      · rename_i w; rw [w]
      · rfl
theorem ew.ckp {m m' : cx_Q} (p : ew m m') {k b0 b1 b2 : Nat} {sz mm : Int} {o : Int64} {nr : Int} {key : Int → Int64} (s0 : cq_s m b0 = 171) (s1 : cq_s m b1 = 172) (s2 : cq_s m b2 = 173) : ew (kpW m k b0 b1 b2 sz mm o nr key) (kpW m' k b0 b1 b2 sz mm o nr key) := by
  unfold kpW
  rw [p.J s0 (by decide), p.I s1 rfl, p.J s2 (by decide)]
  (repeat' (first | with_reducible assumption | with_reducible exact ew.refl | with_reducible refine ew.cI ?_ | with_reducible refine ew.cJ ?_ | with_reducible refine ew.cA ?_ | with_reducible refine ew.rI ?_ | with_reducible refine ew.rJ ?_ | with_reducible refine ew.rA ?_))
theorem e_X4_keep (hY : cY Y) {a b s k b0 b1 b2 b3 : Nat} {f m : Int} (H : CI c n L Z E h0 [] h) (hs : cq_s h a = 3) (hss : cq_s h s = 7) (eb : cq_A h a 0 = some b) (ek : cq_A h s 19 = some k) (e0 : cq_A h k 0 = some b0) (e1 : cq_A h k 1 = some b1) (e2 : cq_A h k 2 = some b2) (e3 : cq_A h k 3 = some b3) (hE : E b3 ≠ none) (hf : 0 ≤ f ∧ 0 ≤ m ∧ f + m ≤ 10) (hz : cq_I h k 4 + m ≤ 20) (hK : ∀ g, CI c n L Z E h0 [] g → ew (kpW h k b0 b1 b2 (cq_I h k 4) m (cq_J h s 13) (cq_I h s 17) (fun i => cq_J h b (f + i))) g → e4 h g b3 (kpG (cq_A h b3) (cq_I h k 4) m (fun _ => cq_A h s 11)) → cq_s g = cq_s h → K none g) : cw Y mi_X4_keep K 0 [some (.inr (.inr (some a))), some (.inr (.inr (some s))), some (.inl f), some (.inl m), none] [] h 0 0 := by
  have sk : cq_s h k = 1 := H.ta hss (own_9 (by decide)) ek
  have sb : cq_s h b = 175 := H.ta hs (own_9 (by decide)) eb
  have sb0 : cq_s h b0 = 171 := H.ta sk (own_9 (by decide)) e0
  have sb1 : cq_s h b1 = 172 := H.ta sk (own_9 (by decide)) e1
  have sb2 : cq_s h b2 = 173 := H.ta sk (own_9 (by decide)) e2
  have sb3 : cq_s h b3 = 174 := H.ta sk (own_9 (by decide)) e3
  have ik := H.i1_4 sk
  have i17 := H.i7_17 hss
  have n02 : b0 ≠ b2 := ns sb0 sb2 (by decide)
  have n1 : k ≠ b1 := ns sk sb1 (by decide)
  have loop : ∀ (r : Nat) (i : Int) (g : cx_Q), 0 ≤ i → i + r = m → CI c n L Z E h0 [] g → ew (kpW h k b0 b1 b2 (cq_I h k 4) i (cq_J h s 13) (cq_I h s 17) (fun i => cq_J h b (f + i))) g → e4 h g b3 (kpG (cq_A h b3) (cq_I h k 4) i (fun _ => cq_A h s 11)) → cq_s g = cq_s h → cw Y mi_X4_keep K 3 [some (.inr (.inr (some a))), some (.inr (.inr (some s))), some (.inl f), some (.inl m), some (.inl i)] [] g 0 0 := by
    intro r
    induction r with
    | zero =>
      intro i g h1 h2 G eg e4_ es_
      refine bx_X4_keep_3 hY (pf2_ok hY) ?_
      simp only [wp_iconst, wp_bipush, wp_sipush, wp_ldc, wp_ldc2_w, wp_lconst0, wp_lconst1, wp_aconst_null, wp_iload_0, wp_istore_0, wp_iload_1, wp_istore_1, wp_iload_2, wp_istore_2, wp_iload_3, wp_istore_3, wp_iload, wp_istore, wp_lload_0, wp_lstore_0, wp_lload_1, wp_lstore_1, wp_lload_2, wp_lstore_2, wp_lload_3, wp_lstore_3, wp_lload, wp_lstore, wp_aload_0, wp_astore_0, wp_aload_1, wp_astore_1, wp_aload_2, wp_astore_2, wp_aload_3, wp_astore_3, wp_aload, wp_astore, wp_iinc, wp_iadd, wp_isub, wp_imul, wp_iand, wp_ior, wp_ixor, wp_ishl, wp_ishr, wp_iushr, wp_irem, wp_ladd, wp_lsub, wp_lmul, wp_land, wp_lor, wp_lxor, wp_lshl, wp_lshr, wp_lushr, wp_lrem, wp_lcmp, wp_i2l, wp_l2i, wp_dupI, wp_dupA, wp_dup2J, wp_dup2IA, wp_popI, wp_popA, wp_pop2, wp_goto, wp_if_eq, wp_icmp_eq, wp_if_ne, wp_icmp_ne, wp_if_lt, wp_icmp_lt, wp_if_ge, wp_icmp_ge, wp_if_gt, wp_icmp_gt, wp_if_le, wp_icmp_le, wp_ifnull, wp_ifnonnull, wp_acmp_eq, wp_acmp_ne, wp_tableswitch, wp_get0, wp_put0, wp_get1, wp_put1, wp_get2, wp_put2, wp_get3, wp_put3, wp_new, wp_newarray, wp_anewarray, wp_alen, wp_iaload, wp_laload, wp_baload, wp_aaload, wp_iastore, wp_lastore, wp_bastore, wp_aastore, wp_return, wp_ireturnI, wp_ireturnZ, wp_lreturn, wp_areturnO, wp_areturnA, wp_max, wp_min, wp_obj, wp_virt, wp_nil, ld_I0, ld_Is, ld_J0, ld_Js, ld_A0, ld_As, ha_0, ha_s, cx_put1, cx_put2, cx_dl, cx_tgt, true_and, and_true, Nat.reduceAdd, Nat.reduceSub, Int.reduceAdd, Int.reduceNeg, Int.reduceToNat, Int.reduceSub, Int.cast_ofNat_Int, List.take_succ_cons, List.take_zero, List.drop_succ_cons, List.drop_zero, List.take_nil, List.drop_nil, Option.toList_some, Option.toList_none, List.cons_append, List.nil_append, wp_spec, ne_eq, Nat.reduceEqDiff, not_false_eq_true, true_or, or_true]
      refine ⟨fun _ => ?_, fun q => absurd q (by omega)⟩
      refine bx_X4_keep_58 hY (pf2_ok hY) ?_
      simp only [wp_iconst, wp_bipush, wp_sipush, wp_ldc, wp_ldc2_w, wp_lconst0, wp_lconst1, wp_aconst_null, wp_iload_0, wp_istore_0, wp_iload_1, wp_istore_1, wp_iload_2, wp_istore_2, wp_iload_3, wp_istore_3, wp_iload, wp_istore, wp_lload_0, wp_lstore_0, wp_lload_1, wp_lstore_1, wp_lload_2, wp_lstore_2, wp_lload_3, wp_lstore_3, wp_lload, wp_lstore, wp_aload_0, wp_astore_0, wp_aload_1, wp_astore_1, wp_aload_2, wp_astore_2, wp_aload_3, wp_astore_3, wp_aload, wp_astore, wp_iinc, wp_iadd, wp_isub, wp_imul, wp_iand, wp_ior, wp_ixor, wp_ishl, wp_ishr, wp_iushr, wp_irem, wp_ladd, wp_lsub, wp_lmul, wp_land, wp_lor, wp_lxor, wp_lshl, wp_lshr, wp_lushr, wp_lrem, wp_lcmp, wp_i2l, wp_l2i, wp_dupI, wp_dupA, wp_dup2J, wp_dup2IA, wp_popI, wp_popA, wp_pop2, wp_goto, wp_if_eq, wp_icmp_eq, wp_if_ne, wp_icmp_ne, wp_if_lt, wp_icmp_lt, wp_if_ge, wp_icmp_ge, wp_if_gt, wp_icmp_gt, wp_if_le, wp_icmp_le, wp_ifnull, wp_ifnonnull, wp_acmp_eq, wp_acmp_ne, wp_tableswitch, wp_get0, wp_put0, wp_get1, wp_put1, wp_get2, wp_put2, wp_get3, wp_put3, wp_new, wp_newarray, wp_anewarray, wp_alen, wp_iaload, wp_laload, wp_baload, wp_aaload, wp_iastore, wp_lastore, wp_bastore, wp_aastore, wp_return, wp_ireturnI, wp_ireturnZ, wp_lreturn, wp_areturnO, wp_areturnA, wp_max, wp_min, wp_obj, wp_virt, wp_nil, ld_I0, ld_Is, ld_J0, ld_Js, ld_A0, ld_As, ha_0, ha_s, cx_put1, cx_put2, cx_dl, cx_tgt, true_and, and_true, Nat.reduceAdd, Nat.reduceSub, Int.reduceAdd, Int.reduceNeg, Int.reduceToNat, Int.reduceSub, Int.cast_ofNat_Int, List.take_succ_cons, List.take_zero, List.drop_succ_cons, List.drop_zero, List.take_nil, List.drop_nil, Option.toList_some, Option.toList_none, List.cons_append, List.nil_append, wp_spec, ne_eq, Nat.reduceEqDiff, not_false_eq_true, true_or, or_true]
      have e : i = m := by omega
      rw [e] at eg e4_
      exact hK g G eg e4_ es_
    | succ r ih =>
      intro i g h1 h2 G eg e4_ es_
      have gs : cq_s g a = 3 := eg.s (by rw [kpW_qs]; exact hs) (by decide)
      have gss : cq_s g s = 7 := eg.s (by rw [kpW_qs]; exact hss) (by decide)
      have gsb : cq_s g b = 175 := eg.s (by rw [kpW_qs]; exact sb) (by decide)
      have gz : cq_z g b = 10 := G.tz gsb
      have gsk : cq_s g k = 1 := eg.s (by rw [kpW_qs]; exact sk) (by decide)
      have gb : cq_A g a 0 = some b := by rw [eg.A (k0 := 3) (by rw [kpW_qs]; exact hs) rfl, kpW_qA]; exact eb
      have gk : cq_A g s 19 = some k := by rw [eg.A (k0 := 7) (by rw [kpW_qs]; exact hss) rfl, kpW_qA]; exact ek
      have gkA : cq_A g k = cq_A h k := by rw [eg.A (k0 := 1) (by rw [kpW_qs]; exact sk) rfl, kpW_qA]
      have g11 : cq_A g s 11 = cq_A h s 11 := by rw [eg.A (k0 := 7) (by rw [kpW_qs]; exact hss) rfl, kpW_qA]
      have g17 : cq_I g s 17 = cq_I h s 17 := by rw [eg.I (k0 := 7) (by rw [kpW_qs]; exact hss) rfl, kpW_I (ns hss sk (by decide)) (ns hss sb1 (by decide))]
      have g13 : cq_J g s 13 = cq_J h s 13 := by rw [eg.J (k0 := 7) (by rw [kpW_qs]; exact hss) (by decide), kpW_J (ns hss sb0 (by decide)) (ns hss sb2 (by decide))]
      have gJb : cq_J g b (f + i) = cq_J h b (f + i) := by rw [eg.J (k0 := 175) (by rw [kpW_qs]; exact sb) (by decide), kpW_J (ns sb sb0 (by decide)) (ns sb sb2 (by decide))]
      have g4 : cq_I g k 4 = cq_I h k 4 + i := by rw [eg.I (k0 := 1) (by rw [kpW_qs]; exact sk) rfl, kpW_4]
      refine bx_X4_keep_3 hY (pf2_ok hY) ?_
      simp only [wp_iconst, wp_bipush, wp_sipush, wp_ldc, wp_ldc2_w, wp_lconst0, wp_lconst1, wp_aconst_null, wp_iload_0, wp_istore_0, wp_iload_1, wp_istore_1, wp_iload_2, wp_istore_2, wp_iload_3, wp_istore_3, wp_iload, wp_istore, wp_lload_0, wp_lstore_0, wp_lload_1, wp_lstore_1, wp_lload_2, wp_lstore_2, wp_lload_3, wp_lstore_3, wp_lload, wp_lstore, wp_aload_0, wp_astore_0, wp_aload_1, wp_astore_1, wp_aload_2, wp_astore_2, wp_aload_3, wp_astore_3, wp_aload, wp_astore, wp_iinc, wp_iadd, wp_isub, wp_imul, wp_iand, wp_ior, wp_ixor, wp_ishl, wp_ishr, wp_iushr, wp_irem, wp_ladd, wp_lsub, wp_lmul, wp_land, wp_lor, wp_lxor, wp_lshl, wp_lshr, wp_lushr, wp_lrem, wp_lcmp, wp_i2l, wp_l2i, wp_dupI, wp_dupA, wp_dup2J, wp_dup2IA, wp_popI, wp_popA, wp_pop2, wp_goto, wp_if_eq, wp_icmp_eq, wp_if_ne, wp_icmp_ne, wp_if_lt, wp_icmp_lt, wp_if_ge, wp_icmp_ge, wp_if_gt, wp_icmp_gt, wp_if_le, wp_icmp_le, wp_ifnull, wp_ifnonnull, wp_acmp_eq, wp_acmp_ne, wp_tableswitch, wp_get0, wp_put0, wp_get1, wp_put1, wp_get2, wp_put2, wp_get3, wp_put3, wp_new, wp_newarray, wp_anewarray, wp_alen, wp_iaload, wp_laload, wp_baload, wp_aaload, wp_iastore, wp_lastore, wp_bastore, wp_aastore, wp_return, wp_ireturnI, wp_ireturnZ, wp_lreturn, wp_areturnO, wp_areturnA, wp_max, wp_min, wp_obj, wp_virt, wp_nil, ld_I0, ld_Is, ld_J0, ld_Js, ld_A0, ld_As, ha_0, ha_s, cx_put1, cx_put2, cx_dl, cx_tgt, true_and, and_true, Nat.reduceAdd, Nat.reduceSub, Int.reduceAdd, Int.reduceNeg, Int.reduceToNat, Int.reduceSub, Int.cast_ofNat_Int, List.take_succ_cons, List.take_zero, List.drop_succ_cons, List.drop_zero, List.take_nil, List.drop_nil, Option.toList_some, Option.toList_none, List.cons_append, List.nil_append, wp_spec, ne_eq, Nat.reduceEqDiff, not_false_eq_true, true_or, or_true, gs, gss, gb, gsb, gz, gk, ra_175, cx_rg, g17, g13, gJb]
      refine ⟨fun q => absurd q (by omega), fun _ => ⟨by omega, by omega, fun q => absurd q (by omega), fun q => ?_⟩⟩
      refine ⟨by omega, by omega, by omega, ?_⟩
      refine cl_X1_keep (Nat.le_of_ble_eq_true rfl) gsk (Nat.le_refl _) (Nat.le_refl _) (e_X1_keep hY G List.not_mem_nil gsk (by rw [gkA]; exact e0) (by rw [gkA]; exact e1) (by rw [gkA]; exact e2) (by rw [gkA]; exact e3) hE (fun b' q' => G.ta (j := 11) gss (own_9 (by decide)) q') (by omega) (fun g2 G2 k2 f2 s2_ => ?_))
      rw [g4] at k2 f2
      rw [g11] at f2
      refine bx_X4_keep_52 hY (pf2_ok hY) ?_
      simp only [wp_iconst, wp_bipush, wp_sipush, wp_ldc, wp_ldc2_w, wp_lconst0, wp_lconst1, wp_aconst_null, wp_iload_0, wp_istore_0, wp_iload_1, wp_istore_1, wp_iload_2, wp_istore_2, wp_iload_3, wp_istore_3, wp_iload, wp_istore, wp_lload_0, wp_lstore_0, wp_lload_1, wp_lstore_1, wp_lload_2, wp_lstore_2, wp_lload_3, wp_lstore_3, wp_lload, wp_lstore, wp_aload_0, wp_astore_0, wp_aload_1, wp_astore_1, wp_aload_2, wp_astore_2, wp_aload_3, wp_astore_3, wp_aload, wp_astore, wp_iinc, wp_iadd, wp_isub, wp_imul, wp_iand, wp_ior, wp_ixor, wp_ishl, wp_ishr, wp_iushr, wp_irem, wp_ladd, wp_lsub, wp_lmul, wp_land, wp_lor, wp_lxor, wp_lshl, wp_lshr, wp_lushr, wp_lrem, wp_lcmp, wp_i2l, wp_l2i, wp_dupI, wp_dupA, wp_dup2J, wp_dup2IA, wp_popI, wp_popA, wp_pop2, wp_goto, wp_if_eq, wp_icmp_eq, wp_if_ne, wp_icmp_ne, wp_if_lt, wp_icmp_lt, wp_if_ge, wp_icmp_ge, wp_if_gt, wp_icmp_gt, wp_if_le, wp_icmp_le, wp_ifnull, wp_ifnonnull, wp_acmp_eq, wp_acmp_ne, wp_tableswitch, wp_get0, wp_put0, wp_get1, wp_put1, wp_get2, wp_put2, wp_get3, wp_put3, wp_new, wp_newarray, wp_anewarray, wp_alen, wp_iaload, wp_laload, wp_baload, wp_aaload, wp_iastore, wp_lastore, wp_bastore, wp_aastore, wp_return, wp_ireturnI, wp_ireturnZ, wp_lreturn, wp_areturnO, wp_areturnA, wp_max, wp_min, wp_obj, wp_virt, wp_nil, ld_I0, ld_Is, ld_J0, ld_Js, ld_A0, ld_As, ha_0, ha_s, cx_put1, cx_put2, cx_dl, cx_tgt, true_and, and_true, Nat.reduceAdd, Nat.reduceSub, Int.reduceAdd, Int.reduceNeg, Int.reduceToNat, Int.reduceSub, Int.cast_ofNat_Int, List.take_succ_cons, List.take_zero, List.drop_succ_cons, List.drop_zero, List.take_nil, List.drop_nil, Option.toList_some, Option.toList_none, List.cons_append, List.nil_append, wp_spec, ne_eq, Nat.reduceEqDiff, not_false_eq_true, true_or, or_true, cx_rg]
      refine ⟨by omega, ih (i + 1) g2 (by omega) (by omega) G2 ?_ (fun d sd => ?_) (s2_.trans es_)⟩
      · rw [← kpW_s h1 n02 n1]
        refine ew.trans ?_ k2
        (repeat' (first | with_reducible assumption | with_reducible exact ew.refl | with_reducible refine ew.cI ?_ | with_reducible refine ew.cJ ?_ | with_reducible refine ew.cA ?_ | with_reducible refine ew.rI ?_ | with_reducible refine ew.rJ ?_ | with_reducible refine ew.rA ?_))
      · rw [f2 d (eg.s (by rw [kpW_qs]; exact sd) (by decide)), e4_ d sd]
        by_cases e : d = b3
        · rw [if_pos e, if_pos e]
          funext r
          rw [kpG_s h1, e4_ b3 sb3, if_pos rfl]
        · rw [if_neg e, if_neg e, if_neg e]
  refine bx_X4_keep_0 hY (pf2_ok hY) ?_
  simp only [wp_iconst, wp_bipush, wp_sipush, wp_ldc, wp_ldc2_w, wp_lconst0, wp_lconst1, wp_aconst_null, wp_iload_0, wp_istore_0, wp_iload_1, wp_istore_1, wp_iload_2, wp_istore_2, wp_iload_3, wp_istore_3, wp_iload, wp_istore, wp_lload_0, wp_lstore_0, wp_lload_1, wp_lstore_1, wp_lload_2, wp_lstore_2, wp_lload_3, wp_lstore_3, wp_lload, wp_lstore, wp_aload_0, wp_astore_0, wp_aload_1, wp_astore_1, wp_aload_2, wp_astore_2, wp_aload_3, wp_astore_3, wp_aload, wp_astore, wp_iinc, wp_iadd, wp_isub, wp_imul, wp_iand, wp_ior, wp_ixor, wp_ishl, wp_ishr, wp_iushr, wp_irem, wp_ladd, wp_lsub, wp_lmul, wp_land, wp_lor, wp_lxor, wp_lshl, wp_lshr, wp_lushr, wp_lrem, wp_lcmp, wp_i2l, wp_l2i, wp_dupI, wp_dupA, wp_dup2J, wp_dup2IA, wp_popI, wp_popA, wp_pop2, wp_goto, wp_if_eq, wp_icmp_eq, wp_if_ne, wp_icmp_ne, wp_if_lt, wp_icmp_lt, wp_if_ge, wp_icmp_ge, wp_if_gt, wp_icmp_gt, wp_if_le, wp_icmp_le, wp_ifnull, wp_ifnonnull, wp_acmp_eq, wp_acmp_ne, wp_tableswitch, wp_get0, wp_put0, wp_get1, wp_put1, wp_get2, wp_put2, wp_get3, wp_put3, wp_new, wp_newarray, wp_anewarray, wp_alen, wp_iaload, wp_laload, wp_baload, wp_aaload, wp_iastore, wp_lastore, wp_bastore, wp_aastore, wp_return, wp_ireturnI, wp_ireturnZ, wp_lreturn, wp_areturnO, wp_areturnA, wp_max, wp_min, wp_obj, wp_virt, wp_nil, ld_I0, ld_Is, ld_J0, ld_Js, ld_A0, ld_As, ha_0, ha_s, cx_put1, cx_put2, cx_dl, cx_tgt, true_and, and_true, Nat.reduceAdd, Nat.reduceSub, Int.reduceAdd, Int.reduceNeg, Int.reduceToNat, Int.reduceSub, Int.cast_ofNat_Int, List.take_succ_cons, List.take_zero, List.drop_succ_cons, List.drop_zero, List.take_nil, List.drop_nil, Option.toList_some, Option.toList_none, List.cons_append, List.nil_append, wp_spec, ne_eq, Nat.reduceEqDiff, not_false_eq_true, true_or, or_true]
  refine loop m.toNat 0 h (by omega) (by omega) H ?_ (fun d sd => ?_) rfl
  · rw [kpW_0 rfl]
    exact ew.refl
  · rw [kpG_0]
    by_cases e : d = b3
    · rw [if_pos e, e]
    · rw [if_neg e]
end
