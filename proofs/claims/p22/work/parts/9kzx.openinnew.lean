/-! class and reference side by side: a first letter comes -/
section
variable {Y : cx_Y} {K : Option cx_V → cx_Q → Prop} {c x : Nat} {n L Z : Int} {E : Nat → Option Int} {h0 : cx_Q} {h g G : cx_Q} {pe : Int → Nat} {ro : Int → Int → Nat} {pa lb tp rd en op ob : Nat} {T Lf : Int → Nat}
/-- nothing of turns, SESSIONS or SECRETS is other -/
def WN (h h' : cx_Q) : Prop := et h h' ∧ (∀ d, cq_s h d = 7 ∨ cq_s h d = 174 → cq_A h' d = cq_A h d)
theorem ox_et {a d : Nat} {h h' : cx_Q} (o : ox a d h h') : et h h' := et.of o.2.1 o.2.2.1 o.2.2.2.1
theorem WN.refl {h : cx_Q} : WN h h := ⟨et.refl, fun _ _ => rfl⟩
theorem ev.wn {h h' : cx_Q} (k : ev h h') : WN h h' := ⟨k.et, fun d y => y.elim (fun z => k.A z rfl) (fun z => k.A z rfl)⟩
theorem WN.trans {h h1 h2 : cx_Q} (p : WN h h1) (q : WN h1 h2) : WN h h2 := ⟨p.1.trans q.1, fun d y => (q.2 d (y.elim (fun z => Or.inl ((p.1.1 d (by rw [z]; decide)).1.trans z)) (fun z => Or.inr ((p.1.1 d (by rw [z]; decide)).1.trans z)))).trans (p.2 d y)⟩
theorem oq.wn {h h' : cx_Q} (q : oq h h') : WN h h' := ⟨et.of q.1 q.2.1 q.2.2.1, fun d _ => by rw [q.2.2.1]⟩
theorem WN.q {h h1 h2 : cx_Q} (p : WN h h1) (q : oq h1 h2) : WN h h2 := p.trans q.wn
/-- from the ROOT on -/
theorem on_made (hY : cY Y) {b d : Nat} {oc : Option Nat} {u v s l ln on : Int} {e root : Int64} (H : CI c n L Z E h0 [] h) (hZ : Z ≤ 900000) (F : FX c x n pe ro pa lb tp rd en op ob T Lf h g) (R : ER x en b l h g) (Q : GQ x u (6 * u + v) s ln e root g G) (hs : s = m_slotN g x (6 * u + v)) (hu : 0 ≤ u ∧ u < n) (hv : 0 ≤ v ∧ v < n) (ev_ : cq_I g (x + 62) (100 * l + 1) = v) (hb : cq_I g (x + 62) (100 * l) = 1) (eln : (m_bytes g x 19 2).toInt32.toInt = ln) (eon : (m_bytes g x 21 2).toInt32.toInt = on) (ee : m_bytes g x 11 8 = e) (hU : cq_I g (x + 11) u ≠ 0) (sd : cq_s h d = 6) (jd0 : cq_J h d 0 = cq_J g (x + 17) (21 * u + ln)) (hoc : ∀ b, oc = some b → cq_s h b = 6) (h81 : 0 ≤ cq_I g x 81) (h58 : cq_I g (x + 58) u < 100) (h85 : cq_I g x 85 < 100) (hon : on = 0 ∨ (1 ≤ on ∧ on ≤ cq_I g (x + 23) u)) (hC : E c = none) (hE4 : ∀ d, d ≠ c → cq_s h0 d ≠ 4 → cq_s h0 d ≠ 1 → E d ≠ none) (hP : uE pe n h0)
    (hF : m_openA G x l s ≠ 0 → ∀ m h', 1 ≤ m → m ≤ 10 → CI c n L (Z + 1) E h0 [] h' → FX c x n pe ro pa lb tp rd en op ob T Lf h' g → ER x en b l h' g → WN h h' → K (some (.inl m)) h')
    (hK : m_openA G x l s = 0 → ∀ h' T', CI c n L (Z + 1) E h0 [] h' → FX c x n pe ro pa lb tp rd en op ob T' Lf h' (bk x g (m_cfD (m_openQ G x u s) x u s ln on e)) → EK x en b op l (m_cfK g x u ln root) g h' → (T' = fun q => if q = s then h.1 else T q) → NX c x pe u (m_bytes g x 3 8) e g h.1 d oc h h' → K (some (.inl 0)) h')
    (m : cx_Q) (G1 : CI c n L Z E h0 [] m) (S1 : SR0 x h.1 s m G) (k21 : ev h m) (e12 : cq_A m h.1 12 = some d) (e15 : cq_A m (h.1 + 1) 3 = some (h.1 + 5)) : cw Y mi_X10_openInNew K 167 [some (.inr (.inr (some c))), some (.inr (.inr (some (pe u)))), some (.inr (.inr (some d))), some (.inr (.inr oc)), some (.inr (.inl root)), none, none, none] [.inr (.inr (some h.1))] m 11 283 := by
  have hal := H.al h.1 (Nat.le_refl _)
  have F1 := F.ev k21
  have R1 := R.ex (P := fun _ => False) k21.x id id
  have RG := R1.gq Q
  obtain ⟨ek, et, eb, eh, ec, e0, ey⟩ := cfG_v Q
  have cA := cfG_A (l := l) Q
  have gc1 := G1.cs
  have jw0 : cq_J m d 0 = cq_J G (x + 36) s := by rw [k21.J sd (by decide), jd0, Q.j36]
  have ht : (1 : Int) = cT (cq_I m h.1 15) (cq_J m en 9) (cq_J m h.1 13) := by rw [pl_t S1 RG]; exact et.symm
  have hkf : (-1 : Int) = kfi m (h.1 + 2) (h.1 + 3) (cq_J m en 9) (cq_I m en 11) (cq_I m (h.1 + 1) 4).toNat 0 := by rw [pl_kf S1 RG, ek, if_pos rfl]
  have pk := pl_ok S1 RG (w := d) (t := 1) (kf := -1) jw0 et.symm (by rw [ek, if_pos rfl])
  have ol := pl_old S1 RG (t := 1) (Or.inr rfl)
  rw [eb, eh] at ol
  have ch := pl_ch S1 RG (w := d) (t := 1) (Or.inr rfl) jw0 (fun q => absurd q.1 (by decide))
  rw [e0] at ch
  have key := pl_key S1 RG (w := d) (t := 1) (Or.inr rfl) jw0 (fun q => absurd q.1 (by decide))
  rw [ey] at key
  have com : f_common (cq_J m d 0) (cq_J m en 9) = f_common (cq_J g (x + 17) (21 * u + ln)) (cq_J g x 79) := by rw [jw0, Q.j36, R1.op]
  have rt1 := S1.rt
  rw [Q.j31] at rt1
  have fr : ∀ u' v' i, 0 ≤ u' → u' < n → 0 ≤ v' → v' < n → 0 ≤ i → i < cq_I g (x + 30) (6 * u' + v') → T (cq_I g (x + 29) (4 * (6 * u' + v') + i)) ≠ h.1 := fun u' v' i y1 y2 y3 y4 y5 y6 z => by
    have := ((F.fo u' v' y1 y2 y3 y4).ss i y5 y6).s0
    rw [z, hal] at this
    exact absurd this (by decide)
  refine bx_X10_openInNew_167 hY (pf2_ok hY) ?_
  simp only [wp_iconst, wp_bipush, wp_sipush, wp_ldc, wp_ldc2_w, wp_lconst0, wp_lconst1, wp_aconst_null, wp_iload_0, wp_istore_0, wp_iload_1, wp_istore_1, wp_iload_2, wp_istore_2, wp_iload_3, wp_istore_3, wp_iload, wp_istore, wp_lload_0, wp_lstore_0, wp_lload_1, wp_lstore_1, wp_lload_2, wp_lstore_2, wp_lload_3, wp_lstore_3, wp_lload, wp_lstore, wp_aload_0, wp_astore_0, wp_aload_1, wp_astore_1, wp_aload_2, wp_astore_2, wp_aload_3, wp_astore_3, wp_aload, wp_astore, wp_iinc, wp_iadd, wp_isub, wp_imul, wp_iand, wp_ior, wp_ixor, wp_ishl, wp_ishr, wp_iushr, wp_irem, wp_ladd, wp_lsub, wp_lmul, wp_land, wp_lor, wp_lxor, wp_lshl, wp_lshr, wp_lushr, wp_lrem, wp_lcmp, wp_i2l, wp_l2i, wp_dupI, wp_dupA, wp_dup2J, wp_dup2IA, wp_popI, wp_popA, wp_pop2, wp_goto, wp_if_eq, wp_icmp_eq, wp_if_ne, wp_icmp_ne, wp_if_lt, wp_icmp_lt, wp_if_ge, wp_icmp_ge, wp_if_gt, wp_icmp_gt, wp_if_le, wp_icmp_le, wp_ifnull, wp_ifnonnull, wp_acmp_eq, wp_acmp_ne, wp_tableswitch, wp_get0, wp_put0, wp_get1, wp_put1, wp_get2, wp_put2, wp_get3, wp_put3, wp_new, wp_newarray, wp_anewarray, wp_alen, wp_iaload, wp_laload, wp_baload, wp_aaload, wp_iastore, wp_lastore, wp_bastore, wp_aastore, wp_return, wp_ireturnI, wp_ireturnZ, wp_lreturn, wp_areturnO, wp_areturnA, wp_max, wp_min, wp_obj, wp_virt, wp_nil, ld_I0, ld_Is, ld_J0, ld_Js, ld_A0, ld_As, ha_0, ha_s, cx_put1, cx_put2, cx_dl, cx_tgt, true_and, and_true, Nat.reduceAdd, Nat.reduceSub, Int.reduceAdd, Int.reduceNeg, Int.reduceToNat, Int.reduceSub, Int.cast_ofNat_Int, List.take_succ_cons, List.take_zero, List.drop_succ_cons, List.drop_zero, List.take_nil, List.drop_nil, Option.toList_some, Option.toList_none, List.cons_append, List.nil_append, wp_spec, ne_eq, Nat.reduceEqDiff, not_false_eq_true, true_or, or_true, gc1, F1.a13, F1.a12]
  refine cl_X4_plan (Nat.le_of_ble_eq_true rfl) F1.s13 (by omega) (by omega) (e_X4_plan hY G1 F1.s13 S1.s0 F1.s12 F1.aob S1.a19 S1.k0 S1.k1 S1.k2 e12 ht hkf rfl rfl (fun m2 g2 y1 y2 G2 o no => ?_) (fun k0 _ _ _ _ _ _ _ => absurd k0 (by decide)) (fun _ cs tg g2 G2 o i1 i2 i3 i4 j5 j6 j7 a1 a2 => ?_))
  · have no' : m_openA G x l s ≠ 0 := fun z => no (pk.mpr z)
    have F2 := F1.ox o
    have R2 := R1.ox o F1.s13 F1.sob
    have gc2 := G2.cs
    obtain ⟨nt, ent, snt⟩ := G2.g9_14 gc2 List.not_mem_nil
    refine bx_X10_openInNew_182 hY (pf2_ok hY) ?_
    simp only [wp_iconst, wp_bipush, wp_sipush, wp_ldc, wp_ldc2_w, wp_lconst0, wp_lconst1, wp_aconst_null, wp_iload_0, wp_istore_0, wp_iload_1, wp_istore_1, wp_iload_2, wp_istore_2, wp_iload_3, wp_istore_3, wp_iload, wp_istore, wp_lload_0, wp_lstore_0, wp_lload_1, wp_lstore_1, wp_lload_2, wp_lstore_2, wp_lload_3, wp_lstore_3, wp_lload, wp_lstore, wp_aload_0, wp_astore_0, wp_aload_1, wp_astore_1, wp_aload_2, wp_astore_2, wp_aload_3, wp_astore_3, wp_aload, wp_astore, wp_iinc, wp_iadd, wp_isub, wp_imul, wp_iand, wp_ior, wp_ixor, wp_ishl, wp_ishr, wp_iushr, wp_irem, wp_ladd, wp_lsub, wp_lmul, wp_land, wp_lor, wp_lxor, wp_lshl, wp_lshr, wp_lushr, wp_lrem, wp_lcmp, wp_i2l, wp_l2i, wp_dupI, wp_dupA, wp_dup2J, wp_dup2IA, wp_popI, wp_popA, wp_pop2, wp_goto, wp_if_eq, wp_icmp_eq, wp_if_ne, wp_icmp_ne, wp_if_lt, wp_icmp_lt, wp_if_ge, wp_icmp_ge, wp_if_gt, wp_icmp_gt, wp_if_le, wp_icmp_le, wp_ifnull, wp_ifnonnull, wp_acmp_eq, wp_acmp_ne, wp_tableswitch, wp_get0, wp_put0, wp_get1, wp_put1, wp_get2, wp_put2, wp_get3, wp_put3, wp_new, wp_newarray, wp_anewarray, wp_alen, wp_iaload, wp_laload, wp_baload, wp_aaload, wp_iastore, wp_lastore, wp_bastore, wp_aastore, wp_return, wp_ireturnI, wp_ireturnZ, wp_lreturn, wp_areturnO, wp_areturnA, wp_max, wp_min, wp_obj, wp_virt, wp_nil, ld_I0, ld_Is, ld_J0, ld_Js, ld_A0, ld_As, ha_0, ha_s, cx_put1, cx_put2, cx_dl, cx_tgt, true_and, and_true, Nat.reduceAdd, Nat.reduceSub, Int.reduceAdd, Int.reduceNeg, Int.reduceToNat, Int.reduceSub, Int.cast_ofNat_Int, List.take_succ_cons, List.take_zero, List.drop_succ_cons, List.drop_zero, List.take_nil, List.drop_nil, Option.toList_some, Option.toList_none, List.cons_append, List.nil_append, wp_spec, ne_eq, Nat.reduceEqDiff, not_false_eq_true, true_or, or_true, gc2, F2.a12, F2.s12, ent]
    refine ⟨fun _ => ?_, fun q => absurd q (by omega)⟩
    refine bx_X10_openInNew_313 hY (pf2_ok hY) ?_
    simp only [wp_iconst, wp_bipush, wp_sipush, wp_ldc, wp_ldc2_w, wp_lconst0, wp_lconst1, wp_aconst_null, wp_iload_0, wp_istore_0, wp_iload_1, wp_istore_1, wp_iload_2, wp_istore_2, wp_iload_3, wp_istore_3, wp_iload, wp_istore, wp_lload_0, wp_lstore_0, wp_lload_1, wp_lstore_1, wp_lload_2, wp_lstore_2, wp_lload_3, wp_lstore_3, wp_lload, wp_lstore, wp_aload_0, wp_astore_0, wp_aload_1, wp_astore_1, wp_aload_2, wp_astore_2, wp_aload_3, wp_astore_3, wp_aload, wp_astore, wp_iinc, wp_iadd, wp_isub, wp_imul, wp_iand, wp_ior, wp_ixor, wp_ishl, wp_ishr, wp_iushr, wp_irem, wp_ladd, wp_lsub, wp_lmul, wp_land, wp_lor, wp_lxor, wp_lshl, wp_lshr, wp_lushr, wp_lrem, wp_lcmp, wp_i2l, wp_l2i, wp_dupI, wp_dupA, wp_dup2J, wp_dup2IA, wp_popI, wp_popA, wp_pop2, wp_goto, wp_if_eq, wp_icmp_eq, wp_if_ne, wp_icmp_ne, wp_if_lt, wp_icmp_lt, wp_if_ge, wp_icmp_ge, wp_if_gt, wp_icmp_gt, wp_if_le, wp_icmp_le, wp_ifnull, wp_ifnonnull, wp_acmp_eq, wp_acmp_ne, wp_tableswitch, wp_get0, wp_put0, wp_get1, wp_put1, wp_get2, wp_put2, wp_get3, wp_put3, wp_new, wp_newarray, wp_anewarray, wp_alen, wp_iaload, wp_laload, wp_baload, wp_aaload, wp_iastore, wp_lastore, wp_bastore, wp_aastore, wp_return, wp_ireturnI, wp_ireturnZ, wp_lreturn, wp_areturnO, wp_areturnA, wp_max, wp_min, wp_obj, wp_virt, wp_nil, ld_I0, ld_Is, ld_J0, ld_Js, ld_A0, ld_As, ha_0, ha_s, cx_put1, cx_put2, cx_dl, cx_tgt, true_and, and_true, Nat.reduceAdd, Nat.reduceSub, Int.reduceAdd, Int.reduceNeg, Int.reduceToNat, Int.reduceSub, Int.cast_ofNat_Int, List.take_succ_cons, List.take_zero, List.drop_succ_cons, List.drop_zero, List.take_nil, List.drop_nil, Option.toList_some, Option.toList_none, List.cons_append, List.nil_append, wp_spec, ne_eq, Nat.reduceEqDiff, not_false_eq_true, true_or, or_true]
    exact hF no' m2 g2 y1 y2 (G2.up (by omega)) F2 R2 ((k21.wn).q (o.q F1.s13 F1.sob))
  · have ok : m_openA G x l s = 0 := pk.mp (Or.inr ⟨rfl, cs, tg⟩)
    have n10 : cq_I g x 81 ≤ 10 := by
      rw [cA] at ok
      by_cases z : 10 < cq_I g x 81
      · rw [if_pos z] at ok; exact absurd ok (by decide)
      · omega
    have F2 := F1.ox o
    have R2 := R1.ox o F1.s13 F1.sob
    have so := F1.s13
    have sob := F1.sob
    have S1c := S1
    have nop : ∀ {q w : Nat}, cq_s m q = w → w ≠ 3 → q ≠ op := fun {q w} y1 y2 z => y2 (by rw [← y1, z, so])
    have nob : ∀ {q w : Nat}, cq_s m q = w → w ≠ 175 → q ≠ ob := fun {q w} y1 y2 z => y2 (by rw [← y1, z, sob])
    have S2 : SR0 x h.1 s g2 G := S1.fr (fun q _ => by rw [o.2.1]) (o.2.2.2.2.1 _ (nop S1.s0 (by decide))) (o.2.2.2.2.2 _ (nop S1.s0 (by decide)) (nob S1.s0 (by decide))) (fun j _ => by rw [o.2.2.2.1]) (o.2.2.2.2.1 _ (nop S1.s1 (by decide))) (by rw [o.2.2.2.1]) (o.2.2.2.2.2 _ (nop S1.s2 (by decide)) (nob S1.s2 (by decide))) (o.2.2.2.2.1 _ (nop S1.s3 (by decide))) (o.2.2.2.2.2 _ (nop S1.s4 (by decide)) (nob S1.s4 (by decide)))
    rw [ol.1] at i3 a2
    rw [ol.2] at i4
    rw [ol.2, ch] at j6
    rw [ol.2, ch] at a2
    rw [key] at j7
    have j5' := j5 rfl
    rw [rt1, com] at j5'
    have sd2 : cq_s g2 d = 6 := by rw [o.2.1]; exact k21.s sd (by decide)
    refine on_tail hY G2 hZ F2 ⟨R2, j7, F2.s13⟩ S2 Q hs fr hu hv ev_ hb eln eon ee hU sd2 (fun b w => by rw [o.2.1]; exact k21.s (hoc b w) (by decide)) ⟨h81, n10⟩ h58 h85 hon i1 i2 i3 i4 j5' j6 (fun i y0 y1 => ?_) (by rw [o.2.2.2.1]; exact e12) (by rw [o.2.2.2.1]; exact e15) hC hE4 hP (fun h' T' C' F' R' eT' nx => hK ok h' T' C' F' R' eT' (nx.hh (k21.et.trans (ox_et o)) (fun q y => by rw [o.2.2.2.1]; exact y.elim (fun z => k21.A z rfl) (fun z => k21.A z rfl)) (fun q y => by rw [(o.q F1.s13 F1.sob).2.2.2 q (k21.s y (by decide))]; exact k21.J y (by decide)) H.cs (by rw [o.2.2.2.1, k21.A H.cs rfl]) (by rw [o.2.2.2.1, k21.A (F.fu u hu.1 hu.2).s0 rfl])))
    have y := a2 i y0 y1
    rw [Int.zero_add] at y
    exact y
theorem f_X10_openInNew (hY : cY Y) {b : Nat} {u v l ln on : Int} {who e : Int64} (H : CI c n L Z E h0 [] h) (hZ : Z ≤ 900000) (F : FX c x n pe ro pa lb tp rd en op ob T Lf h g) (R : ER x en b l h g) (hu : 0 ≤ u ∧ u < n) (hv : 0 ≤ v ∧ v < n) (ev_ : cq_I g (x + 62) (100 * l + 1) = v) (hb : cq_I g (x + 62) (100 * l) = 1) (eln : (m_bytes g x 19 2).toInt32.toInt = ln) (eon : (m_bytes g x 21 2).toInt32.toInt = on) (ewho : m_bytes g x 3 8 = who) (ee : m_bytes g x 11 8 = e) (hU : cq_I g (x + 11) u ≠ 0) (o0 : 0 ≤ on) (h81 : 0 ≤ cq_I g x 81) (h58 : cq_I g (x + 58) u < 100) (h85 : cq_I g x 85 ≤ 100) (hC : E c = none) (hE4 : ∀ d, d ≠ c → cq_s h0 d ≠ 4 → cq_s h0 d ≠ 1 → E d ≠ none) (hP : uE pe n h0)
    (hF : m_cfA1 g x l u ln on who e ≠ 0 → ∀ m h', 1 ≤ m → m ≤ 10 → CI c n L (Z + 1) E h0 [] h' → FX c x n pe ro pa lb tp rd en op ob T Lf h' g → ER x en b l h' g → WN h h' → K (some (.inl m)) h')
    (hK : m_cfA1 g x l u ln on who e = 0 → ∀ h' T', CI c n L (Z + 1) E h0 [] h' → FX c x n pe ro pa lb tp rd en op ob T' Lf h' (bk x g (m_cfQ0 g x u v ln on who e)) → EK x en b op l (m_cfK g x u ln (m_cfR g x u ln on who e)) g h' → (∃ a d oc s, (T' = fun q => if q = s then a else T q) ∧ s = m_slotN g x (6 * u + v) ∧ cq_s h a = 99 ∧ cq_A h (pe u + 1) ln = some d ∧ ((oc = none ↔ on = 0) ∧ (on ≠ 0 → oc = cq_A h (pe u + 2) on)) ∧ NX c x pe u who e g a d oc h h') → K (some (.inl 0)) h') : cw Y mi_X10_openInNew K 0 [some (.inr (.inr (some c))), some (.inr (.inr (some (pe u)))), none, none, none, none, none, none] [] h 17 388 := by
  have hc := H.cs
  have H1 := H.up (Z' := Z + 1) (by omega)
  have fu := F.fu u hu.1 hu.2
  have fo := F.fo u v hu.1 hu.2 hv.1 hv.2
  have sp := fu.s0
  have nb := R.nb hb
  rw [ewho, ee, eln, eon] at nb
  obtain ⟨di, edi, sdi, jdi0, jdi1, _⟩ := fu.n1 hU
  have lnf := fu.ln
  have onf := fu.on
  have mcf := F.fs.mc
  refine bx_X10_openInNew_0 hY (pf2_ok hY) ?_
  simp only [wp_iconst, wp_bipush, wp_sipush, wp_ldc, wp_ldc2_w, wp_lconst0, wp_lconst1, wp_aconst_null, wp_iload_0, wp_istore_0, wp_iload_1, wp_istore_1, wp_iload_2, wp_istore_2, wp_iload_3, wp_istore_3, wp_iload, wp_istore, wp_lload_0, wp_lstore_0, wp_lload_1, wp_lstore_1, wp_lload_2, wp_lstore_2, wp_lload_3, wp_lstore_3, wp_lload, wp_lstore, wp_aload_0, wp_astore_0, wp_aload_1, wp_astore_1, wp_aload_2, wp_astore_2, wp_aload_3, wp_astore_3, wp_aload, wp_astore, wp_iinc, wp_iadd, wp_isub, wp_imul, wp_iand, wp_ior, wp_ixor, wp_ishl, wp_ishr, wp_iushr, wp_irem, wp_ladd, wp_lsub, wp_lmul, wp_land, wp_lor, wp_lxor, wp_lshl, wp_lshr, wp_lushr, wp_lrem, wp_lcmp, wp_i2l, wp_l2i, wp_dupI, wp_dupA, wp_dup2J, wp_dup2IA, wp_popI, wp_popA, wp_pop2, wp_goto, wp_if_eq, wp_icmp_eq, wp_if_ne, wp_icmp_ne, wp_if_lt, wp_icmp_lt, wp_if_ge, wp_icmp_ge, wp_if_gt, wp_icmp_gt, wp_if_le, wp_icmp_le, wp_ifnull, wp_ifnonnull, wp_acmp_eq, wp_acmp_ne, wp_tableswitch, wp_get0, wp_put0, wp_get1, wp_put1, wp_get2, wp_put2, wp_get3, wp_put3, wp_new, wp_newarray, wp_anewarray, wp_alen, wp_iaload, wp_laload, wp_baload, wp_aaload, wp_iastore, wp_lastore, wp_bastore, wp_aastore, wp_return, wp_ireturnI, wp_ireturnZ, wp_lreturn, wp_areturnO, wp_areturnA, wp_max, wp_min, wp_obj, wp_virt, wp_nil, ld_I0, ld_Is, ld_J0, ld_Js, ld_A0, ld_As, ha_0, ha_s, cx_put1, cx_put2, cx_dl, cx_tgt, true_and, and_true, Nat.reduceAdd, Nat.reduceSub, Int.reduceAdd, Int.reduceNeg, Int.reduceToNat, Int.reduceSub, Int.cast_ofNat_Int, List.take_succ_cons, List.take_zero, List.drop_succ_cons, List.drop_zero, List.take_nil, List.drop_nil, Option.toList_some, Option.toList_none, List.cons_append, List.nil_append, wp_spec, ne_eq, Nat.reduceEqDiff, not_false_eq_true, true_or, or_true, hc, F.a12, F.s12, nb.2.2.1]
  refine cl_X5_keptLentKey (Nat.le_of_ble_eq_true rfl) sp (by omega) (by omega) (e_X5_keptLentKey hY H sp fu.a8 (fun no => ?_) (fun m1 m2 m3 => ?_))
  · have no' : m_cfA1 g x l u ln on who e ≠ 0 := by
      have c1 : ln < 1 ∨ cq_I g (x + 16) u < ln ∨ ln < cq_I g (x + 16) u - 1 := by omega
      unfold m_cfA1
      rw [if_pos c1]
      decide
    refine bx_X10_openInNew_11 hY (pf2_ok hY) ?_
    simp only [wp_iconst, wp_bipush, wp_sipush, wp_ldc, wp_ldc2_w, wp_lconst0, wp_lconst1, wp_aconst_null, wp_iload_0, wp_istore_0, wp_iload_1, wp_istore_1, wp_iload_2, wp_istore_2, wp_iload_3, wp_istore_3, wp_iload, wp_istore, wp_lload_0, wp_lstore_0, wp_lload_1, wp_lstore_1, wp_lload_2, wp_lstore_2, wp_lload_3, wp_lstore_3, wp_lload, wp_lstore, wp_aload_0, wp_astore_0, wp_aload_1, wp_astore_1, wp_aload_2, wp_astore_2, wp_aload_3, wp_astore_3, wp_aload, wp_astore, wp_iinc, wp_iadd, wp_isub, wp_imul, wp_iand, wp_ior, wp_ixor, wp_ishl, wp_ishr, wp_iushr, wp_irem, wp_ladd, wp_lsub, wp_lmul, wp_land, wp_lor, wp_lxor, wp_lshl, wp_lshr, wp_lushr, wp_lrem, wp_lcmp, wp_i2l, wp_l2i, wp_dupI, wp_dupA, wp_dup2J, wp_dup2IA, wp_popI, wp_popA, wp_pop2, wp_goto, wp_if_eq, wp_icmp_eq, wp_if_ne, wp_icmp_ne, wp_if_lt, wp_icmp_lt, wp_if_ge, wp_icmp_ge, wp_if_gt, wp_icmp_gt, wp_if_le, wp_icmp_le, wp_ifnull, wp_ifnonnull, wp_acmp_eq, wp_acmp_ne, wp_tableswitch, wp_get0, wp_put0, wp_get1, wp_put1, wp_get2, wp_put2, wp_get3, wp_put3, wp_new, wp_newarray, wp_anewarray, wp_alen, wp_iaload, wp_laload, wp_baload, wp_aaload, wp_iastore, wp_lastore, wp_bastore, wp_aastore, wp_return, wp_ireturnI, wp_ireturnZ, wp_lreturn, wp_areturnO, wp_areturnA, wp_max, wp_min, wp_obj, wp_virt, wp_nil, ld_I0, ld_Is, ld_J0, ld_Js, ld_A0, ld_As, ha_0, ha_s, cx_put1, cx_put2, cx_dl, cx_tgt, true_and, and_true, Nat.reduceAdd, Nat.reduceSub, Int.reduceAdd, Int.reduceNeg, Int.reduceToNat, Int.reduceSub, Int.cast_ofNat_Int, List.take_succ_cons, List.take_zero, List.drop_succ_cons, List.drop_zero, List.take_nil, List.drop_nil, Option.toList_some, Option.toList_none, List.cons_append, List.nil_append, wp_spec, ne_eq, Nat.reduceEqDiff, not_false_eq_true, true_or, or_true]
    exact ⟨fun i q => (nomatch q), fun _ => hF no' _ h (by omega) (by omega) H1 F R WN.refl⟩
  obtain ⟨d, ed, sd, jd0, jd1⟩ := fu.lk ln m1 (by omega)
  rw [ed]
  have c1 : ¬ (ln < 1 ∨ cq_I g (x + 16) u < ln ∨ ln < cq_I g (x + 16) u - 1) := by omega
  have A1 : m_cfA1 g x l u ln on who e = if m_cfH g x u ln e ≠ -2 then 9 else m_cfA2 g x l u ln on who e := by
    unfold m_cfA1
    rw [if_neg c1]
  clear c1
  refine bx_X10_openInNew_11 hY (pf2_ok hY) ?_
  simp only [wp_iconst, wp_bipush, wp_sipush, wp_ldc, wp_ldc2_w, wp_lconst0, wp_lconst1, wp_aconst_null, wp_iload_0, wp_istore_0, wp_iload_1, wp_istore_1, wp_iload_2, wp_istore_2, wp_iload_3, wp_istore_3, wp_iload, wp_istore, wp_lload_0, wp_lstore_0, wp_lload_1, wp_lstore_1, wp_lload_2, wp_lstore_2, wp_lload_3, wp_lstore_3, wp_lload, wp_lstore, wp_aload_0, wp_astore_0, wp_aload_1, wp_astore_1, wp_aload_2, wp_astore_2, wp_aload_3, wp_astore_3, wp_aload, wp_astore, wp_iinc, wp_iadd, wp_isub, wp_imul, wp_iand, wp_ior, wp_ixor, wp_ishl, wp_ishr, wp_iushr, wp_irem, wp_ladd, wp_lsub, wp_lmul, wp_land, wp_lor, wp_lxor, wp_lshl, wp_lshr, wp_lushr, wp_lrem, wp_lcmp, wp_i2l, wp_l2i, wp_dupI, wp_dupA, wp_dup2J, wp_dup2IA, wp_popI, wp_popA, wp_pop2, wp_goto, wp_if_eq, wp_icmp_eq, wp_if_ne, wp_icmp_ne, wp_if_lt, wp_icmp_lt, wp_if_ge, wp_icmp_ge, wp_if_gt, wp_icmp_gt, wp_if_le, wp_icmp_le, wp_ifnull, wp_ifnonnull, wp_acmp_eq, wp_acmp_ne, wp_tableswitch, wp_get0, wp_put0, wp_get1, wp_put1, wp_get2, wp_put2, wp_get3, wp_put3, wp_new, wp_newarray, wp_anewarray, wp_alen, wp_iaload, wp_laload, wp_baload, wp_aaload, wp_iastore, wp_lastore, wp_bastore, wp_aastore, wp_return, wp_ireturnI, wp_ireturnZ, wp_lreturn, wp_areturnO, wp_areturnA, wp_max, wp_min, wp_obj, wp_virt, wp_nil, ld_I0, ld_Is, ld_J0, ld_Js, ld_A0, ld_As, ha_0, ha_s, cx_put1, cx_put2, cx_dl, cx_tgt, true_and, and_true, Nat.reduceAdd, Nat.reduceSub, Int.reduceAdd, Int.reduceNeg, Int.reduceToNat, Int.reduceSub, Int.cast_ofNat_Int, List.take_succ_cons, List.take_zero, List.drop_succ_cons, List.drop_zero, List.take_nil, List.drop_nil, Option.toList_some, Option.toList_none, List.cons_append, List.nil_append, wp_spec, ne_eq, Nat.reduceEqDiff, not_false_eq_true, true_or, or_true]
  refine ⟨fun i _ => ?_, fun q => (nomatch q)⟩
  refine bx_X10_openInNew_19 hY (pf2_ok hY) ?_
  simp only [wp_iconst, wp_bipush, wp_sipush, wp_ldc, wp_ldc2_w, wp_lconst0, wp_lconst1, wp_aconst_null, wp_iload_0, wp_istore_0, wp_iload_1, wp_istore_1, wp_iload_2, wp_istore_2, wp_iload_3, wp_istore_3, wp_iload, wp_istore, wp_lload_0, wp_lstore_0, wp_lload_1, wp_lstore_1, wp_lload_2, wp_lstore_2, wp_lload_3, wp_lstore_3, wp_lload, wp_lstore, wp_aload_0, wp_astore_0, wp_aload_1, wp_astore_1, wp_aload_2, wp_astore_2, wp_aload_3, wp_astore_3, wp_aload, wp_astore, wp_iinc, wp_iadd, wp_isub, wp_imul, wp_iand, wp_ior, wp_ixor, wp_ishl, wp_ishr, wp_iushr, wp_irem, wp_ladd, wp_lsub, wp_lmul, wp_land, wp_lor, wp_lxor, wp_lshl, wp_lshr, wp_lushr, wp_lrem, wp_lcmp, wp_i2l, wp_l2i, wp_dupI, wp_dupA, wp_dup2J, wp_dup2IA, wp_popI, wp_popA, wp_pop2, wp_goto, wp_if_eq, wp_icmp_eq, wp_if_ne, wp_icmp_ne, wp_if_lt, wp_icmp_lt, wp_if_ge, wp_icmp_ge, wp_if_gt, wp_icmp_gt, wp_if_le, wp_icmp_le, wp_ifnull, wp_ifnonnull, wp_acmp_eq, wp_acmp_ne, wp_tableswitch, wp_get0, wp_put0, wp_get1, wp_put1, wp_get2, wp_put2, wp_get3, wp_put3, wp_new, wp_newarray, wp_anewarray, wp_alen, wp_iaload, wp_laload, wp_baload, wp_aaload, wp_iastore, wp_lastore, wp_bastore, wp_aastore, wp_return, wp_ireturnI, wp_ireturnZ, wp_lreturn, wp_areturnO, wp_areturnA, wp_max, wp_min, wp_obj, wp_virt, wp_nil, ld_I0, ld_Is, ld_J0, ld_Js, ld_A0, ld_As, ha_0, ha_s, cx_put1, cx_put2, cx_dl, cx_tgt, true_and, and_true, Nat.reduceAdd, Nat.reduceSub, Int.reduceAdd, Int.reduceNeg, Int.reduceToNat, Int.reduceSub, Int.cast_ofNat_Int, List.take_succ_cons, List.take_zero, List.drop_succ_cons, List.drop_zero, List.take_nil, List.drop_nil, Option.toList_some, Option.toList_none, List.cons_append, List.nil_append, wp_spec, ne_eq, Nat.reduceEqDiff, not_false_eq_true, true_or, or_true, hc, F.a12, F.s12, nb.2.1, nb.2.2.1]
  refine cl_X5_hasSeen (Nat.le_of_ble_eq_true rfl) sp (by omega) (by omega) (e_X5_hasSeen hY H sp fu.a14 fu.a15 (fun no => ?_) (fun yes => ?_))
  rotate_left
  · have no' : m_cfA1 g x l u ln on who e ≠ 0 := by
      rw [A1, if_pos (hs_some fu yes)]
      decide
    refine bx_X10_openInNew_37 hY (pf2_ok hY) ?_
    simp only [wp_iconst, wp_bipush, wp_sipush, wp_ldc, wp_ldc2_w, wp_lconst0, wp_lconst1, wp_aconst_null, wp_iload_0, wp_istore_0, wp_iload_1, wp_istore_1, wp_iload_2, wp_istore_2, wp_iload_3, wp_istore_3, wp_iload, wp_istore, wp_lload_0, wp_lstore_0, wp_lload_1, wp_lstore_1, wp_lload_2, wp_lstore_2, wp_lload_3, wp_lstore_3, wp_lload, wp_lstore, wp_aload_0, wp_astore_0, wp_aload_1, wp_astore_1, wp_aload_2, wp_astore_2, wp_aload_3, wp_astore_3, wp_aload, wp_astore, wp_iinc, wp_iadd, wp_isub, wp_imul, wp_iand, wp_ior, wp_ixor, wp_ishl, wp_ishr, wp_iushr, wp_irem, wp_ladd, wp_lsub, wp_lmul, wp_land, wp_lor, wp_lxor, wp_lshl, wp_lshr, wp_lushr, wp_lrem, wp_lcmp, wp_i2l, wp_l2i, wp_dupI, wp_dupA, wp_dup2J, wp_dup2IA, wp_popI, wp_popA, wp_pop2, wp_goto, wp_if_eq, wp_icmp_eq, wp_if_ne, wp_icmp_ne, wp_if_lt, wp_icmp_lt, wp_if_ge, wp_icmp_ge, wp_if_gt, wp_icmp_gt, wp_if_le, wp_icmp_le, wp_ifnull, wp_ifnonnull, wp_acmp_eq, wp_acmp_ne, wp_tableswitch, wp_get0, wp_put0, wp_get1, wp_put1, wp_get2, wp_put2, wp_get3, wp_put3, wp_new, wp_newarray, wp_anewarray, wp_alen, wp_iaload, wp_laload, wp_baload, wp_aaload, wp_iastore, wp_lastore, wp_bastore, wp_aastore, wp_return, wp_ireturnI, wp_ireturnZ, wp_lreturn, wp_areturnO, wp_areturnA, wp_max, wp_min, wp_obj, wp_virt, wp_nil, ld_I0, ld_Is, ld_J0, ld_Js, ld_A0, ld_As, ha_0, ha_s, cx_put1, cx_put2, cx_dl, cx_tgt, true_and, and_true, Nat.reduceAdd, Nat.reduceSub, Int.reduceAdd, Int.reduceNeg, Int.reduceToNat, Int.reduceSub, Int.cast_ofNat_Int, List.take_succ_cons, List.take_zero, List.drop_succ_cons, List.drop_zero, List.take_nil, List.drop_nil, Option.toList_some, Option.toList_none, List.cons_append, List.nil_append, wp_spec, ne_eq, Nat.reduceEqDiff, not_false_eq_true, true_or, or_true]
    refine ⟨fun w => absurd w (by decide), fun _ => hF no' _ h (by omega) (by omega) H1 F R WN.refl⟩
  have A2 : m_cfA1 g x l u ln on who e = m_cfA2 g x l u ln on who e := by
    rw [A1, if_neg (fun z => z (hs_none fu no))]
  clear A1 no
  refine bx_X10_openInNew_37 hY (pf2_ok hY) ?_
  simp only [wp_iconst, wp_bipush, wp_sipush, wp_ldc, wp_ldc2_w, wp_lconst0, wp_lconst1, wp_aconst_null, wp_iload_0, wp_istore_0, wp_iload_1, wp_istore_1, wp_iload_2, wp_istore_2, wp_iload_3, wp_istore_3, wp_iload, wp_istore, wp_lload_0, wp_lstore_0, wp_lload_1, wp_lstore_1, wp_lload_2, wp_lstore_2, wp_lload_3, wp_lstore_3, wp_lload, wp_lstore, wp_aload_0, wp_astore_0, wp_aload_1, wp_astore_1, wp_aload_2, wp_astore_2, wp_aload_3, wp_astore_3, wp_aload, wp_astore, wp_iinc, wp_iadd, wp_isub, wp_imul, wp_iand, wp_ior, wp_ixor, wp_ishl, wp_ishr, wp_iushr, wp_irem, wp_ladd, wp_lsub, wp_lmul, wp_land, wp_lor, wp_lxor, wp_lshl, wp_lshr, wp_lushr, wp_lrem, wp_lcmp, wp_i2l, wp_l2i, wp_dupI, wp_dupA, wp_dup2J, wp_dup2IA, wp_popI, wp_popA, wp_pop2, wp_goto, wp_if_eq, wp_icmp_eq, wp_if_ne, wp_icmp_ne, wp_if_lt, wp_icmp_lt, wp_if_ge, wp_icmp_ge, wp_if_gt, wp_icmp_gt, wp_if_le, wp_icmp_le, wp_ifnull, wp_ifnonnull, wp_acmp_eq, wp_acmp_ne, wp_tableswitch, wp_get0, wp_put0, wp_get1, wp_put1, wp_get2, wp_put2, wp_get3, wp_put3, wp_new, wp_newarray, wp_anewarray, wp_alen, wp_iaload, wp_laload, wp_baload, wp_aaload, wp_iastore, wp_lastore, wp_bastore, wp_aastore, wp_return, wp_ireturnI, wp_ireturnZ, wp_lreturn, wp_areturnO, wp_areturnA, wp_max, wp_min, wp_obj, wp_virt, wp_nil, ld_I0, ld_Is, ld_J0, ld_Js, ld_A0, ld_As, ha_0, ha_s, cx_put1, cx_put2, cx_dl, cx_tgt, true_and, and_true, Nat.reduceAdd, Nat.reduceSub, Int.reduceAdd, Int.reduceNeg, Int.reduceToNat, Int.reduceSub, Int.cast_ofNat_Int, List.take_succ_cons, List.take_zero, List.drop_succ_cons, List.drop_zero, List.take_nil, List.drop_nil, Option.toList_some, Option.toList_none, List.cons_append, List.nil_append, wp_spec, ne_eq, Nat.reduceEqDiff, not_false_eq_true, true_or, or_true]
  refine ⟨fun _ => ?_, fun w => absurd trivial w⟩
  have c54 : ∀ oc : Option Nat, (∀ b, oc = some b → (cq_s h b = 6 ∧ cq_J h b 0 = cq_J g (x + 24) (61 * u + on)) ∧ cq_A h (pe u + 2) on = some b) → (oc = none ↔ ¬ (1 ≤ on ∧ on ≤ cq_I g (x + 23) u ∧ cq_I g (x + 28) (61 * u + on) ≠ 0)) → cw Y mi_X10_openInNew K 54 [some (.inr (.inr (some c))), some (.inr (.inr (some (pe u)))), some (.inr (.inr (some d))), none, none, none, none, none] [.inr (.inr oc)] h 17 388 := by
    intro oc hoc hn
    have j72 : ¬ (on ≠ 0 ∧ (cq_I g (x + 23) u < on ∨ cq_I g (x + 28) (61 * u + on) = 0)) → cw Y mi_X10_openInNew K 72 [some (.inr (.inr (some c))), some (.inr (.inr (some (pe u)))), some (.inr (.inr (some d))), some (.inr (.inr oc)), none, none, none, none] [] h 17 388 := by
      intro nbad
      unfold m_cfA2 at A2
      rw [if_neg nbad] at A2
      refine bx_X10_openInNew_72 hY (pf2_ok hY) ?_
      simp only [wp_iconst, wp_bipush, wp_sipush, wp_ldc, wp_ldc2_w, wp_lconst0, wp_lconst1, wp_aconst_null, wp_iload_0, wp_istore_0, wp_iload_1, wp_istore_1, wp_iload_2, wp_istore_2, wp_iload_3, wp_istore_3, wp_iload, wp_istore, wp_lload_0, wp_lstore_0, wp_lload_1, wp_lstore_1, wp_lload_2, wp_lstore_2, wp_lload_3, wp_lstore_3, wp_lload, wp_lstore, wp_aload_0, wp_astore_0, wp_aload_1, wp_astore_1, wp_aload_2, wp_astore_2, wp_aload_3, wp_astore_3, wp_aload, wp_astore, wp_iinc, wp_iadd, wp_isub, wp_imul, wp_iand, wp_ior, wp_ixor, wp_ishl, wp_ishr, wp_iushr, wp_irem, wp_ladd, wp_lsub, wp_lmul, wp_land, wp_lor, wp_lxor, wp_lshl, wp_lshr, wp_lushr, wp_lrem, wp_lcmp, wp_i2l, wp_l2i, wp_dupI, wp_dupA, wp_dup2J, wp_dup2IA, wp_popI, wp_popA, wp_pop2, wp_goto, wp_if_eq, wp_icmp_eq, wp_if_ne, wp_icmp_ne, wp_if_lt, wp_icmp_lt, wp_if_ge, wp_icmp_ge, wp_if_gt, wp_icmp_gt, wp_if_le, wp_icmp_le, wp_ifnull, wp_ifnonnull, wp_acmp_eq, wp_acmp_ne, wp_tableswitch, wp_get0, wp_put0, wp_get1, wp_put1, wp_get2, wp_put2, wp_get3, wp_put3, wp_new, wp_newarray, wp_anewarray, wp_alen, wp_iaload, wp_laload, wp_baload, wp_aaload, wp_iastore, wp_lastore, wp_bastore, wp_aastore, wp_return, wp_ireturnI, wp_ireturnZ, wp_lreturn, wp_areturnO, wp_areturnA, wp_max, wp_min, wp_obj, wp_virt, wp_nil, ld_I0, ld_Is, ld_J0, ld_Js, ld_A0, ld_As, ha_0, ha_s, cx_put1, cx_put2, cx_dl, cx_tgt, true_and, and_true, Nat.reduceAdd, Nat.reduceSub, Int.reduceAdd, Int.reduceNeg, Int.reduceToNat, Int.reduceSub, Int.cast_ofNat_Int, List.take_succ_cons, List.take_zero, List.drop_succ_cons, List.drop_zero, List.take_nil, List.drop_nil, Option.toList_some, Option.toList_none, List.cons_append, List.nil_append, wp_spec, ne_eq, Nat.reduceEqDiff, not_false_eq_true, true_or, or_true, hc]
      refine ⟨fun lt => ?_, fun ge => ?_⟩
      rotate_left
      · have e100 : cq_I g x 85 = 100 := by omega
        have no' : m_cfA1 g x l u ln on who e ≠ 0 := by
          rw [A2, if_pos e100]
          decide
        exact hF no' _ h (by omega) (by omega) H1 F R WN.refl
      have n100 : ¬ cq_I g x 85 = 100 := by omega
      rw [if_neg n100] at A2
      -- the SESSION's memory
      have Q := cfG_q (x := x) (g := g) (u := u) (w := 6 * u + v) (ln := ln) (on := on) (e := e) (root := m_cfR g x u ln on who e) fo.r4
      have eA := (A2.trans (cfG_A (l := l) Q).symm)
      have eQ0 : m_cfQ0 g x u v ln on who e = m_cfD (m_openQ (m_cfG g x u (6 * u + v) ln on e (m_cfR g x u ln on who e)) x u (m_slotN g x (6 * u + v))) x u (m_slotN g x (6 * u + v)) ln on e := by
        unfold m_cfQ0
        try rfl
      have ocx : (oc = none ↔ on = 0) ∧ (on ≠ 0 → oc = cq_A h (pe u + 2) on) := by
        refine ⟨⟨fun w => Classical.byContradiction fun z => ?_, fun w => hn.mpr (fun z => by omega)⟩, fun w => ?_⟩
        · have y := hn.mp w
          exact nbad ⟨z, Classical.byContradiction fun q => y ⟨by omega, by omega, fun z2 => q (Or.inr z2)⟩⟩
        · cases oc with
          | none =>
            have y := hn.mp rfl
            exact absurd ⟨w, Classical.byContradiction fun q => y ⟨by omega, by omega, fun z2 => q (Or.inr z2)⟩⟩ nbad
          | some b => exact ((hoc b rfl).2).symm
      rw [eQ0] at hK
      rw [eA] at hF hK
      clear eQ0 eA A2
      have eR : f_sum (f_common (cq_J g (x + 17) (21 * u + ln)) who) (f_common (cq_J g (x + 13) u) e) (f_common (cq_J g (x + 17) (21 * u + ln)) e) (if on = 0 then Int64.ofInt 0 else f_common (cq_J g (x + 24) (61 * u + on)) e) = m_cfR g x u ln on who e := by
        unfold m_cfR
        try rfl
      generalize m_cfG g x u (6 * u + v) ln on e (m_cfR g x u ln on who e) = G at Q hF hK
      generalize m_cfR g x u ln on who e = root at Q eR hF hK
      generalize hs : m_slotN g x (6 * u + v) = s at Q hF hK
      obtain ⟨nt, ent, snt⟩ := H.g9_14 hc List.not_mem_nil
      refine bx_X10_openInNew_84 hY (pf2_ok hY) ?_
      simp only [wp_iconst, wp_bipush, wp_sipush, wp_ldc, wp_ldc2_w, wp_lconst0, wp_lconst1, wp_aconst_null, wp_iload_0, wp_istore_0, wp_iload_1, wp_istore_1, wp_iload_2, wp_istore_2, wp_iload_3, wp_istore_3, wp_iload, wp_istore, wp_lload_0, wp_lstore_0, wp_lload_1, wp_lstore_1, wp_lload_2, wp_lstore_2, wp_lload_3, wp_lstore_3, wp_lload, wp_lstore, wp_aload_0, wp_astore_0, wp_aload_1, wp_astore_1, wp_aload_2, wp_astore_2, wp_aload_3, wp_astore_3, wp_aload, wp_astore, wp_iinc, wp_iadd, wp_isub, wp_imul, wp_iand, wp_ior, wp_ixor, wp_ishl, wp_ishr, wp_iushr, wp_irem, wp_ladd, wp_lsub, wp_lmul, wp_land, wp_lor, wp_lxor, wp_lshl, wp_lshr, wp_lushr, wp_lrem, wp_lcmp, wp_i2l, wp_l2i, wp_dupI, wp_dupA, wp_dup2J, wp_dup2IA, wp_popI, wp_popA, wp_pop2, wp_goto, wp_if_eq, wp_icmp_eq, wp_if_ne, wp_icmp_ne, wp_if_lt, wp_icmp_lt, wp_if_ge, wp_icmp_ge, wp_if_gt, wp_icmp_gt, wp_if_le, wp_icmp_le, wp_ifnull, wp_ifnonnull, wp_acmp_eq, wp_acmp_ne, wp_tableswitch, wp_get0, wp_put0, wp_get1, wp_put1, wp_get2, wp_put2, wp_get3, wp_put3, wp_new, wp_newarray, wp_anewarray, wp_alen, wp_iaload, wp_laload, wp_baload, wp_aaload, wp_iastore, wp_lastore, wp_bastore, wp_aastore, wp_return, wp_ireturnI, wp_ireturnZ, wp_lreturn, wp_areturnO, wp_areturnA, wp_max, wp_min, wp_obj, wp_virt, wp_nil, ld_I0, ld_Is, ld_J0, ld_Js, ld_A0, ld_As, ha_0, ha_s, cx_put1, cx_put2, cx_dl, cx_tgt, true_and, and_true, Nat.reduceAdd, Nat.reduceSub, Int.reduceAdd, Int.reduceNeg, Int.reduceToNat, Int.reduceSub, Int.cast_ofNat_Int, List.take_succ_cons, List.take_zero, List.drop_succ_cons, List.drop_zero, List.take_nil, List.drop_nil, Option.toList_some, Option.toList_none, List.cons_append, List.nil_append, wp_spec, ne_eq, Nat.reduceEqDiff, not_false_eq_true, true_or, or_true, wf_X3_mix, wf_X3_key, wf_X3_times, wf_X3_timesModuloQ, wf_X3_power, wf_X3_rest, wf_X3_secretOf, wf_X3_sealSum, wf_X3_sum, wf_X3_letterKey, wf_X3_nextOf, wf_X3_isOpen, wf_X3_veil, wf_X3_sealIsRight, cx_sz, cx_c2, cond_true, cond_false, Nat.reduceLeDiff, hc, F.a12, F.s12, sd, sp, edi, sdi, nb.1, nb.2.1, jd0, jdi0]
      refine cl_X10_commonWith (Nat.le_of_ble_eq_true rfl) (by omega) (by omega) (e_X10_commonWith hY (w := if on = 0 then Int64.ofInt 0 else f_common (cq_J g (x + 24) (61 * u + on)) e) (fun b w => (hoc b w).1.1) (fun b w => ?_) (fun w => ?_) ?_)
      · have o1 : ¬ on = 0 := fun z => by
          have := hn.mpr (fun y => by omega)
          rw [w] at this
          cases this
        rw [if_neg o1, (hoc b w).1.2]
      · have o1 : on = 0 := Classical.byContradiction fun z => by
          have y := hn.mp w
          exact nbad ⟨z, Classical.byContradiction fun q => y ⟨by omega, by omega, fun z2 => q (Or.inr z2)⟩⟩
        rw [if_pos o1]
      have hal := H.al h.1 (Nat.le_refl _)
      have M2 : CI c n L Z E h0 (h.1 :: []) (cq_nw h 7 0) := H.nw (s := 7) True.intro (fun q => absurd q (by decide))
      have k2 : ev h (cq_nw h 7 0) := ev.refl.nw hal
      have s2 : cq_s (cq_nw h 7 0) h.1 = 7 := nw_n.1
      have mc : cq_s (cq_nw h 7 0) c = 9 := k2.s hc (by decide)
      have me : cq_s (cq_nw h 7 0) en = 0 := k2.s F.s12 (by decide)
      have mA : cq_A (cq_nw h 7 0) c = cq_A h c := k2.A hc rfl
      have mJ : cq_J (cq_nw h 7 0) en = cq_J h en := k2.J F.s12 (by decide)
      refine bx_X10_openInNew_140 hY (pf2_ok hY) ?_
      simp only [wp_iconst, wp_bipush, wp_sipush, wp_ldc, wp_ldc2_w, wp_lconst0, wp_lconst1, wp_aconst_null, wp_iload_0, wp_istore_0, wp_iload_1, wp_istore_1, wp_iload_2, wp_istore_2, wp_iload_3, wp_istore_3, wp_iload, wp_istore, wp_lload_0, wp_lstore_0, wp_lload_1, wp_lstore_1, wp_lload_2, wp_lstore_2, wp_lload_3, wp_lstore_3, wp_lload, wp_lstore, wp_aload_0, wp_astore_0, wp_aload_1, wp_astore_1, wp_aload_2, wp_astore_2, wp_aload_3, wp_astore_3, wp_aload, wp_astore, wp_iinc, wp_iadd, wp_isub, wp_imul, wp_iand, wp_ior, wp_ixor, wp_ishl, wp_ishr, wp_iushr, wp_irem, wp_ladd, wp_lsub, wp_lmul, wp_land, wp_lor, wp_lxor, wp_lshl, wp_lshr, wp_lushr, wp_lrem, wp_lcmp, wp_i2l, wp_l2i, wp_dupI, wp_dupA, wp_dup2J, wp_dup2IA, wp_popI, wp_popA, wp_pop2, wp_goto, wp_if_eq, wp_icmp_eq, wp_if_ne, wp_icmp_ne, wp_if_lt, wp_icmp_lt, wp_if_ge, wp_icmp_ge, wp_if_gt, wp_icmp_gt, wp_if_le, wp_icmp_le, wp_ifnull, wp_ifnonnull, wp_acmp_eq, wp_acmp_ne, wp_tableswitch, wp_get0, wp_put0, wp_get1, wp_put1, wp_get2, wp_put2, wp_get3, wp_put3, wp_new, wp_newarray, wp_anewarray, wp_alen, wp_iaload, wp_laload, wp_baload, wp_aaload, wp_iastore, wp_lastore, wp_bastore, wp_aastore, wp_return, wp_ireturnI, wp_ireturnZ, wp_lreturn, wp_areturnO, wp_areturnA, wp_max, wp_min, wp_obj, wp_virt, wp_nil, ld_I0, ld_Is, ld_J0, ld_Js, ld_A0, ld_As, ha_0, ha_s, cx_put1, cx_put2, cx_dl, cx_tgt, true_and, and_true, Nat.reduceAdd, Nat.reduceSub, Int.reduceAdd, Int.reduceNeg, Int.reduceToNat, Int.reduceSub, Int.cast_ofNat_Int, List.take_succ_cons, List.take_zero, List.drop_succ_cons, List.drop_zero, List.take_nil, List.drop_nil, Option.toList_some, Option.toList_none, List.cons_append, List.nil_append, wp_spec, ne_eq, Nat.reduceEqDiff, not_false_eq_true, true_or, or_true, wf_X3_mix, wf_X3_key, wf_X3_times, wf_X3_timesModuloQ, wf_X3_power, wf_X3_rest, wf_X3_secretOf, wf_X3_sealSum, wf_X3_sum, wf_X3_letterKey, wf_X3_nextOf, wf_X3_isOpen, wf_X3_veil, wf_X3_sealIsRight, cx_sz, cx_c2, cond_true, cond_false, Nat.reduceLeDiff, mc, me, mA, mJ, F.a12, ent, nb.2.1]
      rw [g_power_f, g_power_f, g_power_f, eR]
      (repeat' (with_reducible (first | refine And.intro ?_ ?_ | intro _)))
      all_goals (try omega)
      refine cl_X8_init (Nat.le_of_ble_eq_true rfl) (by omega) (by omega) (e_X8_init hY M2 s2 (fun q => by rw [H.ct.old hal] at q; exact absurd q (by decide)) (Or.inl rfl) (k2.s sd (by decide)) (k2.s snt (by decide)) (fun g1 G1 k1 w1 w2 w3 w4 w5 w6 n8 => ?_))
      have kn : (cq_nw h 7 0).1 = h.1 + 1 := rfl
      rw [kn] at k1 w1 w2 w3 w4 w5 w6
      obtain ⟨S1, k21, e12⟩ := sr_new H Q G1 sd k1 w1 w2 w3 w4 w5
      exact cw_room (by omega) (by omega) (on_made hY H hZ F R Q hs.symm hu hv ev_ hb eln eon ee hU sd jd0 (fun b w => (hoc b w).1.1) h81 h58 (by omega) (by omega) hC hE4 hP hF (fun ok h' T' C' F' R' eT' nx => hK ok h' T' C' F' R' ⟨h.1, d, oc, s, eT', rfl, hal, ed, ocx, by rw [← ewho]; exact nx⟩) g1 G1 S1 k21 e12 w6)
    refine bx_X10_openInNew_54 hY (pf2_ok hY) ?_
    simp only [wp_iconst, wp_bipush, wp_sipush, wp_ldc, wp_ldc2_w, wp_lconst0, wp_lconst1, wp_aconst_null, wp_iload_0, wp_istore_0, wp_iload_1, wp_istore_1, wp_iload_2, wp_istore_2, wp_iload_3, wp_istore_3, wp_iload, wp_istore, wp_lload_0, wp_lstore_0, wp_lload_1, wp_lstore_1, wp_lload_2, wp_lstore_2, wp_lload_3, wp_lstore_3, wp_lload, wp_lstore, wp_aload_0, wp_astore_0, wp_aload_1, wp_astore_1, wp_aload_2, wp_astore_2, wp_aload_3, wp_astore_3, wp_aload, wp_astore, wp_iinc, wp_iadd, wp_isub, wp_imul, wp_iand, wp_ior, wp_ixor, wp_ishl, wp_ishr, wp_iushr, wp_irem, wp_ladd, wp_lsub, wp_lmul, wp_land, wp_lor, wp_lxor, wp_lshl, wp_lshr, wp_lushr, wp_lrem, wp_lcmp, wp_i2l, wp_l2i, wp_dupI, wp_dupA, wp_dup2J, wp_dup2IA, wp_popI, wp_popA, wp_pop2, wp_goto, wp_if_eq, wp_icmp_eq, wp_if_ne, wp_icmp_ne, wp_if_lt, wp_icmp_lt, wp_if_ge, wp_icmp_ge, wp_if_gt, wp_icmp_gt, wp_if_le, wp_icmp_le, wp_ifnull, wp_ifnonnull, wp_acmp_eq, wp_acmp_ne, wp_tableswitch, wp_get0, wp_put0, wp_get1, wp_put1, wp_get2, wp_put2, wp_get3, wp_put3, wp_new, wp_newarray, wp_anewarray, wp_alen, wp_iaload, wp_laload, wp_baload, wp_aaload, wp_iastore, wp_lastore, wp_bastore, wp_aastore, wp_return, wp_ireturnI, wp_ireturnZ, wp_lreturn, wp_areturnO, wp_areturnA, wp_max, wp_min, wp_obj, wp_virt, wp_nil, ld_I0, ld_Is, ld_J0, ld_Js, ld_A0, ld_As, ha_0, ha_s, cx_put1, cx_put2, cx_dl, cx_tgt, true_and, and_true, Nat.reduceAdd, Nat.reduceSub, Int.reduceAdd, Int.reduceNeg, Int.reduceToNat, Int.reduceSub, Int.cast_ofNat_Int, List.take_succ_cons, List.take_zero, List.drop_succ_cons, List.drop_zero, List.take_nil, List.drop_nil, Option.toList_some, Option.toList_none, List.cons_append, List.nil_append, wp_spec, ne_eq, Nat.reduceEqDiff, not_false_eq_true, true_or, or_true, hc, F.a12, F.s12, nb.2.2.2]
    refine ⟨fun q => j72 (fun z => z.1 q), fun q => ⟨fun i qi => j72 (fun z => ?_), fun qn => ?_⟩⟩
    · have : ¬ (1 ≤ on ∧ on ≤ cq_I g (x + 23) u ∧ cq_I g (x + 28) (61 * u + on) ≠ 0) := by omega
      have y := hn.mpr this
      rw [y] at qi
      cases qi
    · have y := hn.mp qn
      have c2 : on ≠ 0 ∧ (cq_I g (x + 23) u < on ∨ cq_I g (x + 28) (61 * u + on) = 0) := ⟨q, by omega⟩
      have no' : m_cfA1 g x l u ln on who e ≠ 0 := by
        rw [A2]
        unfold m_cfA2
        rw [if_pos c2]
        decide
      exact hF no' _ h (by omega) (by omega) H1 F R WN.refl
  refine bx_X10_openInNew_43 hY (pf2_ok hY) ?_
  simp only [wp_iconst, wp_bipush, wp_sipush, wp_ldc, wp_ldc2_w, wp_lconst0, wp_lconst1, wp_aconst_null, wp_iload_0, wp_istore_0, wp_iload_1, wp_istore_1, wp_iload_2, wp_istore_2, wp_iload_3, wp_istore_3, wp_iload, wp_istore, wp_lload_0, wp_lstore_0, wp_lload_1, wp_lstore_1, wp_lload_2, wp_lstore_2, wp_lload_3, wp_lstore_3, wp_lload, wp_lstore, wp_aload_0, wp_astore_0, wp_aload_1, wp_astore_1, wp_aload_2, wp_astore_2, wp_aload_3, wp_astore_3, wp_aload, wp_astore, wp_iinc, wp_iadd, wp_isub, wp_imul, wp_iand, wp_ior, wp_ixor, wp_ishl, wp_ishr, wp_iushr, wp_irem, wp_ladd, wp_lsub, wp_lmul, wp_land, wp_lor, wp_lxor, wp_lshl, wp_lshr, wp_lushr, wp_lrem, wp_lcmp, wp_i2l, wp_l2i, wp_dupI, wp_dupA, wp_dup2J, wp_dup2IA, wp_popI, wp_popA, wp_pop2, wp_goto, wp_if_eq, wp_icmp_eq, wp_if_ne, wp_icmp_ne, wp_if_lt, wp_icmp_lt, wp_if_ge, wp_icmp_ge, wp_if_gt, wp_icmp_gt, wp_if_le, wp_icmp_le, wp_ifnull, wp_ifnonnull, wp_acmp_eq, wp_acmp_ne, wp_tableswitch, wp_get0, wp_put0, wp_get1, wp_put1, wp_get2, wp_put2, wp_get3, wp_put3, wp_new, wp_newarray, wp_anewarray, wp_alen, wp_iaload, wp_laload, wp_baload, wp_aaload, wp_iastore, wp_lastore, wp_bastore, wp_aastore, wp_return, wp_ireturnI, wp_ireturnZ, wp_lreturn, wp_areturnO, wp_areturnA, wp_max, wp_min, wp_obj, wp_virt, wp_nil, ld_I0, ld_Is, ld_J0, ld_Js, ld_A0, ld_As, ha_0, ha_s, cx_put1, cx_put2, cx_dl, cx_tgt, true_and, and_true, Nat.reduceAdd, Nat.reduceSub, Int.reduceAdd, Int.reduceNeg, Int.reduceToNat, Int.reduceSub, Int.cast_ofNat_Int, List.take_succ_cons, List.take_zero, List.drop_succ_cons, List.drop_zero, List.take_nil, List.drop_nil, Option.toList_some, Option.toList_none, List.cons_append, List.nil_append, wp_spec, ne_eq, Nat.reduceEqDiff, not_false_eq_true, true_or, or_true, hc, F.a12, F.s12, nb.2.2.2]
  refine cl_X5_keptOnceKey (Nat.le_of_ble_eq_true rfl) sp (by omega) (by omega) (e_X5_keptOnceKey hY H sp fu.a9 fu.a10 (fun no => ?_) (fun o1 o2 o3 => ?_))
  · refine c54 none (fun b w => (nomatch w)) ⟨fun _ z => ?_, fun _ => rfl⟩
    have y := (fu.ou on z.1 z.2.1).mpr z.2.2
    exact no ⟨z.1, by omega, y⟩
  · have y := (fu.ou on o1 (by omega)).mp o3
    obtain ⟨d2, ed2, sd2, jd20, _⟩ := fu.ok on o1 (by omega)
    rw [ed2]
    exact c54 (some d2) (fun b w => by cases w; exact ⟨⟨sd2, jd20⟩, ed2⟩) ⟨fun w => (nomatch w), fun w => absurd ⟨o1, by omega, y⟩ w⟩
end
