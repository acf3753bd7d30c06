/-! class and reference side by side: openIn, called -/
section
variable {Y : cx_Y} {K : Option cx_V → cx_Q → Prop} {c x : Nat} {n L Z : Int} {E : Nat → Option Int} {h0 : cx_Q} {h g g' : cx_Q} {pe : Int → Nat} {ro : Int → Int → Nat} {pa lb tp rd en op ob : Nat} {T Lf : Int → Nat}
theorem f_X10_openIn (hY : cY Y) {b : Nat} {u v i0 s l : Int} (H : CI c n L Z E h0 [] h) (hZ : Z ≤ 900000) (F : FX c x n pe ro pa lb tp rd en op ob T Lf h g) (R : ER x en b l h g) (hu : 0 ≤ u ∧ u < n) (hv : 0 ≤ v ∧ v < n) (ev_ : cq_I h en 3 = v) (hi : 0 ≤ i0 ∧ i0 < cq_I g (x + 30) (6 * u + v)) (es : cq_I g (x + 29) (4 * (6 * u + v) + i0) = s) (h81 : 0 ≤ cq_I g x 81) (hC : E c = none) (hE4 : ∀ d, d ≠ c → cq_s h0 d ≠ 4 → cq_s h0 d ≠ 1 → E d ≠ none) (hP : uE pe n h0)
    (hF : m_openA g x l s ≠ 0 → ∀ m h', 1 ≤ m → m ≤ 10 → CI c n L (Z + 1) E h0 [] h' → FX c x n pe ro pa lb tp rd en op ob T Lf h' g → ER x en b l h' g → ox op ob h h' → K (some (.inl m)) h')
    (hK : m_openA g x l s = 0 → ∀ h', CI c n L (Z + 1) E h0 [] h' → OI c x n pe ro pa lb tp rd en op ob T Lf b l u v i0 s g h' → OX x u s g (T s) h h' → K (some (.inl 0)) h') : cw Y mi_X10_openIn K 0 [some (.inr (.inr (some c))), some (.inr (.inr (some (pe u)))), some (.inl i0), none, none, none] [] h 7 182 := by
  have hc := H.cs
  have fu := F.fu u hu.1 hu.2
  have fo := F.fo u v hu.1 hu.2 hv.1 hv.2
  have sp := fu.s0
  have r13 := F.r13 u hu.1 hu.2
  have zr : cq_z h (pe u + 6) = n := H.tz r13.2
  have era := F.ra u v hu.1 hu.2 hv.1 hv.2
  have n26 := F.n26
  have rm := fo.rm
  have at0 := fo.at_ i0 hi.1 hi.2
  have sr := fo.ss i0 hi.1 hi.2
  rw [es] at at0 sr
  obtain ⟨w, ew9, sw, jw0, jw1⟩ := sr.ow
  refine bx_X10_openIn_0 hY (pf2_ok hY) ?_
  simp only [wp_iconst, wp_bipush, wp_sipush, wp_ldc, wp_ldc2_w, wp_lconst0, wp_lconst1, wp_aconst_null, wp_iload_0, wp_istore_0, wp_iload_1, wp_istore_1, wp_iload_2, wp_istore_2, wp_iload_3, wp_istore_3, wp_iload, wp_istore, wp_lload_0, wp_lstore_0, wp_lload_1, wp_lstore_1, wp_lload_2, wp_lstore_2, wp_lload_3, wp_lstore_3, wp_lload, wp_lstore, wp_aload_0, wp_astore_0, wp_aload_1, wp_astore_1, wp_aload_2, wp_astore_2, wp_aload_3, wp_astore_3, wp_aload, wp_astore, wp_iinc, wp_iadd, wp_isub, wp_imul, wp_iand, wp_ior, wp_ixor, wp_ishl, wp_ishr, wp_iushr, wp_irem, wp_ladd, wp_lsub, wp_lmul, wp_land, wp_lor, wp_lxor, wp_lshl, wp_lshr, wp_lushr, wp_lrem, wp_lcmp, wp_i2l, wp_l2i, wp_dupI, wp_dupA, wp_dup2J, wp_dup2IA, wp_popI, wp_popA, wp_pop2, wp_goto, wp_if_eq, wp_icmp_eq, wp_if_ne, wp_icmp_ne, wp_if_lt, wp_icmp_lt, wp_if_ge, wp_icmp_ge, wp_if_gt, wp_icmp_gt, wp_if_le, wp_icmp_le, wp_ifnull, wp_ifnonnull, wp_acmp_eq, wp_acmp_ne, wp_tableswitch, wp_get0, wp_put0, wp_get1, wp_put1, wp_get2, wp_put2, wp_get3, wp_put3, wp_new, wp_newarray, wp_anewarray, wp_alen, wp_iaload, wp_laload, wp_baload, wp_aaload, wp_iastore, wp_lastore, wp_bastore, wp_aastore, wp_return, wp_ireturnI, wp_ireturnZ, wp_lreturn, wp_areturnO, wp_areturnA, wp_max, wp_min, wp_obj, wp_virt, wp_nil, ld_I0, ld_Is, ld_J0, ld_Js, ld_A0, ld_As, ha_0, ha_s, cx_put1, cx_put2, cx_dl, cx_tgt, true_and, and_true, Nat.reduceAdd, Nat.reduceSub, Int.reduceAdd, Int.reduceNeg, Int.reduceToNat, Int.reduceSub, Int.cast_ofNat_Int, List.take_succ_cons, List.take_zero, List.drop_succ_cons, List.drop_zero, List.take_nil, List.drop_nil, Option.toList_some, Option.toList_none, List.cons_append, List.nil_append, wp_spec, ne_eq, Nat.reduceEqDiff, not_false_eq_true, true_or, or_true, hc, sp, r13.1, F.a12, F.s12, r13.2, zr, ev_, era, ra_181]
  refine ⟨by omega, ?_⟩
  refine cl_X6_at (Nat.le_of_ble_eq_true rfl) fo.s0 (by omega) (by omega) (c_X6_at hY H List.not_mem_nil fo.s0 (fun q => absurd q (by omega)) (fun _ _ t et _ _ => ?_))
  have ett : t = T s := by
    rw [at0] at et
    exact (Option.some.inj et).symm
  rw [ett]
  clear et ett
  refine bx_X10_openIn_18 hY (pf2_ok hY) ?_
  simp only [wp_iconst, wp_bipush, wp_sipush, wp_ldc, wp_ldc2_w, wp_lconst0, wp_lconst1, wp_aconst_null, wp_iload_0, wp_istore_0, wp_iload_1, wp_istore_1, wp_iload_2, wp_istore_2, wp_iload_3, wp_istore_3, wp_iload, wp_istore, wp_lload_0, wp_lstore_0, wp_lload_1, wp_lstore_1, wp_lload_2, wp_lstore_2, wp_lload_3, wp_lstore_3, wp_lload, wp_lstore, wp_aload_0, wp_astore_0, wp_aload_1, wp_astore_1, wp_aload_2, wp_astore_2, wp_aload_3, wp_astore_3, wp_aload, wp_astore, wp_iinc, wp_iadd, wp_isub, wp_imul, wp_iand, wp_ior, wp_ixor, wp_ishl, wp_ishr, wp_iushr, wp_irem, wp_ladd, wp_lsub, wp_lmul, wp_land, wp_lor, wp_lxor, wp_lshl, wp_lshr, wp_lushr, wp_lrem, wp_lcmp, wp_i2l, wp_l2i, wp_dupI, wp_dupA, wp_dup2J, wp_dup2IA, wp_popI, wp_popA, wp_pop2, wp_goto, wp_if_eq, wp_icmp_eq, wp_if_ne, wp_icmp_ne, wp_if_lt, wp_icmp_lt, wp_if_ge, wp_icmp_ge, wp_if_gt, wp_icmp_gt, wp_if_le, wp_icmp_le, wp_ifnull, wp_ifnonnull, wp_acmp_eq, wp_acmp_ne, wp_tableswitch, wp_get0, wp_put0, wp_get1, wp_put1, wp_get2, wp_put2, wp_get3, wp_put3, wp_new, wp_newarray, wp_anewarray, wp_alen, wp_iaload, wp_laload, wp_baload, wp_aaload, wp_iastore, wp_lastore, wp_bastore, wp_aastore, wp_return, wp_ireturnI, wp_ireturnZ, wp_lreturn, wp_areturnO, wp_areturnA, wp_max, wp_min, wp_obj, wp_virt, wp_nil, ld_I0, ld_Is, ld_J0, ld_Js, ld_A0, ld_As, ha_0, ha_s, cx_put1, cx_put2, cx_dl, cx_tgt, true_and, and_true, Nat.reduceAdd, Nat.reduceSub, Int.reduceAdd, Int.reduceNeg, Int.reduceToNat, Int.reduceSub, Int.cast_ofNat_Int, List.take_succ_cons, List.take_zero, List.drop_succ_cons, List.drop_zero, List.take_nil, List.drop_nil, Option.toList_some, Option.toList_none, List.cons_append, List.nil_append, wp_spec, ne_eq, Nat.reduceEqDiff, not_false_eq_true, true_or, or_true]
  refine ⟨fun i _ => ?_, fun q => (nomatch q)⟩
  refine bx_X10_openIn_27 hY (pf2_ok hY) ?_
  simp only [wp_iconst, wp_bipush, wp_sipush, wp_ldc, wp_ldc2_w, wp_lconst0, wp_lconst1, wp_aconst_null, wp_iload_0, wp_istore_0, wp_iload_1, wp_istore_1, wp_iload_2, wp_istore_2, wp_iload_3, wp_istore_3, wp_iload, wp_istore, wp_lload_0, wp_lstore_0, wp_lload_1, wp_lstore_1, wp_lload_2, wp_lstore_2, wp_lload_3, wp_lstore_3, wp_lload, wp_lstore, wp_aload_0, wp_astore_0, wp_aload_1, wp_astore_1, wp_aload_2, wp_astore_2, wp_aload_3, wp_astore_3, wp_aload, wp_astore, wp_iinc, wp_iadd, wp_isub, wp_imul, wp_iand, wp_ior, wp_ixor, wp_ishl, wp_ishr, wp_iushr, wp_irem, wp_ladd, wp_lsub, wp_lmul, wp_land, wp_lor, wp_lxor, wp_lshl, wp_lshr, wp_lushr, wp_lrem, wp_lcmp, wp_i2l, wp_l2i, wp_dupI, wp_dupA, wp_dup2J, wp_dup2IA, wp_popI, wp_popA, wp_pop2, wp_goto, wp_if_eq, wp_icmp_eq, wp_if_ne, wp_icmp_ne, wp_if_lt, wp_icmp_lt, wp_if_ge, wp_icmp_ge, wp_if_gt, wp_icmp_gt, wp_if_le, wp_icmp_le, wp_ifnull, wp_ifnonnull, wp_acmp_eq, wp_acmp_ne, wp_tableswitch, wp_get0, wp_put0, wp_get1, wp_put1, wp_get2, wp_put2, wp_get3, wp_put3, wp_new, wp_newarray, wp_anewarray, wp_alen, wp_iaload, wp_laload, wp_baload, wp_aaload, wp_iastore, wp_lastore, wp_bastore, wp_aastore, wp_return, wp_ireturnI, wp_ireturnZ, wp_lreturn, wp_areturnO, wp_areturnA, wp_max, wp_min, wp_obj, wp_virt, wp_nil, ld_I0, ld_Is, ld_J0, ld_Js, ld_A0, ld_As, ha_0, ha_s, cx_put1, cx_put2, cx_dl, cx_tgt, true_and, and_true, Nat.reduceAdd, Nat.reduceSub, Int.reduceAdd, Int.reduceNeg, Int.reduceToNat, Int.reduceSub, Int.cast_ofNat_Int, List.take_succ_cons, List.take_zero, List.drop_succ_cons, List.drop_zero, List.take_nil, List.drop_nil, Option.toList_some, Option.toList_none, List.cons_append, List.nil_append, wp_spec, ne_eq, Nat.reduceEqDiff, not_false_eq_true, true_or, or_true, hc, F.a13, F.a12]
  -- behind the carrying out
  have last : ∀ (m m2 : cx_Q) bc bs, m_openA g x l s = 0 → ER x en b l m g → FX c x n pe ro pa lb tp rd en op ob T Lf m g → cq_J m op 7 = m_oky g x s → CI c n L (Z + 1) E h0 [] m2 → (FX c x n pe ro pa lb tp rd en op ob T Lf m2 (bk x g (m_openQ g x u s)) ∧ evx (fun a => scl (T s) a ∨ a = pe u) m m2) → OX x u s g (T s) h m2 → cw Y mi_X10_openIn K 72 [some (.inr (.inr (some c))), some (.inr (.inr (some (pe u)))), some (.inl i0), some (.inr (.inr (some (ro u v)))), some (.inr (.inr (some (T s)))), some (.inl 0)] [] m2 bc bs := by
    intro m m2 bc bs ok R1 F1 k7 G2 q ox2
    obtain ⟨F2, ex⟩ := q
    have fo1 := F1.fo u v hu.1 hu.2 hv.1 hv.2
    have S1 := fo1.ss i0 hi.1 hi.2
    rw [es] at S1
    have p1 := (F1.fu u hu.1 hu.2).s0
    have so1 := F1.s13
    have npp : ∀ {d k : Nat}, cq_s m d = k → (k = 0 ∨ k = 100 ∨ k = 3 ∨ k = 5) → ¬ (scl (T s) d ∨ d = pe u) := fun {d k} w1 w2 z => by
      rcases z with z | z
      · have := S1.cl z
        omega
      · rw [z, p1] at w1; omega
    have R2 := R1.ex ex (npp R1.s0 (Or.inl rfl)) (npp R1.sb (Or.inr (Or.inl rfl)))
    have k2 : cq_J m2 op 7 = m_oky g x s := by rw [ex.J so1 (by decide) (npp so1 (Or.inr (Or.inr (Or.inl rfl))))]; exact k7
    have fo2 := F2.fo u v hu.1 hu.2 hv.1 hv.2
    have g30 : cq_I (bk x g (m_openQ g x u s)) (x + 30) (6 * u + v) = cq_I g (x + 30) (6 * u + v) := by
      rw [← fo2.rm, ex.I fo1.s0 rfl (npp fo1.s0 (Or.inr (Or.inr (Or.inr rfl))))]
      exact fo1.rm
    have rm2 := fo2.rm
    rw [g30] at rm2
    have hi2 : 0 ≤ i0 ∧ i0 < cq_I (bk x g (m_openQ g x u s)) (x + 30) (6 * u + v) := by rw [g30]; exact hi
    refine bx_X10_openIn_72 hY (pf2_ok hY) ?_
    simp only [wp_iconst, wp_bipush, wp_sipush, wp_ldc, wp_ldc2_w, wp_lconst0, wp_lconst1, wp_aconst_null, wp_iload_0, wp_istore_0, wp_iload_1, wp_istore_1, wp_iload_2, wp_istore_2, wp_iload_3, wp_istore_3, wp_iload, wp_istore, wp_lload_0, wp_lstore_0, wp_lload_1, wp_lstore_1, wp_lload_2, wp_lstore_2, wp_lload_3, wp_lstore_3, wp_lload, wp_lstore, wp_aload_0, wp_astore_0, wp_aload_1, wp_astore_1, wp_aload_2, wp_astore_2, wp_aload_3, wp_astore_3, wp_aload, wp_astore, wp_iinc, wp_iadd, wp_isub, wp_imul, wp_iand, wp_ior, wp_ixor, wp_ishl, wp_ishr, wp_iushr, wp_irem, wp_ladd, wp_lsub, wp_lmul, wp_land, wp_lor, wp_lxor, wp_lshl, wp_lshr, wp_lushr, wp_lrem, wp_lcmp, wp_i2l, wp_l2i, wp_dupI, wp_dupA, wp_dup2J, wp_dup2IA, wp_popI, wp_popA, wp_pop2, wp_goto, wp_if_eq, wp_icmp_eq, wp_if_ne, wp_icmp_ne, wp_if_lt, wp_icmp_lt, wp_if_ge, wp_icmp_ge, wp_if_gt, wp_icmp_gt, wp_if_le, wp_icmp_le, wp_ifnull, wp_ifnonnull, wp_acmp_eq, wp_acmp_ne, wp_tableswitch, wp_get0, wp_put0, wp_get1, wp_put1, wp_get2, wp_put2, wp_get3, wp_put3, wp_new, wp_newarray, wp_anewarray, wp_alen, wp_iaload, wp_laload, wp_baload, wp_aaload, wp_iastore, wp_lastore, wp_bastore, wp_aastore, wp_return, wp_ireturnI, wp_ireturnZ, wp_lreturn, wp_areturnO, wp_areturnA, wp_max, wp_min, wp_obj, wp_virt, wp_nil, ld_I0, ld_Is, ld_J0, ld_Js, ld_A0, ld_As, ha_0, ha_s, cx_put1, cx_put2, cx_dl, cx_tgt, true_and, and_true, Nat.reduceAdd, Nat.reduceSub, Int.reduceAdd, Int.reduceNeg, Int.reduceToNat, Int.reduceSub, Int.cast_ofNat_Int, List.take_succ_cons, List.take_zero, List.drop_succ_cons, List.drop_zero, List.take_nil, List.drop_nil, Option.toList_some, Option.toList_none, List.cons_append, List.nil_append, wp_spec, ne_eq, Nat.reduceEqDiff, not_false_eq_true, true_or, or_true]
    refine cl_X6_bringFirst (Nat.le_of_ble_eq_true rfl) fo2.s0 (Nat.zero_le _) (Nat.zero_le _) (e_X6_bringFirst hY G2 List.not_mem_nil fo2.s0 (by rw [rm2]; exact hi) (fun g3 G3 e3 => ?_))
    have F3 := fx_front F2 hu hv hi2 e3
    have ex3 : evx (fun a => a = ro u v + 1) m2 g3 := by
      rw [e3]
      exact evx.rA (P := fun a => a = ro u v + 1) evx.refl rfl
    have t1 := fo2.s1
    have R3 := R2.ex ex3 (fun z => by have := R2.s0; rw [z, t1] at this; omega) (fun z => by have := R2.sb; rw [z, t1] at this; omega)
    have k3 : cq_J g3 op 7 = m_oky g x s := by rw [ex3.J F2.s13 (by decide) (fun z => by have := F2.s13; rw [z, t1] at this; omega)]; exact k2
    refine bx_X10_openIn_77 hY (pf2_ok hY) ?_
    simp only [wp_iconst, wp_bipush, wp_sipush, wp_ldc, wp_ldc2_w, wp_lconst0, wp_lconst1, wp_aconst_null, wp_iload_0, wp_istore_0, wp_iload_1, wp_istore_1, wp_iload_2, wp_istore_2, wp_iload_3, wp_istore_3, wp_iload, wp_istore, wp_lload_0, wp_lstore_0, wp_lload_1, wp_lstore_1, wp_lload_2, wp_lstore_2, wp_lload_3, wp_lstore_3, wp_lload, wp_lstore, wp_aload_0, wp_astore_0, wp_aload_1, wp_astore_1, wp_aload_2, wp_astore_2, wp_aload_3, wp_astore_3, wp_aload, wp_astore, wp_iinc, wp_iadd, wp_isub, wp_imul, wp_iand, wp_ior, wp_ixor, wp_ishl, wp_ishr, wp_iushr, wp_irem, wp_ladd, wp_lsub, wp_lmul, wp_land, wp_lor, wp_lxor, wp_lshl, wp_lshr, wp_lushr, wp_lrem, wp_lcmp, wp_i2l, wp_l2i, wp_dupI, wp_dupA, wp_dup2J, wp_dup2IA, wp_popI, wp_popA, wp_pop2, wp_goto, wp_if_eq, wp_icmp_eq, wp_if_ne, wp_icmp_ne, wp_if_lt, wp_icmp_lt, wp_if_ge, wp_icmp_ge, wp_if_gt, wp_icmp_gt, wp_if_le, wp_icmp_le, wp_ifnull, wp_ifnonnull, wp_acmp_eq, wp_acmp_ne, wp_tableswitch, wp_get0, wp_put0, wp_get1, wp_put1, wp_get2, wp_put2, wp_get3, wp_put3, wp_new, wp_newarray, wp_anewarray, wp_alen, wp_iaload, wp_laload, wp_baload, wp_aaload, wp_iastore, wp_lastore, wp_bastore, wp_aastore, wp_return, wp_ireturnI, wp_ireturnZ, wp_lreturn, wp_areturnO, wp_areturnA, wp_max, wp_min, wp_obj, wp_virt, wp_nil, ld_I0, ld_Is, ld_J0, ld_Js, ld_A0, ld_As, ha_0, ha_s, cx_put1, cx_put2, cx_dl, cx_tgt, true_and, and_true, Nat.reduceAdd, Nat.reduceSub, Int.reduceAdd, Int.reduceNeg, Int.reduceToNat, Int.reduceSub, Int.cast_ofNat_Int, List.take_succ_cons, List.take_zero, List.drop_succ_cons, List.drop_zero, List.take_nil, List.drop_nil, Option.toList_some, Option.toList_none, List.cons_append, List.nil_append, wp_spec, ne_eq, Nat.reduceEqDiff, not_false_eq_true, true_or, or_true]
    refine hK ok g3 G3 ⟨F3, R3, k3⟩ (ox2.w ?_ (fun d sd => ?_) (fun d sd => ?_))
    · rw [e3]
      refine ⟨fun _ _ => ⟨rfl, rfl⟩, fun d j w _ => ?_, fun d w => ?_⟩
      · rw [rr_A, if_neg (fun z => by rw [z, t1] at w; exact absurd w (by decide))]
      · rw [rr_A, if_neg (fun z => by rw [z, t1] at w; exact absurd w (by decide))]
    · rw [e3]; rfl
    · rw [e3, rr_A, if_neg (fun z => by rw [z, t1] at sd; omega)]
  have ht := pl_t sr.z R
  have hkf := pl_kf sr.z R
  have t01 := tn_01 (g := g) (x := x) (s := s)
  have pk := pl_ok sr.z R (w := w) (t := m_tn g x s) (kf := if m_keptAt g x s = -2 then -1 else m_keptAt g x s) jw0 rfl rfl
  have k20 := sr.k20
  have kr : m_keptAt g x s = -2 ∨ (0 ≤ m_keptAt g x s ∧ m_keptAt g x s < 0 + ((cq_I g (x + 53) s).toNat : Int)) := by unfold m_keptAt; exact m_ka_rg
  have km := sr.km
  refine cl_X4_plan (Nat.le_of_ble_eq_true rfl) F.s13 (by omega) (by omega) (e_X4_plan hY H F.s13 sr.s0 F.s12 F.aob sr.a19 sr.k0 sr.k1 sr.k2 ew9 ht.symm hkf.symm rfl rfl (fun m g1 m1 m2 G o no => ?_) (fun k0 k1 tg g1 G o i1 j7 => ?_) (fun ek cs tg g1 G o i1 i2 i3 i4 j5 j6 j7 a1 a2 => ?_))
  · -- it can't
    have no' : m_openA g x l s ≠ 0 := fun z => no (pk.mpr z)
    have F1 := F.ox o
    have R1 := R.ox o F.s13 F.sob
    refine bx_X10_openIn_40 hY (pf2_ok hY) ?_
    simp only [wp_iconst, wp_bipush, wp_sipush, wp_ldc, wp_ldc2_w, wp_lconst0, wp_lconst1, wp_aconst_null, wp_iload_0, wp_istore_0, wp_iload_1, wp_istore_1, wp_iload_2, wp_istore_2, wp_iload_3, wp_istore_3, wp_iload, wp_istore, wp_lload_0, wp_lstore_0, wp_lload_1, wp_lstore_1, wp_lload_2, wp_lstore_2, wp_lload_3, wp_lstore_3, wp_lload, wp_lstore, wp_aload_0, wp_astore_0, wp_aload_1, wp_astore_1, wp_aload_2, wp_astore_2, wp_aload_3, wp_astore_3, wp_aload, wp_astore, wp_iinc, wp_iadd, wp_isub, wp_imul, wp_iand, wp_ior, wp_ixor, wp_ishl, wp_ishr, wp_iushr, wp_irem, wp_ladd, wp_lsub, wp_lmul, wp_land, wp_lor, wp_lxor, wp_lshl, wp_lshr, wp_lushr, wp_lrem, wp_lcmp, wp_i2l, wp_l2i, wp_dupI, wp_dupA, wp_dup2J, wp_dup2IA, wp_popI, wp_popA, wp_pop2, wp_goto, wp_if_eq, wp_icmp_eq, wp_if_ne, wp_icmp_ne, wp_if_lt, wp_icmp_lt, wp_if_ge, wp_icmp_ge, wp_if_gt, wp_icmp_gt, wp_if_le, wp_icmp_le, wp_ifnull, wp_ifnonnull, wp_acmp_eq, wp_acmp_ne, wp_tableswitch, wp_get0, wp_put0, wp_get1, wp_put1, wp_get2, wp_put2, wp_get3, wp_put3, wp_new, wp_newarray, wp_anewarray, wp_alen, wp_iaload, wp_laload, wp_baload, wp_aaload, wp_iastore, wp_lastore, wp_bastore, wp_aastore, wp_return, wp_ireturnI, wp_ireturnZ, wp_lreturn, wp_areturnO, wp_areturnA, wp_max, wp_min, wp_obj, wp_virt, wp_nil, ld_I0, ld_Is, ld_J0, ld_Js, ld_A0, ld_As, ha_0, ha_s, cx_put1, cx_put2, cx_dl, cx_tgt, true_and, and_true, Nat.reduceAdd, Nat.reduceSub, Int.reduceAdd, Int.reduceNeg, Int.reduceToNat, Int.reduceSub, Int.cast_ofNat_Int, List.take_succ_cons, List.take_zero, List.drop_succ_cons, List.drop_zero, List.take_nil, List.drop_nil, Option.toList_some, Option.toList_none, List.cons_append, List.nil_append, wp_spec, ne_eq, Nat.reduceEqDiff, not_false_eq_true, true_or, or_true, F1.fs.s0, F1.a13, F1.a12, F1.s12]
    refine ⟨fun _ => ?_, fun q => absurd q (by omega)⟩
    refine bx_X10_openIn_77 hY (pf2_ok hY) ?_
    simp only [wp_iconst, wp_bipush, wp_sipush, wp_ldc, wp_ldc2_w, wp_lconst0, wp_lconst1, wp_aconst_null, wp_iload_0, wp_istore_0, wp_iload_1, wp_istore_1, wp_iload_2, wp_istore_2, wp_iload_3, wp_istore_3, wp_iload, wp_istore, wp_lload_0, wp_lstore_0, wp_lload_1, wp_lstore_1, wp_lload_2, wp_lstore_2, wp_lload_3, wp_lstore_3, wp_lload, wp_lstore, wp_aload_0, wp_astore_0, wp_aload_1, wp_astore_1, wp_aload_2, wp_astore_2, wp_aload_3, wp_astore_3, wp_aload, wp_astore, wp_iinc, wp_iadd, wp_isub, wp_imul, wp_iand, wp_ior, wp_ixor, wp_ishl, wp_ishr, wp_iushr, wp_irem, wp_ladd, wp_lsub, wp_lmul, wp_land, wp_lor, wp_lxor, wp_lshl, wp_lshr, wp_lushr, wp_lrem, wp_lcmp, wp_i2l, wp_l2i, wp_dupI, wp_dupA, wp_dup2J, wp_dup2IA, wp_popI, wp_popA, wp_pop2, wp_goto, wp_if_eq, wp_icmp_eq, wp_if_ne, wp_icmp_ne, wp_if_lt, wp_icmp_lt, wp_if_ge, wp_icmp_ge, wp_if_gt, wp_icmp_gt, wp_if_le, wp_icmp_le, wp_ifnull, wp_ifnonnull, wp_acmp_eq, wp_acmp_ne, wp_tableswitch, wp_get0, wp_put0, wp_get1, wp_put1, wp_get2, wp_put2, wp_get3, wp_put3, wp_new, wp_newarray, wp_anewarray, wp_alen, wp_iaload, wp_laload, wp_baload, wp_aaload, wp_iastore, wp_lastore, wp_bastore, wp_aastore, wp_return, wp_ireturnI, wp_ireturnZ, wp_lreturn, wp_areturnO, wp_areturnA, wp_max, wp_min, wp_obj, wp_virt, wp_nil, ld_I0, ld_Is, ld_J0, ld_Js, ld_A0, ld_As, ha_0, ha_s, cx_put1, cx_put2, cx_dl, cx_tgt, true_and, and_true, Nat.reduceAdd, Nat.reduceSub, Int.reduceAdd, Int.reduceNeg, Int.reduceToNat, Int.reduceSub, Int.cast_ofNat_Int, List.take_succ_cons, List.take_zero, List.drop_succ_cons, List.drop_zero, List.take_nil, List.drop_nil, Option.toList_some, Option.toList_none, List.cons_append, List.nil_append, wp_spec, ne_eq, Nat.reduceEqDiff, not_false_eq_true, true_or, or_true]
    exact hF no' m g1 m1 m2 (G.up (by omega)) F1 R1 o
  · -- with a KEPT key
    have ok : m_openA g x l s = 0 := pk.mp (Or.inl ⟨k0, tg⟩)
    have nk : m_keptAt g x s ≠ -2 := fun z => by rw [if_pos z] at k0; exact absurd k0 (by decide)
    have kk : 0 ≤ m_keptAt g x s ∧ m_keptAt g x s < cq_I g (x + 53) s := by omega
    rw [if_neg nk] at k1 tg i1 j7
    have F1 := F.ox o
    have R1 := R.ox o F.s13 F.sob
    have sr1 := (F1.fo u v hu.1 hu.2 hv.1 hv.2).ss i0 hi.1 hi.2
    rw [es] at sr1
    have sp1 := (F1.fu u hu.1 hu.2).s0
    have ky : cq_J g1 op 7 = m_oky g x s := by
      rw [j7]
      unfold m_oky
      rw [if_neg (by omega)]
      exact (sr.kk _ kk.1 kk.2).2.2
    have km1 := sr1.km
    refine bx_X10_openIn_40 hY (pf2_ok hY) ?_
    simp only [wp_iconst, wp_bipush, wp_sipush, wp_ldc, wp_ldc2_w, wp_lconst0, wp_lconst1, wp_aconst_null, wp_iload_0, wp_istore_0, wp_iload_1, wp_istore_1, wp_iload_2, wp_istore_2, wp_iload_3, wp_istore_3, wp_iload, wp_istore, wp_lload_0, wp_lstore_0, wp_lload_1, wp_lstore_1, wp_lload_2, wp_lstore_2, wp_lload_3, wp_lstore_3, wp_lload, wp_lstore, wp_aload_0, wp_astore_0, wp_aload_1, wp_astore_1, wp_aload_2, wp_astore_2, wp_aload_3, wp_astore_3, wp_aload, wp_astore, wp_iinc, wp_iadd, wp_isub, wp_imul, wp_iand, wp_ior, wp_ixor, wp_ishl, wp_ishr, wp_iushr, wp_irem, wp_ladd, wp_lsub, wp_lmul, wp_land, wp_lor, wp_lxor, wp_lshl, wp_lshr, wp_lushr, wp_lrem, wp_lcmp, wp_i2l, wp_l2i, wp_dupI, wp_dupA, wp_dup2J, wp_dup2IA, wp_popI, wp_popA, wp_pop2, wp_goto, wp_if_eq, wp_icmp_eq, wp_if_ne, wp_icmp_ne, wp_if_lt, wp_icmp_lt, wp_if_ge, wp_icmp_ge, wp_if_gt, wp_icmp_gt, wp_if_le, wp_icmp_le, wp_ifnull, wp_ifnonnull, wp_acmp_eq, wp_acmp_ne, wp_tableswitch, wp_get0, wp_put0, wp_get1, wp_put1, wp_get2, wp_put2, wp_get3, wp_put3, wp_new, wp_newarray, wp_anewarray, wp_alen, wp_iaload, wp_laload, wp_baload, wp_aaload, wp_iastore, wp_lastore, wp_bastore, wp_aastore, wp_return, wp_ireturnI, wp_ireturnZ, wp_lreturn, wp_areturnO, wp_areturnA, wp_max, wp_min, wp_obj, wp_virt, wp_nil, ld_I0, ld_Is, ld_J0, ld_Js, ld_A0, ld_As, ha_0, ha_s, cx_put1, cx_put2, cx_dl, cx_tgt, true_and, and_true, Nat.reduceAdd, Nat.reduceSub, Int.reduceAdd, Int.reduceNeg, Int.reduceToNat, Int.reduceSub, Int.cast_ofNat_Int, List.take_succ_cons, List.take_zero, List.drop_succ_cons, List.drop_zero, List.take_nil, List.drop_nil, Option.toList_some, Option.toList_none, List.cons_append, List.nil_append, wp_spec, ne_eq, Nat.reduceEqDiff, not_false_eq_true, true_or, or_true, F1.fs.s0, F1.a13, F1.a12, F1.s12]
    refine ⟨fun q => absurd trivial q, fun _ => ?_⟩
    refine cl_X10_secretOf (Nat.le_of_ble_eq_true rfl) F1.fs.s0 (by omega) (by omega) (s_X10_secretOf hY G ⟨by omega, n26.2⟩ F1.a0 hC (F1.uP hP) (fun o' so' => ?_))
    have ho' := so'.s
    obtain ⟨b3, e3_, sb3, _⟩ := G.g1_3 sr1.s1 List.not_mem_nil
    have hE3 : E b3 ≠ none := E4_of G hE4 sb3 (by decide) (by decide)
    have hE7 : cq_s h0 (T s) = 7 → E (T s) ≠ none := fun _ => E4_of G hE4 sr1.s0 (by decide) (by decide)
    have oS : cq_s g1 = cq_s h := o.2.1
    have oZ : cq_z g1 = cq_z h := o.2.2.1
    have oA : cq_A g1 = cq_A h := o.2.2.2.1
    have oJ : ∀ d, cq_s h d = 6 → cq_J g1 d = cq_J h d := fun d sd => o.2.2.2.2.2 d (fun z => by rw [z, F.s13] at sd; exact absurd sd (by decide)) (fun z => by rw [z, F.sob] at sd; exact absurd sd (by decide))
    refine bx_X10_openIn_69 hY (pf2_ok hY) ?_
    try simp only [wp_iconst, wp_bipush, wp_sipush, wp_ldc, wp_ldc2_w, wp_lconst0, wp_lconst1, wp_aconst_null, wp_iload_0, wp_istore_0, wp_iload_1, wp_istore_1, wp_iload_2, wp_istore_2, wp_iload_3, wp_istore_3, wp_iload, wp_istore, wp_lload_0, wp_lstore_0, wp_lload_1, wp_lstore_1, wp_lload_2, wp_lstore_2, wp_lload_3, wp_lstore_3, wp_lload, wp_lstore, wp_aload_0, wp_astore_0, wp_aload_1, wp_astore_1, wp_aload_2, wp_astore_2, wp_aload_3, wp_astore_3, wp_aload, wp_astore, wp_iinc, wp_iadd, wp_isub, wp_imul, wp_iand, wp_ior, wp_ixor, wp_ishl, wp_ishr, wp_iushr, wp_irem, wp_ladd, wp_lsub, wp_lmul, wp_land, wp_lor, wp_lxor, wp_lshl, wp_lshr, wp_lushr, wp_lrem, wp_lcmp, wp_i2l, wp_l2i, wp_dupI, wp_dupA, wp_dup2J, wp_dup2IA, wp_popI, wp_popA, wp_pop2, wp_goto, wp_if_eq, wp_icmp_eq, wp_if_ne, wp_icmp_ne, wp_if_lt, wp_icmp_lt, wp_if_ge, wp_icmp_ge, wp_if_gt, wp_icmp_gt, wp_if_le, wp_icmp_le, wp_ifnull, wp_ifnonnull, wp_acmp_eq, wp_acmp_ne, wp_tableswitch, wp_get0, wp_put0, wp_get1, wp_put1, wp_get2, wp_put2, wp_get3, wp_put3, wp_new, wp_newarray, wp_anewarray, wp_alen, wp_iaload, wp_laload, wp_baload, wp_aaload, wp_iastore, wp_lastore, wp_bastore, wp_aastore, wp_return, wp_ireturnI, wp_ireturnZ, wp_lreturn, wp_areturnO, wp_areturnA, wp_max, wp_min, wp_obj, wp_virt, wp_nil, ld_I0, ld_Is, ld_J0, ld_Js, ld_A0, ld_As, ha_0, ha_s, cx_put1, cx_put2, cx_dl, cx_tgt, true_and, and_true, Nat.reduceAdd, Nat.reduceSub, Int.reduceAdd, Int.reduceNeg, Int.reduceToNat, Int.reduceSub, Int.cast_ofNat_Int, List.take_succ_cons, List.take_zero, List.drop_succ_cons, List.drop_zero, List.take_nil, List.drop_nil, Option.toList_some, Option.toList_none, List.cons_append, List.nil_append, wp_spec, ne_eq, Nat.reduceEqDiff, not_false_eq_true, true_or, or_true]
    refine cl_X4_carryOut (Nat.le_of_ble_eq_true rfl) F1.s13 (by omega) (by omega) (e_X4_carryOut hY G (by omega) F1.s13 sr1.s0 F1.s12 sp1 ho' F1.aob sr1.a19 sr1.k0 sr1.k1 sr1.k2 e3_ hE3 hE7 (fun q => by omega) (Or.inr (by omega)) (fun q => by omega) (fun _ m2 G2 e2 f2 => ?_) (fun q => by omega) (fun q => by omega))
    rw [i1] at e2 f2
    rw [sr1.km] at f2
    refine last g1 m2 _ _ ok R1 F1 ky G2 (oi_1 F1 R1 hu hv hi es kk e2) (OX.hh (u := u) ⟨oS, oZ, fun d _ => by rw [oA], oJ⟩ ⟨(et.of (g := g1) (g' := kdr (cq_sI g1 (T s) 5 0) (T s + 1) (T s + 2) (T s + 3) (T s + 4) (m_keptAt g x s) (cq_I g1 (T s + 1) 4 - 1) (cq_I g1 (T s + 1) 4 - 1)) rfl rfl rfl).trans e2.et, ⟨sr1.s0, sr1.s1⟩, fun d sd _ => e2.A (h := kdr (cq_sI g1 (T s) 5 0) (T s + 1) (T s + 2) (T s + 3) (T s + 4) (m_keptAt g x s) (cq_I g1 (T s + 1) 4 - 1) (cq_I g1 (T s + 1) 4 - 1)) sd rfl, b3, e3_, sb3, Or.inl ⟨kk.1, e2.A (h := kdr (cq_sI g1 (T s) 5 0) (T s + 1) (T s + 2) (T s + 3) (T s + 4) (m_keptAt g x s) (cq_I g1 (T s + 1) 4 - 1) (cq_I g1 (T s + 1) 4 - 1)) sr1.s0 rfl, f2⟩⟩)
  · -- on the chain, or behind a TURN
    have kk : m_keptAt g x s < 0 := by
      rcases kr with z | z
      · omega
      · rw [if_neg (by omega)] at ek
        omega
    have ok : m_openA g x l s = 0 := pk.mp (Or.inr ⟨ek, cs, tg⟩)
    have F1 := F.ox o
    have R1 := R.ox o F.s13 F.sob
    have sr1 := (F1.fo u v hu.1 hu.2 hv.1 hv.2).ss i0 hi.1 hi.2
    rw [es] at sr1
    have fu1 := F1.fu u hu.1 hu.2
    have sp1 := fu1.s0
    have ol := pl_old sr.z R t01
    have key := pl_key sr.z R t01 jw0 cs.1
    have chE := pl_ch sr.z R t01 jw0 cs.1
    have km1 := sr1.km
    have hr := sr.hr
    obtain ⟨c1, c2, c3, c4⟩ := cs
    have ky : cq_J g1 op 7 = m_oky g x s := by
      rw [j7, key]
      unfold m_oky
      rw [if_pos kk]
    rw [chE, ol.2] at j6 a2
    rw [ol.1] at i3 a1 a2 c3 c4
    rw [ol.2] at i4 c3 c4
    rw [km] at c4
    rw [R.pl, sr.nr] at c2
    have rt := sr.rt
    have com : m_tn g x s = 1 → f_common (cq_J h w 0) (cq_J h en 9) = m_com g x s 1 := fun _ => by
      unfold m_com
      rw [if_pos (by decide), jw0, R.op]
    have rcE := sr.rc
    clear ol key chE pk ht hkf
    refine bx_X10_openIn_40 hY (pf2_ok hY) ?_
    simp only [wp_iconst, wp_bipush, wp_sipush, wp_ldc, wp_ldc2_w, wp_lconst0, wp_lconst1, wp_aconst_null, wp_iload_0, wp_istore_0, wp_iload_1, wp_istore_1, wp_iload_2, wp_istore_2, wp_iload_3, wp_istore_3, wp_iload, wp_istore, wp_lload_0, wp_lstore_0, wp_lload_1, wp_lstore_1, wp_lload_2, wp_lstore_2, wp_lload_3, wp_lstore_3, wp_lload, wp_lstore, wp_aload_0, wp_astore_0, wp_aload_1, wp_astore_1, wp_aload_2, wp_astore_2, wp_aload_3, wp_astore_3, wp_aload, wp_astore, wp_iinc, wp_iadd, wp_isub, wp_imul, wp_iand, wp_ior, wp_ixor, wp_ishl, wp_ishr, wp_iushr, wp_irem, wp_ladd, wp_lsub, wp_lmul, wp_land, wp_lor, wp_lxor, wp_lshl, wp_lshr, wp_lushr, wp_lrem, wp_lcmp, wp_i2l, wp_l2i, wp_dupI, wp_dupA, wp_dup2J, wp_dup2IA, wp_popI, wp_popA, wp_pop2, wp_goto, wp_if_eq, wp_icmp_eq, wp_if_ne, wp_icmp_ne, wp_if_lt, wp_icmp_lt, wp_if_ge, wp_icmp_ge, wp_if_gt, wp_icmp_gt, wp_if_le, wp_icmp_le, wp_ifnull, wp_ifnonnull, wp_acmp_eq, wp_acmp_ne, wp_tableswitch, wp_get0, wp_put0, wp_get1, wp_put1, wp_get2, wp_put2, wp_get3, wp_put3, wp_new, wp_newarray, wp_anewarray, wp_alen, wp_iaload, wp_laload, wp_baload, wp_aaload, wp_iastore, wp_lastore, wp_bastore, wp_aastore, wp_return, wp_ireturnI, wp_ireturnZ, wp_lreturn, wp_areturnO, wp_areturnA, wp_max, wp_min, wp_obj, wp_virt, wp_nil, ld_I0, ld_Is, ld_J0, ld_Js, ld_A0, ld_As, ha_0, ha_s, cx_put1, cx_put2, cx_dl, cx_tgt, true_and, and_true, Nat.reduceAdd, Nat.reduceSub, Int.reduceAdd, Int.reduceNeg, Int.reduceToNat, Int.reduceSub, Int.cast_ofNat_Int, List.take_succ_cons, List.take_zero, List.drop_succ_cons, List.drop_zero, List.take_nil, List.drop_nil, Option.toList_some, Option.toList_none, List.cons_append, List.nil_append, wp_spec, ne_eq, Nat.reduceEqDiff, not_false_eq_true, true_or, or_true, F1.fs.s0, F1.a13, F1.a12, F1.s12]
    refine ⟨fun q => absurd trivial q, fun _ => ?_⟩
    refine cl_X10_secretOf (Nat.le_of_ble_eq_true rfl) F1.fs.s0 (by omega) (by omega) (s_X10_secretOf hY G ⟨by omega, n26.2⟩ F1.a0 hC (F1.uP hP) (fun o' so' => ?_))
    have ho' := so'.s
    obtain ⟨b3, e3_, sb3, _⟩ := G.g1_3 sr1.s1 List.not_mem_nil
    have hE3 : E b3 ≠ none := E4_of G hE4 sb3 (by decide) (by decide)
    have hE7 : cq_s h0 (T s) = 7 → E (T s) ≠ none := fun _ => E4_of G hE4 sr1.s0 (by decide) (by decide)
    have oS : cq_s g1 = cq_s h := o.2.1
    have oZ : cq_z g1 = cq_z h := o.2.2.1
    have oA : cq_A g1 = cq_A h := o.2.2.2.1
    have oJ : ∀ d, cq_s h d = 6 → cq_J g1 d = cq_J h d := fun d sd => o.2.2.2.2.2 d (fun z => by rw [z, F.s13] at sd; exact absurd sd (by decide)) (fun z => by rw [z, F.sob] at sd; exact absurd sd (by decide))
    refine bx_X10_openIn_69 hY (pf2_ok hY) ?_
    try simp only [wp_iconst, wp_bipush, wp_sipush, wp_ldc, wp_ldc2_w, wp_lconst0, wp_lconst1, wp_aconst_null, wp_iload_0, wp_istore_0, wp_iload_1, wp_istore_1, wp_iload_2, wp_istore_2, wp_iload_3, wp_istore_3, wp_iload, wp_istore, wp_lload_0, wp_lstore_0, wp_lload_1, wp_lstore_1, wp_lload_2, wp_lstore_2, wp_lload_3, wp_lstore_3, wp_lload, wp_lstore, wp_aload_0, wp_astore_0, wp_aload_1, wp_astore_1, wp_aload_2, wp_astore_2, wp_aload_3, wp_astore_3, wp_aload, wp_astore, wp_iinc, wp_iadd, wp_isub, wp_imul, wp_iand, wp_ior, wp_ixor, wp_ishl, wp_ishr, wp_iushr, wp_irem, wp_ladd, wp_lsub, wp_lmul, wp_land, wp_lor, wp_lxor, wp_lshl, wp_lshr, wp_lushr, wp_lrem, wp_lcmp, wp_i2l, wp_l2i, wp_dupI, wp_dupA, wp_dup2J, wp_dup2IA, wp_popI, wp_popA, wp_pop2, wp_goto, wp_if_eq, wp_icmp_eq, wp_if_ne, wp_icmp_ne, wp_if_lt, wp_icmp_lt, wp_if_ge, wp_icmp_ge, wp_if_gt, wp_icmp_gt, wp_if_le, wp_icmp_le, wp_ifnull, wp_ifnonnull, wp_acmp_eq, wp_acmp_ne, wp_tableswitch, wp_get0, wp_put0, wp_get1, wp_put1, wp_get2, wp_put2, wp_get3, wp_put3, wp_new, wp_newarray, wp_anewarray, wp_alen, wp_iaload, wp_laload, wp_baload, wp_aaload, wp_iastore, wp_lastore, wp_bastore, wp_aastore, wp_return, wp_ireturnI, wp_ireturnZ, wp_lreturn, wp_areturnO, wp_areturnA, wp_max, wp_min, wp_obj, wp_virt, wp_nil, ld_I0, ld_Is, ld_J0, ld_Js, ld_A0, ld_As, ha_0, ha_s, cx_put1, cx_put2, cx_dl, cx_tgt, true_and, and_true, Nat.reduceAdd, Nat.reduceSub, Int.reduceAdd, Int.reduceNeg, Int.reduceToNat, Int.reduceSub, Int.cast_ofNat_Int, List.take_succ_cons, List.take_zero, List.drop_succ_cons, List.drop_zero, List.take_nil, List.drop_nil, Option.toList_some, Option.toList_none, List.cons_append, List.nil_append, wp_spec, ne_eq, Nat.reduceEqDiff, not_false_eq_true, true_or, or_true]
    have bef0 : 0 ≤ m_bef g x s (m_tn g x s) := by
      unfold m_bef
      split <;> omega
    have beh0 : 0 ≤ m_beh g x s (m_tn g x s) := by
      unfold m_beh
      rcases t01 with z | z
      · rw [if_neg (by omega)]; omega
      · rw [if_pos (by omega)]; exact h81
    refine cl_X4_carryOut (Nat.le_of_ble_eq_true rfl) F1.s13 (by omega) (by omega) (e_X4_carryOut hY G (by omega) F1.s13 sr1.s0 F1.s12 sp1 ho' F1.aob sr1.a19 sr1.k0 sr1.k1 sr1.k2 e3_ hE3 hE7 (fun _ => by omega) (Or.inl i1) (fun _ => by omega) (fun q => by omega) (fun _ q2 m2 G2 e2 f2 => ?_) (fun _ q2 m2 q q' t r_ w_ er_ ew_ G2 e2 f2 tq1 tq2 tn2 wt st0 st j0 j1 => ?_))
    · have t0 : m_tn g x s = 0 := i2.symm.trans q2
      rw [t0] at i3 i4 j6 a2 c1 c2 c3 c4 bef0 beh0
      have b0 : m_bef g x s 0 = 0 := by
        unfold m_bef
        rw [if_neg (fun q => absurd rfl q.1)]
      have b1 : m_beh g x s 0 = cq_I g x 81 - cq_I g (x + 41) s := by
        unfold m_beh
        rw [if_neg (fun q => absurd rfl q)]
      have ch : m_ch0 g x s 0 = cq_J g (x + 34) s := by
        unfold m_ch0
        rw [if_neg (fun q => absurd rfl q)]
      rw [b0] at i3 a2 c3 c4
      rw [b1] at i4 j6 a2 c3 c4 beh0
      rw [ch] at j6 a2
      have ez : cq_I (cq_sI g1 (T s) 5 0) (T s + 1) 4 = cq_I g1 (T s + 1) 4 := by rw [mm_sI, if_neg (fun q => by omega)]
      rw [i3, kpW_0 ez.symm, i4, j6, R1.pl, Int.add_zero] at e2
      rw [i3, i4, kpG_0, Int.add_zero, sr1.km] at f2
      have A2' : ∀ d, cq_s g1 d = 7 → cq_A m2 d = cq_A g1 d := fun d sd => by
        rw [e2.A (a := d) (k0 := 7) (by rw [coR_s, kpW_qs]; exact sd) rfl, coR_A, kpW_qA]
        rfl
      have h35 : cq_I g (x + 35) s ≠ 0 := fun z => c1 ⟨rfl, hr.mpr z⟩
      exact last g1 m2 _ _ ok R1 F1 ky G2 (oi_2 F1 R1 hu hv hi es kk t0 ⟨beh0, by omega⟩ h35 rfl (fun i i0 i1 => a2 i i0 i1) e2) (OX.hh (u := u) ⟨oS, oZ, fun d _ => by rw [oA], oJ⟩ ⟨(et.of rfl rfl rfl).trans e2.et, ⟨sr1.s0, sr1.s1⟩, fun d sd _ => A2' d sd, b3, e3_, sb3, Or.inr (Or.inl ⟨kk, t0, A2' _ sr1.s0, f2⟩)⟩)
    · have t1 : m_tn g x s = 1 := i2.symm.trans q2
      have com1 := com t1
      have j5' := j5 t1
      rw [rt, com1] at j5'
      rw [t1] at i3 i4 j6 a1 a2 c1 c2 c3 c4 bef0 beh0
      have b1 : m_beh g x s 1 = cq_I g x 81 := by
        unfold m_beh
        rw [if_pos (by decide)]
      rw [b1] at i4 j6 a2 c3 c4 beh0
      have er1 : ∀ i, 0 ≤ i → i < m_bef g x s 1 → cq_J g1 ob i = lkC (nxI i.toNat (cq_J g (x + 34) s)) := fun i y0 y1 => by
        have h35 : cq_I g (x + 35) s ≠ 0 := fun z => by
          have : m_bef g x s 1 = 0 := by
            unfold m_bef
            rw [if_neg (fun q => q.2.1 z)]
          omega
        rw [a1 i y0 y1, rcE h35]
      rw [i3, i4, sr1.km] at f2
      rw [R1.op] at so'
      have es5 : cq_s (tsW (coD (coR (kpW (trW (kpW (cq_sI g1 (T s) 5 0) (T s + 1) (T s + 2) (T s + 3) (T s + 4) (cq_I g1 (T s + 1) 4) (cq_I g1 op 3) (cq_J g1 (T s) 13) (cq_I g1 (T s) 17) (fun i => cq_J g1 ob i)) (T s) q (cq_I g1 (T s) 16) (cq_J g1 en 9) (cq_J g1 op 5) o') (T s + 1) (T s + 2) (T s + 3) (T s + 4) (cq_I g1 (T s + 1) 4 + cq_I g1 op 3) (cq_I g1 op 4) (cq_J g1 en 9) 0 (fun i => cq_J g1 ob (cq_I g1 op 3 + i))) (T s) (cq_J g1 op 6) (cq_I g1 en 11 + 1)) (pe u) t (cq_I g1 (pe u) 1)) (T s) t q' (cq_J g1 op 5) (f_common (dV (cq_J g1 (pe u) 0) (cq_I g1 (pe u) 1)) (cq_J g1 en 9))) = cq_s g1 := by rw [tsW_s, coD_s, coR_s, kpW_qs, trW_s, kpW_qs]; rfl
      have npT : ¬ T s = pe u := ns sr1.s0 sp1 (by decide)
      have a_o : ∀ d, cq_s g1 d = 7 → d ≠ T s → cq_A m2 d = cq_A g1 d := fun d sd nd => by
        have nd2 : ¬ d = pe u := ns sd sp1 (by decide)
        rw [e2.A (k0 := 7) (by rw [es5]; exact sd) rfl]
        funext j
        unfold tsW coD trW
        simp only [coR_A, kpW_qA, mm_sI, mm_sJ, mm_sA, mm_IJ, mm_IA, mm_JI, mm_JA, mm_AI, mm_AJ, mm_ssI, mm_ssJ, mm_ssA, mm_zI, mm_zJ, mm_zA, mm_nI, mm_nJ, mm_nA, nd, nd2, Nat.left_eq_add, Nat.add_eq_left, Nat.add_left_cancel_iff, Nat.reduceEqDiff, Int.reduceEq, false_and, and_false, if_false, if_true, and_self, true_and, true_or, or_true, false_or, or_false]
      have a_s : ∀ j, cq_A m2 (T s) j = if j = 9 then some q' else if j = 7 then some q' else if j = 12 then some t else if j = 11 then some q else if j = 14 then o' else cq_A g1 (T s) j := fun j => by
        rw [e2.A (k0 := 7) (by rw [es5]; exact sr1.s0) rfl]
        unfold tsW coD trW
        simp only [coR_A, kpW_qA, mm_sI, mm_sJ, mm_sA, mm_IJ, mm_IA, mm_JI, mm_JA, mm_AI, mm_AJ, mm_ssI, mm_ssJ, mm_ssA, mm_zI, mm_zJ, mm_zA, mm_nI, mm_nJ, mm_nA, npT, Nat.left_eq_add, Nat.add_eq_left, Nat.add_left_cancel_iff, Nat.reduceEqDiff, Int.reduceEq, false_and, and_false, if_false, if_true, and_self, true_and, true_or, or_true, false_or, or_false]
        repeat' split
        all_goals (first | rfl | (exfalso; omega))
      have ox2 : OX x u s g (T s) h m2 := OX.hh (u := u) ⟨oS, oZ, fun d _ => by rw [oA], oJ⟩ ⟨wt, ⟨sr1.s0, sr1.s1⟩, a_o, b3, e3_, sb3, Or.inr (Or.inr ⟨kk, t1, q, q', t, r_, w_, o', so', ⟨er_, ew_⟩, ⟨by rw [a_s, if_neg (by decide), if_pos rfl], by rw [a_s, if_pos rfl], by rw [a_s, if_neg (by decide), if_neg (by decide), if_neg (by decide), if_pos rfl], by rw [a_s, if_neg (by decide), if_neg (by decide), if_pos rfl], by rw [a_s, if_neg (by decide), if_neg (by decide), if_neg (by decide), if_neg (by decide), if_pos rfl]⟩, tq1, ⟨tq2, tn2⟩, ⟨st0, st, by rw [← fu1.dr, ← fu1.sd]; exact j1⟩, f2⟩)⟩
      rw [i3, i4, j5', j6, R1.op, R1.pl, fu1.dr, fu1.sd] at e2
      rw [fu1.dr, fu1.sd] at j0 j1
      exact last g1 m2 _ _ ok R1 F1 ky G2 (oi_3 F1 R1 hu hv hi es kk t1 ⟨bef0, h81, by omega⟩ rfl er1 (fun i y0 y1 => a2 i y0 y1) e2 st j0 j1) ox2
end
