/-! class and reference side by side: openIn, called -/
section
variable {Y : cx_Y} {K : Option cx_V → cx_Q → Prop} {c x : Nat} {n L Z : Int} {E : Nat → Option Int} {h0 : cx_Q} {h g g' : cx_Q} {pe : Int → Nat} {ro : Int → Int → Nat} {pa lb tp rd en op ob : Nat} {T Lf : Int → Nat}
theorem f_X10_openIn (hY : cY Y) {b : Nat} {u v i0 s l : Int} (H : CI c n L Z E h0 [] h) (hZ : Z ≤ 900000) (F : FX c x n pe ro pa lb tp rd en op ob T Lf h g) (R : ER x en b l h g) (hu : 0 ≤ u ∧ u < n) (hv : 0 ≤ v ∧ v < n) (ev_ : cq_I h en 3 = v) (hi : 0 ≤ i0 ∧ i0 < cq_I g (x + 30) (6 * u + v)) (es : cq_I g (x + 29) (4 * (6 * u + v) + i0) = s) (h81 : 0 ≤ cq_I g x 81)
    (hF : m_openA g x l s ≠ 0 → ∀ m h', 1 ≤ m → m ≤ 10 → CI c n L (Z + 1) E h0 [] h' → FX c x n pe ro pa lb tp rd en op ob T Lf h' g → ER x en b l h' g → K (some (.inl m)) h')
    (hK : m_openA g x l s = 0 → ∀ h', CI c n L (Z + 1) E h0 [] h' → OI c x n pe ro pa lb tp rd en op ob T Lf b l u v i0 s g h' → K (some (.inl 0)) h') : cw Y mi_X10_openIn K 0 [some (.inr (.inr (some c))), some (.inr (.inr (some (pe u)))), some (.inl i0), none, none, none] [] h 7 182 := by
  have hc := H.cs
  have fu := F.fu u hu.1 hu.2
  have fo := F.fo u v hu.1 hu.2 hv.1 hv.2
  have sp := fu.s0
  have r13 := F.r13 u hu.1 hu.2
  have zr : cq_z h (pe u + 6) = n := H.tz r13.2
  have era := F.ra u v hu.1 hu.2 hv.1 hv.2
  have n26 := F.n26
  have rm := fo.rm
  have at0 := fo.at_ i0 hi.1 hi.2
  have sr := fo.ss i0 hi.1 hi.2
  rw [es] at at0 sr
  obtain ⟨w, ew, sw, jw0, jw1⟩ := sr.ow
  refine bx_X10_openIn_0 hY (pf2_ok hY) ?_
  simp only [wp_iconst, wp_bipush, wp_sipush, wp_ldc, wp_ldc2_w, wp_lconst0, wp_lconst1, wp_aconst_null, wp_iload_0, wp_istore_0, wp_iload_1, wp_istore_1, wp_iload_2, wp_istore_2, wp_iload_3, wp_istore_3, wp_iload, wp_istore, wp_lload_0, wp_lstore_0, wp_lload_1, wp_lstore_1, wp_lload_2, wp_lstore_2, wp_lload_3, wp_lstore_3, wp_lload, wp_lstore, wp_aload_0, wp_astore_0, wp_aload_1, wp_astore_1, wp_aload_2, wp_astore_2, wp_aload_3, wp_astore_3, wp_aload, wp_astore, wp_iinc, wp_iadd, wp_isub, wp_imul, wp_iand, wp_ior, wp_ixor, wp_ishl, wp_ishr, wp_iushr, wp_irem, wp_ladd, wp_lsub, wp_lmul, wp_land, wp_lor, wp_lxor, wp_lshl, wp_lshr, wp_lushr, wp_lrem, wp_lcmp, wp_i2l, wp_l2i, wp_dupI, wp_dupA, wp_dup2J, wp_dup2IA, wp_popI, wp_popA, wp_pop2, wp_goto, wp_if_eq, wp_icmp_eq, wp_if_ne, wp_icmp_ne, wp_if_lt, wp_icmp_lt, wp_if_ge, wp_icmp_ge, wp_if_gt, wp_icmp_gt, wp_if_le, wp_icmp_le, wp_ifnull, wp_ifnonnull, wp_acmp_eq, wp_acmp_ne, wp_tableswitch, wp_get0, wp_put0, wp_get1, wp_put1, wp_get2, wp_put2, wp_get3, wp_put3, wp_new, wp_newarray, wp_anewarray, wp_alen, wp_iaload, wp_laload, wp_baload, wp_aaload, wp_iastore, wp_lastore, wp_bastore, wp_aastore, wp_return, wp_ireturnI, wp_ireturnZ, wp_lreturn, wp_areturnO, wp_areturnA, wp_max, wp_min, wp_obj, wp_virt, wp_nil, ld_I0, ld_Is, ld_J0, ld_Js, ld_A0, ld_As, ha_0, ha_s, cx_put1, cx_put2, cx_dl, cx_tgt, true_and, and_true, Nat.reduceAdd, Nat.reduceSub, Int.reduceAdd, Int.reduceNeg, Int.reduceToNat, Int.reduceSub, Int.cast_ofNat_Int, List.take_succ_cons, List.take_zero, List.drop_succ_cons, List.drop_zero, List.take_nil, List.drop_nil, Option.toList_some, Option.toList_none, List.cons_append, List.nil_append, wp_spec, ne_eq, Nat.reduceEqDiff, not_false_eq_true, true_or, or_true, hc, sp, r13.1, F.a12, F.s12, r13.2, zr, ev_, era, ra_181]
  refine ⟨by omega, ?_⟩
  refine cl_X6_at (Nat.le_of_ble_eq_true rfl) fo.s0 (by omega) (by omega) (c_X6_at hY H List.not_mem_nil fo.s0 (fun q => absurd q (by omega)) (fun _ _ t et _ _ => ?_))
  have ett : t = T s := by
    rw [at0] at et
    exact (Option.some.inj et).symm
  rw [ett]
  clear et ett
  refine bx_X10_openIn_18 hY (pf2_ok hY) ?_
  simp only [wp_iconst, wp_bipush, wp_sipush, wp_ldc, wp_ldc2_w, wp_lconst0, wp_lconst1, wp_aconst_null, wp_iload_0, wp_istore_0, wp_iload_1, wp_istore_1, wp_iload_2, wp_istore_2, wp_iload_3, wp_istore_3, wp_iload, wp_istore, wp_lload_0, wp_lstore_0, wp_lload_1, wp_lstore_1, wp_lload_2, wp_lstore_2, wp_lload_3, wp_lstore_3, wp_lload, wp_lstore, wp_aload_0, wp_astore_0, wp_aload_1, wp_astore_1, wp_aload_2, wp_astore_2, wp_aload_3, wp_astore_3, wp_aload, wp_astore, wp_iinc, wp_iadd, wp_isub, wp_imul, wp_iand, wp_ior, wp_ixor, wp_ishl, wp_ishr, wp_iushr, wp_irem, wp_ladd, wp_lsub, wp_lmul, wp_land, wp_lor, wp_lxor, wp_lshl, wp_lshr, wp_lushr, wp_lrem, wp_lcmp, wp_i2l, wp_l2i, wp_dupI, wp_dupA, wp_dup2J, wp_dup2IA, wp_popI, wp_popA, wp_pop2, wp_goto, wp_if_eq, wp_icmp_eq, wp_if_ne, wp_icmp_ne, wp_if_lt, wp_icmp_lt, wp_if_ge, wp_icmp_ge, wp_if_gt, wp_icmp_gt, wp_if_le, wp_icmp_le, wp_ifnull, wp_ifnonnull, wp_acmp_eq, wp_acmp_ne, wp_tableswitch, wp_get0, wp_put0, wp_get1, wp_put1, wp_get2, wp_put2, wp_get3, wp_put3, wp_new, wp_newarray, wp_anewarray, wp_alen, wp_iaload, wp_laload, wp_baload, wp_aaload, wp_iastore, wp_lastore, wp_bastore, wp_aastore, wp_return, wp_ireturnI, wp_ireturnZ, wp_lreturn, wp_areturnO, wp_areturnA, wp_max, wp_min, wp_obj, wp_virt, wp_nil, ld_I0, ld_Is, ld_J0, ld_Js, ld_A0, ld_As, ha_0, ha_s, cx_put1, cx_put2, cx_dl, cx_tgt, true_and, and_true, Nat.reduceAdd, Nat.reduceSub, Int.reduceAdd, Int.reduceNeg, Int.reduceToNat, Int.reduceSub, Int.cast_ofNat_Int, List.take_succ_cons, List.take_zero, List.drop_succ_cons, List.drop_zero, List.take_nil, List.drop_nil, Option.toList_some, Option.toList_none, List.cons_append, List.nil_append, wp_spec, ne_eq, Nat.reduceEqDiff, not_false_eq_true, true_or, or_true]
  refine ⟨fun i _ => ?_, fun q => (nomatch q)⟩
  refine bx_X10_openIn_27 hY (pf2_ok hY) ?_
  simp only [wp_iconst, wp_bipush, wp_sipush, wp_ldc, wp_ldc2_w, wp_lconst0, wp_lconst1, wp_aconst_null, wp_iload_0, wp_istore_0, wp_iload_1, wp_istore_1, wp_iload_2, wp_istore_2, wp_iload_3, wp_istore_3, wp_iload, wp_istore, wp_lload_0, wp_lstore_0, wp_lload_1, wp_lstore_1, wp_lload_2, wp_lstore_2, wp_lload_3, wp_lstore_3, wp_lload, wp_lstore, wp_aload_0, wp_astore_0, wp_aload_1, wp_astore_1, wp_aload_2, wp_astore_2, wp_aload_3, wp_astore_3, wp_aload, wp_astore, wp_iinc, wp_iadd, wp_isub, wp_imul, wp_iand, wp_ior, wp_ixor, wp_ishl, wp_ishr, wp_iushr, wp_irem, wp_ladd, wp_lsub, wp_lmul, wp_land, wp_lor, wp_lxor, wp_lshl, wp_lshr, wp_lushr, wp_lrem, wp_lcmp, wp_i2l, wp_l2i, wp_dupI, wp_dupA, wp_dup2J, wp_dup2IA, wp_popI, wp_popA, wp_pop2, wp_goto, wp_if_eq, wp_icmp_eq, wp_if_ne, wp_icmp_ne, wp_if_lt, wp_icmp_lt, wp_if_ge, wp_icmp_ge, wp_if_gt, wp_icmp_gt, wp_if_le, wp_icmp_le, wp_ifnull, wp_ifnonnull, wp_acmp_eq, wp_acmp_ne, wp_tableswitch, wp_get0, wp_put0, wp_get1, wp_put1, wp_get2, wp_put2, wp_get3, wp_put3, wp_new, wp_newarray, wp_anewarray, wp_alen, wp_iaload, wp_laload, wp_baload, wp_aaload, wp_iastore, wp_lastore, wp_bastore, wp_aastore, wp_return, wp_ireturnI, wp_ireturnZ, wp_lreturn, wp_areturnO, wp_areturnA, wp_max, wp_min, wp_obj, wp_virt, wp_nil, ld_I0, ld_Is, ld_J0, ld_Js, ld_A0, ld_As, ha_0, ha_s, cx_put1, cx_put2, cx_dl, cx_tgt, true_and, and_true, Nat.reduceAdd, Nat.reduceSub, Int.reduceAdd, Int.reduceNeg, Int.reduceToNat, Int.reduceSub, Int.cast_ofNat_Int, List.take_succ_cons, List.take_zero, List.drop_succ_cons, List.drop_zero, List.take_nil, List.drop_nil, Option.toList_some, Option.toList_none, List.cons_append, List.nil_append, wp_spec, ne_eq, Nat.reduceEqDiff, not_false_eq_true, true_or, or_true, hc, F.a13, F.a12]
  -- behind the carrying out
  have last : ∀ (m m2 : cx_Q) bc bs, m_openA g x l s = 0 → ER x en b l m g → FX c x n pe ro pa lb tp rd en op ob T Lf m g → cq_J m op 7 = m_oky g x s → CI c n L (Z + 1) E h0 [] m2 → (FX c x n pe ro pa lb tp rd en op ob T Lf m2 (bk x g (m_openQ g x u s)) ∧ evx (fun a => scl (T s) a ∨ a = pe u) m m2) → cw Y mi_X10_openIn K 72 [some (.inr (.inr (some c))), some (.inr (.inr (some (pe u)))), some (.inl i0), some (.inr (.inr (some (ro u v)))), some (.inr (.inr (some (T s)))), some (.inl 0)] [] m2 bc bs := by
    intro m m2 bc bs ok R1 F1 k7 G2 q
    obtain ⟨F2, ex⟩ := q
    have fo1 := F1.fo u v hu.1 hu.2 hv.1 hv.2
    have S1 := fo1.ss i0 hi.1 hi.2
    rw [es] at S1
    have p1 := (F1.fu u hu.1 hu.2).s0
    have so1 := F1.s13
    have npp : ∀ {d k : Nat}, cq_s m d = k → (k = 0 ∨ k = 100 ∨ k = 3 ∨ k = 5) → ¬ (scl (T s) d ∨ d = pe u) := fun {d k} w1 w2 z => by
      rcases z with z | z
      · have := S1.cl z
        omega
      · rw [z, p1] at w1; omega
    have R2 := R1.ex ex (npp R1.s0 (Or.inl rfl)) (npp R1.sb (Or.inr (Or.inl rfl)))
    have k2 : cq_J m2 op 7 = m_oky g x s := by rw [ex.J so1 (by decide) (npp so1 (Or.inr (Or.inr (Or.inl rfl))))]; exact k7
    have fo2 := F2.fo u v hu.1 hu.2 hv.1 hv.2
    have g30 : cq_I (bk x g (m_openQ g x u s)) (x + 30) (6 * u + v) = cq_I g (x + 30) (6 * u + v) := by
      rw [← fo2.rm, ex.I fo1.s0 rfl (npp fo1.s0 (Or.inr (Or.inr (Or.inr rfl))))]
      exact fo1.rm
    have rm2 := fo2.rm
    rw [g30] at rm2
    have hi2 : 0 ≤ i0 ∧ i0 < cq_I (bk x g (m_openQ g x u s)) (x + 30) (6 * u + v) := by rw [g30]; exact hi
    refine bx_X10_openIn_72 hY (pf2_ok hY) ?_
    simp only [wp_iconst, wp_bipush, wp_sipush, wp_ldc, wp_ldc2_w, wp_lconst0, wp_lconst1, wp_aconst_null, wp_iload_0, wp_istore_0, wp_iload_1, wp_istore_1, wp_iload_2, wp_istore_2, wp_iload_3, wp_istore_3, wp_iload, wp_istore, wp_lload_0, wp_lstore_0, wp_lload_1, wp_lstore_1, wp_lload_2, wp_lstore_2, wp_lload_3, wp_lstore_3, wp_lload, wp_lstore, wp_aload_0, wp_astore_0, wp_aload_1, wp_astore_1, wp_aload_2, wp_astore_2, wp_aload_3, wp_astore_3, wp_aload, wp_astore, wp_iinc, wp_iadd, wp_isub, wp_imul, wp_iand, wp_ior, wp_ixor, wp_ishl, wp_ishr, wp_iushr, wp_irem, wp_ladd, wp_lsub, wp_lmul, wp_land, wp_lor, wp_lxor, wp_lshl, wp_lshr, wp_lushr, wp_lrem, wp_lcmp, wp_i2l, wp_l2i, wp_dupI, wp_dupA, wp_dup2J, wp_dup2IA, wp_popI, wp_popA, wp_pop2, wp_goto, wp_if_eq, wp_icmp_eq, wp_if_ne, wp_icmp_ne, wp_if_lt, wp_icmp_lt, wp_if_ge, wp_icmp_ge, wp_if_gt, wp_icmp_gt, wp_if_le, wp_icmp_le, wp_ifnull, wp_ifnonnull, wp_acmp_eq, wp_acmp_ne, wp_tableswitch, wp_get0, wp_put0, wp_get1, wp_put1, wp_get2, wp_put2, wp_get3, wp_put3, wp_new, wp_newarray, wp_anewarray, wp_alen, wp_iaload, wp_laload, wp_baload, wp_aaload, wp_iastore, wp_lastore, wp_bastore, wp_aastore, wp_return, wp_ireturnI, wp_ireturnZ, wp_lreturn, wp_areturnO, wp_areturnA, wp_max, wp_min, wp_obj, wp_virt, wp_nil, ld_I0, ld_Is, ld_J0, ld_Js, ld_A0, ld_As, ha_0, ha_s, cx_put1, cx_put2, cx_dl, cx_tgt, true_and, and_true, Nat.reduceAdd, Nat.reduceSub, Int.reduceAdd, Int.reduceNeg, Int.reduceToNat, Int.reduceSub, Int.cast_ofNat_Int, List.take_succ_cons, List.take_zero, List.drop_succ_cons, List.drop_zero, List.take_nil, List.drop_nil, Option.toList_some, Option.toList_none, List.cons_append, List.nil_append, wp_spec, ne_eq, Nat.reduceEqDiff, not_false_eq_true, true_or, or_true]
    refine cl_X6_bringFirst (Nat.le_of_ble_eq_true rfl) fo2.s0 (Nat.zero_le _) (Nat.zero_le _) (e_X6_bringFirst hY G2 List.not_mem_nil fo2.s0 (by rw [rm2]; exact hi) (fun g3 G3 e3 => ?_))
    have F3 := fx_front F2 hu hv hi2 e3
    have ex3 : evx (fun a => a = ro u v + 1) m2 g3 := by
      rw [e3]
      exact evx.rA (P := fun a => a = ro u v + 1) evx.refl rfl
    have t1 := fo2.s1
    have R3 := R2.ex ex3 (fun z => by have := R2.s0; rw [z, t1] at this; omega) (fun z => by have := R2.sb; rw [z, t1] at this; omega)
    have k3 : cq_J g3 op 7 = m_oky g x s := by rw [ex3.J F2.s13 (by decide) (fun z => by have := F2.s13; rw [z, t1] at this; omega)]; exact k2
    refine bx_X10_openIn_77 hY (pf2_ok hY) ?_
    simp only [wp_iconst, wp_bipush, wp_sipush, wp_ldc, wp_ldc2_w, wp_lconst0, wp_lconst1, wp_aconst_null, wp_iload_0, wp_istore_0, wp_iload_1, wp_istore_1, wp_iload_2, wp_istore_2, wp_iload_3, wp_istore_3, wp_iload, wp_istore, wp_lload_0, wp_lstore_0, wp_lload_1, wp_lstore_1, wp_lload_2, wp_lstore_2, wp_lload_3, wp_lstore_3, wp_lload, wp_lstore, wp_aload_0, wp_astore_0, wp_aload_1, wp_astore_1, wp_aload_2, wp_astore_2, wp_aload_3, wp_astore_3, wp_aload, wp_astore, wp_iinc, wp_iadd, wp_isub, wp_imul, wp_iand, wp_ior, wp_ixor, wp_ishl, wp_ishr, wp_iushr, wp_irem, wp_ladd, wp_lsub, wp_lmul, wp_land, wp_lor, wp_lxor, wp_lshl, wp_lshr, wp_lushr, wp_lrem, wp_lcmp, wp_i2l, wp_l2i, wp_dupI, wp_dupA, wp_dup2J, wp_dup2IA, wp_popI, wp_popA, wp_pop2, wp_goto, wp_if_eq, wp_icmp_eq, wp_if_ne, wp_icmp_ne, wp_if_lt, wp_icmp_lt, wp_if_ge, wp_icmp_ge, wp_if_gt, wp_icmp_gt, wp_if_le, wp_icmp_le, wp_ifnull, wp_ifnonnull, wp_acmp_eq, wp_acmp_ne, wp_tableswitch, wp_get0, wp_put0, wp_get1, wp_put1, wp_get2, wp_put2, wp_get3, wp_put3, wp_new, wp_newarray, wp_anewarray, wp_alen, wp_iaload, wp_laload, wp_baload, wp_aaload, wp_iastore, wp_lastore, wp_bastore, wp_aastore, wp_return, wp_ireturnI, wp_ireturnZ, wp_lreturn, wp_areturnO, wp_areturnA, wp_max, wp_min, wp_obj, wp_virt, wp_nil, ld_I0, ld_Is, ld_J0, ld_Js, ld_A0, ld_As, ha_0, ha_s, cx_put1, cx_put2, cx_dl, cx_tgt, true_and, and_true, Nat.reduceAdd, Nat.reduceSub, Int.reduceAdd, Int.reduceNeg, Int.reduceToNat, Int.reduceSub, Int.cast_ofNat_Int, List.take_succ_cons, List.take_zero, List.drop_succ_cons, List.drop_zero, List.take_nil, List.drop_nil, Option.toList_some, Option.toList_none, List.cons_append, List.nil_append, wp_spec, ne_eq, Nat.reduceEqDiff, not_false_eq_true, true_or, or_true]
    exact hK ok g3 G3 ⟨F3, R3, k3⟩
  have ht := pl_t sr.z R
  have hkf := pl_kf sr.z R
  have t01 := tn_01 (g := g) (x := x) (s := s)
  have pk := pl_ok sr.z R (w := w) (t := m_tn g x s) (kf := if m_keptAt g x s = -2 then -1 else m_keptAt g x s) jw0 rfl rfl
  have k20 := sr.k20
  have kr : m_keptAt g x s = -2 ∨ (0 ≤ m_keptAt g x s ∧ m_keptAt g x s < 0 + ((cq_I g (x + 53) s).toNat : Int)) := by unfold m_keptAt; exact m_ka_rg
  have km := sr.km
  refine cl_X4_plan (Nat.le_of_ble_eq_true rfl) F.s13 (by omega) (by omega) (e_X4_plan hY H F.s13 sr.s0 F.s12 F.aob sr.a19 sr.k0 sr.k1 sr.k2 ew ht.symm hkf.symm rfl rfl (fun m g1 m1 m2 G o no => ?_) (fun k0 k1 tg g1 G o i1 j7 => ?_) (fun ek cs tg g1 G o i1 i2 i3 i4 j5 j6 j7 a1 a2 => ?_))
  · -- it can't
    have no' : m_openA g x l s ≠ 0 := fun z => no (pk.mpr z)
    have F1 := F.ox o
    have R1 := R.ox o F.s13 F.sob
    refine bx_X10_openIn_40 hY (pf2_ok hY) ?_
    simp only [wp_iconst, wp_bipush, wp_sipush, wp_ldc, wp_ldc2_w, wp_lconst0, wp_lconst1, wp_aconst_null, wp_iload_0, wp_istore_0, wp_iload_1, wp_istore_1, wp_iload_2, wp_istore_2, wp_iload_3, wp_istore_3, wp_iload, wp_istore, wp_lload_0, wp_lstore_0, wp_lload_1, wp_lstore_1, wp_lload_2, wp_lstore_2, wp_lload_3, wp_lstore_3, wp_lload, wp_lstore, wp_aload_0, wp_astore_0, wp_aload_1, wp_astore_1, wp_aload_2, wp_astore_2, wp_aload_3, wp_astore_3, wp_aload, wp_astore, wp_iinc, wp_iadd, wp_isub, wp_imul, wp_iand, wp_ior, wp_ixor, wp_ishl, wp_ishr, wp_iushr, wp_irem, wp_ladd, wp_lsub, wp_lmul, wp_land, wp_lor, wp_lxor, wp_lshl, wp_lshr, wp_lushr, wp_lrem, wp_lcmp, wp_i2l, wp_l2i, wp_dupI, wp_dupA, wp_dup2J, wp_dup2IA, wp_popI, wp_popA, wp_pop2, wp_goto, wp_if_eq, wp_icmp_eq, wp_if_ne, wp_icmp_ne, wp_if_lt, wp_icmp_lt, wp_if_ge, wp_icmp_ge, wp_if_gt, wp_icmp_gt, wp_if_le, wp_icmp_le, wp_ifnull, wp_ifnonnull, wp_acmp_eq, wp_acmp_ne, wp_tableswitch, wp_get0, wp_put0, wp_get1, wp_put1, wp_get2, wp_put2, wp_get3, wp_put3, wp_new, wp_newarray, wp_anewarray, wp_alen, wp_iaload, wp_laload, wp_baload, wp_aaload, wp_iastore, wp_lastore, wp_bastore, wp_aastore, wp_return, wp_ireturnI, wp_ireturnZ, wp_lreturn, wp_areturnO, wp_areturnA, wp_max, wp_min, wp_obj, wp_virt, wp_nil, ld_I0, ld_Is, ld_J0, ld_Js, ld_A0, ld_As, ha_0, ha_s, cx_put1, cx_put2, cx_dl, cx_tgt, true_and, and_true, Nat.reduceAdd, Nat.reduceSub, Int.reduceAdd, Int.reduceNeg, Int.reduceToNat, Int.reduceSub, Int.cast_ofNat_Int, List.take_succ_cons, List.take_zero, List.drop_succ_cons, List.drop_zero, List.take_nil, List.drop_nil, Option.toList_some, Option.toList_none, List.cons_append, List.nil_append, wp_spec, ne_eq, Nat.reduceEqDiff, not_false_eq_true, true_or, or_true, F1.fs.s0, F1.a13, F1.a12, F1.s12]
    refine ⟨fun _ => ?_, fun q => absurd q (by omega)⟩
    refine bx_X10_openIn_77 hY (pf2_ok hY) ?_
    simp only [wp_iconst, wp_bipush, wp_sipush, wp_ldc, wp_ldc2_w, wp_lconst0, wp_lconst1, wp_aconst_null, wp_iload_0, wp_istore_0, wp_iload_1, wp_istore_1, wp_iload_2, wp_istore_2, wp_iload_3, wp_istore_3, wp_iload, wp_istore, wp_lload_0, wp_lstore_0, wp_lload_1, wp_lstore_1, wp_lload_2, wp_lstore_2, wp_lload_3, wp_lstore_3, wp_lload, wp_lstore, wp_aload_0, wp_astore_0, wp_aload_1, wp_astore_1, wp_aload_2, wp_astore_2, wp_aload_3, wp_astore_3, wp_aload, wp_astore, wp_iinc, wp_iadd, wp_isub, wp_imul, wp_iand, wp_ior, wp_ixor, wp_ishl, wp_ishr, wp_iushr, wp_irem, wp_ladd, wp_lsub, wp_lmul, wp_land, wp_lor, wp_lxor, wp_lshl, wp_lshr, wp_lushr, wp_lrem, wp_lcmp, wp_i2l, wp_l2i, wp_dupI, wp_dupA, wp_dup2J, wp_dup2IA, wp_popI, wp_popA, wp_pop2, wp_goto, wp_if_eq, wp_icmp_eq, wp_if_ne, wp_icmp_ne, wp_if_lt, wp_icmp_lt, wp_if_ge, wp_icmp_ge, wp_if_gt, wp_icmp_gt, wp_if_le, wp_icmp_le, wp_ifnull, wp_ifnonnull, wp_acmp_eq, wp_acmp_ne, wp_tableswitch, wp_get0, wp_put0, wp_get1, wp_put1, wp_get2, wp_put2, wp_get3, wp_put3, wp_new, wp_newarray, wp_anewarray, wp_alen, wp_iaload, wp_laload, wp_baload, wp_aaload, wp_iastore, wp_lastore, wp_bastore, wp_aastore, wp_return, wp_ireturnI, wp_ireturnZ, wp_lreturn, wp_areturnO, wp_areturnA, wp_max, wp_min, wp_obj, wp_virt, wp_nil, ld_I0, ld_Is, ld_J0, ld_Js, ld_A0, ld_As, ha_0, ha_s, cx_put1, cx_put2, cx_dl, cx_tgt, true_and, and_true, Nat.reduceAdd, Nat.reduceSub, Int.reduceAdd, Int.reduceNeg, Int.reduceToNat, Int.reduceSub, Int.cast_ofNat_Int, List.take_succ_cons, List.take_zero, List.drop_succ_cons, List.drop_zero, List.take_nil, List.drop_nil, Option.toList_some, Option.toList_none, List.cons_append, List.nil_append, wp_spec, ne_eq, Nat.reduceEqDiff, not_false_eq_true, true_or, or_true]
    exact hF no' m g1 m1 m2 (G.up (by omega)) F1 R1
  · -- with a KEPT key
    have ok : m_openA g x l s = 0 := pk.mp (Or.inl ⟨k0, tg⟩)
    have nk : m_keptAt g x s ≠ -2 := fun z => by rw [if_pos z] at k0; exact absurd k0 (by decide)
    have kk : 0 ≤ m_keptAt g x s ∧ m_keptAt g x s < cq_I g (x + 53) s := by omega
    rw [if_neg nk] at k1 tg i1 j7
    have F1 := F.ox o
    have R1 := R.ox o F.s13 F.sob
    have sr1 := (F1.fo u v hu.1 hu.2 hv.1 hv.2).ss i0 hi.1 hi.2
    rw [es] at sr1
    have sp1 := (F1.fu u hu.1 hu.2).s0
    have ky : cq_J g1 op 7 = m_oky g x s := by
      rw [j7]
      unfold m_oky
      rw [if_neg (by omega)]
      exact (sr.kk _ kk.1 kk.2).2.2
    have km1 := sr1.km
    refine bx_X10_openIn_40 hY (pf2_ok hY) ?_
    simp only [wp_iconst, wp_bipush, wp_sipush, wp_ldc, wp_ldc2_w, wp_lconst0, wp_lconst1, wp_aconst_null, wp_iload_0, wp_istore_0, wp_iload_1, wp_istore_1, wp_iload_2, wp_istore_2, wp_iload_3, wp_istore_3, wp_iload, wp_istore, wp_lload_0, wp_lstore_0, wp_lload_1, wp_lstore_1, wp_lload_2, wp_lstore_2, wp_lload_3, wp_lstore_3, wp_lload, wp_lstore, wp_aload_0, wp_astore_0, wp_aload_1, wp_astore_1, wp_aload_2, wp_astore_2, wp_aload_3, wp_astore_3, wp_aload, wp_astore, wp_iinc, wp_iadd, wp_isub, wp_imul, wp_iand, wp_ior, wp_ixor, wp_ishl, wp_ishr, wp_iushr, wp_irem, wp_ladd, wp_lsub, wp_lmul, wp_land, wp_lor, wp_lxor, wp_lshl, wp_lshr, wp_lushr, wp_lrem, wp_lcmp, wp_i2l, wp_l2i, wp_dupI, wp_dupA, wp_dup2J, wp_dup2IA, wp_popI, wp_popA, wp_pop2, wp_goto, wp_if_eq, wp_icmp_eq, wp_if_ne, wp_icmp_ne, wp_if_lt, wp_icmp_lt, wp_if_ge, wp_icmp_ge, wp_if_gt, wp_icmp_gt, wp_if_le, wp_icmp_le, wp_ifnull, wp_ifnonnull, wp_acmp_eq, wp_acmp_ne, wp_tableswitch, wp_get0, wp_put0, wp_get1, wp_put1, wp_get2, wp_put2, wp_get3, wp_put3, wp_new, wp_newarray, wp_anewarray, wp_alen, wp_iaload, wp_laload, wp_baload, wp_aaload, wp_iastore, wp_lastore, wp_bastore, wp_aastore, wp_return, wp_ireturnI, wp_ireturnZ, wp_lreturn, wp_areturnO, wp_areturnA, wp_max, wp_min, wp_obj, wp_virt, wp_nil, ld_I0, ld_Is, ld_J0, ld_Js, ld_A0, ld_As, ha_0, ha_s, cx_put1, cx_put2, cx_dl, cx_tgt, true_and, and_true, Nat.reduceAdd, Nat.reduceSub, Int.reduceAdd, Int.reduceNeg, Int.reduceToNat, Int.reduceSub, Int.cast_ofNat_Int, List.take_succ_cons, List.take_zero, List.drop_succ_cons, List.drop_zero, List.take_nil, List.drop_nil, Option.toList_some, Option.toList_none, List.cons_append, List.nil_append, wp_spec, ne_eq, Nat.reduceEqDiff, not_false_eq_true, true_or, or_true, F1.fs.s0, F1.a13, F1.a12, F1.s12]
    refine ⟨fun q => absurd trivial q, fun _ => ?_⟩
    refine cl_X10_secretOf (Nat.le_of_ble_eq_true rfl) F1.fs.s0 (by omega) (by omega) (c_X10_secretOf hY G n26.2 (fun o' ho' => ?_))
    refine bx_X10_openIn_69 hY (pf2_ok hY) ?_
    try simp only [wp_iconst, wp_bipush, wp_sipush, wp_ldc, wp_ldc2_w, wp_lconst0, wp_lconst1, wp_aconst_null, wp_iload_0, wp_istore_0, wp_iload_1, wp_istore_1, wp_iload_2, wp_istore_2, wp_iload_3, wp_istore_3, wp_iload, wp_istore, wp_lload_0, wp_lstore_0, wp_lload_1, wp_lstore_1, wp_lload_2, wp_lstore_2, wp_lload_3, wp_lstore_3, wp_lload, wp_lstore, wp_aload_0, wp_astore_0, wp_aload_1, wp_astore_1, wp_aload_2, wp_astore_2, wp_aload_3, wp_astore_3, wp_aload, wp_astore, wp_iinc, wp_iadd, wp_isub, wp_imul, wp_iand, wp_ior, wp_ixor, wp_ishl, wp_ishr, wp_iushr, wp_irem, wp_ladd, wp_lsub, wp_lmul, wp_land, wp_lor, wp_lxor, wp_lshl, wp_lshr, wp_lushr, wp_lrem, wp_lcmp, wp_i2l, wp_l2i, wp_dupI, wp_dupA, wp_dup2J, wp_dup2IA, wp_popI, wp_popA, wp_pop2, wp_goto, wp_if_eq, wp_icmp_eq, wp_if_ne, wp_icmp_ne, wp_if_lt, wp_icmp_lt, wp_if_ge, wp_icmp_ge, wp_if_gt, wp_icmp_gt, wp_if_le, wp_icmp_le, wp_ifnull, wp_ifnonnull, wp_acmp_eq, wp_acmp_ne, wp_tableswitch, wp_get0, wp_put0, wp_get1, wp_put1, wp_get2, wp_put2, wp_get3, wp_put3, wp_new, wp_newarray, wp_anewarray, wp_alen, wp_iaload, wp_laload, wp_baload, wp_aaload, wp_iastore, wp_lastore, wp_bastore, wp_aastore, wp_return, wp_ireturnI, wp_ireturnZ, wp_lreturn, wp_areturnO, wp_areturnA, wp_max, wp_min, wp_obj, wp_virt, wp_nil, ld_I0, ld_Is, ld_J0, ld_Js, ld_A0, ld_As, ha_0, ha_s, cx_put1, cx_put2, cx_dl, cx_tgt, true_and, and_true, Nat.reduceAdd, Nat.reduceSub, Int.reduceAdd, Int.reduceNeg, Int.reduceToNat, Int.reduceSub, Int.cast_ofNat_Int, List.take_succ_cons, List.take_zero, List.drop_succ_cons, List.drop_zero, List.take_nil, List.drop_nil, Option.toList_some, Option.toList_none, List.cons_append, List.nil_append, wp_spec, ne_eq, Nat.reduceEqDiff, not_false_eq_true, true_or, or_true]
    refine cl_X4_carryOut (Nat.le_of_ble_eq_true rfl) F1.s13 (by omega) (by omega) (e_X4_carryOut hY G (by omega) F1.s13 sr1.s0 F1.s12 sp1 ho' F1.aob sr1.a19 sr1.k0 sr1.k1 sr1.k2 (fun q => by omega) (Or.inr (by omega)) (fun q => by omega) (fun _ m2 G2 e2 => ?_) (fun q => by omega) (fun q => by omega))
    rw [i1] at e2
    exact last g1 m2 _ _ ok R1 F1 ky G2 (oi_1 F1 R1 hu hv hi es kk e2)
  · -- on the chain, or behind a TURN
    have kk : m_keptAt g x s < 0 := by
      rcases kr with z | z
      · omega
      · rw [if_neg (by omega)] at ek
        omega
    have ok : m_openA g x l s = 0 := pk.mp (Or.inr ⟨ek, cs, tg⟩)
    have F1 := F.ox o
    have R1 := R.ox o F.s13 F.sob
    have sr1 := (F1.fo u v hu.1 hu.2 hv.1 hv.2).ss i0 hi.1 hi.2
    rw [es] at sr1
    have fu1 := F1.fu u hu.1 hu.2
    have sp1 := fu1.s0
    have ol := pl_old sr.z R t01
    have key := pl_key sr.z R t01 jw0 cs.1
    have chE := pl_ch sr.z R t01 jw0 cs.1
    have km1 := sr1.km
    have hr := sr.hr
    obtain ⟨c1, c2, c3, c4⟩ := cs
    have ky : cq_J g1 op 7 = m_oky g x s := by
      rw [j7, key]
      unfold m_oky
      rw [if_pos kk]
    rw [chE, ol.2] at j6 a2
    rw [ol.1] at i3 a1 a2 c3 c4
    rw [ol.2] at i4 c3 c4
    rw [km] at c4
    rw [R.pl, sr.nr] at c2
    have rt := sr.rt
    have com : m_tn g x s = 1 → f_common (cq_J h w 0) (cq_J h en 9) = m_com g x s 1 := fun _ => by
      unfold m_com
      rw [if_pos (by decide), jw0, R.op]
    have rcE := sr.rc
    clear ol key chE pk ht hkf
    refine bx_X10_openIn_40 hY (pf2_ok hY) ?_
    simp only [wp_iconst, wp_bipush, wp_sipush, wp_ldc, wp_ldc2_w, wp_lconst0, wp_lconst1, wp_aconst_null, wp_iload_0, wp_istore_0, wp_iload_1, wp_istore_1, wp_iload_2, wp_istore_2, wp_iload_3, wp_istore_3, wp_iload, wp_istore, wp_lload_0, wp_lstore_0, wp_lload_1, wp_lstore_1, wp_lload_2, wp_lstore_2, wp_lload_3, wp_lstore_3, wp_lload, wp_lstore, wp_aload_0, wp_astore_0, wp_aload_1, wp_astore_1, wp_aload_2, wp_astore_2, wp_aload_3, wp_astore_3, wp_aload, wp_astore, wp_iinc, wp_iadd, wp_isub, wp_imul, wp_iand, wp_ior, wp_ixor, wp_ishl, wp_ishr, wp_iushr, wp_irem, wp_ladd, wp_lsub, wp_lmul, wp_land, wp_lor, wp_lxor, wp_lshl, wp_lshr, wp_lushr, wp_lrem, wp_lcmp, wp_i2l, wp_l2i, wp_dupI, wp_dupA, wp_dup2J, wp_dup2IA, wp_popI, wp_popA, wp_pop2, wp_goto, wp_if_eq, wp_icmp_eq, wp_if_ne, wp_icmp_ne, wp_if_lt, wp_icmp_lt, wp_if_ge, wp_icmp_ge, wp_if_gt, wp_icmp_gt, wp_if_le, wp_icmp_le, wp_ifnull, wp_ifnonnull, wp_acmp_eq, wp_acmp_ne, wp_tableswitch, wp_get0, wp_put0, wp_get1, wp_put1, wp_get2, wp_put2, wp_get3, wp_put3, wp_new, wp_newarray, wp_anewarray, wp_alen, wp_iaload, wp_laload, wp_baload, wp_aaload, wp_iastore, wp_lastore, wp_bastore, wp_aastore, wp_return, wp_ireturnI, wp_ireturnZ, wp_lreturn, wp_areturnO, wp_areturnA, wp_max, wp_min, wp_obj, wp_virt, wp_nil, ld_I0, ld_Is, ld_J0, ld_Js, ld_A0, ld_As, ha_0, ha_s, cx_put1, cx_put2, cx_dl, cx_tgt, true_and, and_true, Nat.reduceAdd, Nat.reduceSub, Int.reduceAdd, Int.reduceNeg, Int.reduceToNat, Int.reduceSub, Int.cast_ofNat_Int, List.take_succ_cons, List.take_zero, List.drop_succ_cons, List.drop_zero, List.take_nil, List.drop_nil, Option.toList_some, Option.toList_none, List.cons_append, List.nil_append, wp_spec, ne_eq, Nat.reduceEqDiff, not_false_eq_true, true_or, or_true, F1.fs.s0, F1.a13, F1.a12, F1.s12]
    refine ⟨fun q => absurd trivial q, fun _ => ?_⟩
    refine cl_X10_secretOf (Nat.le_of_ble_eq_true rfl) F1.fs.s0 (by omega) (by omega) (c_X10_secretOf hY G n26.2 (fun o' ho' => ?_))
    refine bx_X10_openIn_69 hY (pf2_ok hY) ?_
    try simp only [wp_iconst, wp_bipush, wp_sipush, wp_ldc, wp_ldc2_w, wp_lconst0, wp_lconst1, wp_aconst_null, wp_iload_0, wp_istore_0, wp_iload_1, wp_istore_1, wp_iload_2, wp_istore_2, wp_iload_3, wp_istore_3, wp_iload, wp_istore, wp_lload_0, wp_lstore_0, wp_lload_1, wp_lstore_1, wp_lload_2, wp_lstore_2, wp_lload_3, wp_lstore_3, wp_lload, wp_lstore, wp_aload_0, wp_astore_0, wp_aload_1, wp_astore_1, wp_aload_2, wp_astore_2, wp_aload_3, wp_astore_3, wp_aload, wp_astore, wp_iinc, wp_iadd, wp_isub, wp_imul, wp_iand, wp_ior, wp_ixor, wp_ishl, wp_ishr, wp_iushr, wp_irem, wp_ladd, wp_lsub, wp_lmul, wp_land, wp_lor, wp_lxor, wp_lshl, wp_lshr, wp_lushr, wp_lrem, wp_lcmp, wp_i2l, wp_l2i, wp_dupI, wp_dupA, wp_dup2J, wp_dup2IA, wp_popI, wp_popA, wp_pop2, wp_goto, wp_if_eq, wp_icmp_eq, wp_if_ne, wp_icmp_ne, wp_if_lt, wp_icmp_lt, wp_if_ge, wp_icmp_ge, wp_if_gt, wp_icmp_gt, wp_if_le, wp_icmp_le, wp_ifnull, wp_ifnonnull, wp_acmp_eq, wp_acmp_ne, wp_tableswitch, wp_get0, wp_put0, wp_get1, wp_put1, wp_get2, wp_put2, wp_get3, wp_put3, wp_new, wp_newarray, wp_anewarray, wp_alen, wp_iaload, wp_laload, wp_baload, wp_aaload, wp_iastore, wp_lastore, wp_bastore, wp_aastore, wp_return, wp_ireturnI, wp_ireturnZ, wp_lreturn, wp_areturnO, wp_areturnA, wp_max, wp_min, wp_obj, wp_virt, wp_nil, ld_I0, ld_Is, ld_J0, ld_Js, ld_A0, ld_As, ha_0, ha_s, cx_put1, cx_put2, cx_dl, cx_tgt, true_and, and_true, Nat.reduceAdd, Nat.reduceSub, Int.reduceAdd, Int.reduceNeg, Int.reduceToNat, Int.reduceSub, Int.cast_ofNat_Int, List.take_succ_cons, List.take_zero, List.drop_succ_cons, List.drop_zero, List.take_nil, List.drop_nil, Option.toList_some, Option.toList_none, List.cons_append, List.nil_append, wp_spec, ne_eq, Nat.reduceEqDiff, not_false_eq_true, true_or, or_true]
    have bef0 : 0 ≤ m_bef g x s (m_tn g x s) := by
      unfold m_bef
      split <;> omega
    have beh0 : 0 ≤ m_beh g x s (m_tn g x s) := by
      unfold m_beh
      rcases t01 with z | z
      · rw [if_neg (by omega)]; omega
      · rw [if_pos (by omega)]; exact h81
    refine cl_X4_carryOut (Nat.le_of_ble_eq_true rfl) F1.s13 (by omega) (by omega) (e_X4_carryOut hY G (by omega) F1.s13 sr1.s0 F1.s12 sp1 ho' F1.aob sr1.a19 sr1.k0 sr1.k1 sr1.k2 (fun _ => by omega) (Or.inl i1) (fun _ => by omega) (fun q => by omega) (fun _ q2 m2 G2 e2 => ?_) (fun _ q2 m2 q q' t G2 e2 st0 st j0 j1 => ?_))
    · have t0 : m_tn g x s = 0 := i2.symm.trans q2
      rw [t0] at i3 i4 j6 a2 c1 c2 c3 c4 bef0 beh0
      have b0 : m_bef g x s 0 = 0 := by
        unfold m_bef
        rw [if_neg (fun q => absurd rfl q.1)]
      have b1 : m_beh g x s 0 = cq_I g x 81 - cq_I g (x + 41) s := by
        unfold m_beh
        rw [if_neg (fun q => absurd rfl q)]
      have ch : m_ch0 g x s 0 = cq_J g (x + 34) s := by
        unfold m_ch0
        rw [if_neg (fun q => absurd rfl q)]
      rw [b0] at i3 a2 c3 c4
      rw [b1] at i4 j6 a2 c3 c4 beh0
      rw [ch] at j6 a2
      have ez : cq_I (cq_sI g1 (T s) 5 0) (T s + 1) 4 = cq_I g1 (T s + 1) 4 := by rw [mm_sI, if_neg (fun q => by omega)]
      rw [i3, kpW_0 ez.symm, i4, j6, R1.pl, Int.add_zero] at e2
      have h35 : cq_I g (x + 35) s ≠ 0 := fun z => c1 ⟨rfl, hr.mpr z⟩
      exact last g1 m2 _ _ ok R1 F1 ky G2 (oi_2 F1 R1 hu hv hi es kk t0 ⟨beh0, by omega⟩ h35 rfl (fun i i0 i1 => a2 i i0 i1) e2)
    · have t1 : m_tn g x s = 1 := i2.symm.trans q2
      have com1 := com t1
      have j5' := j5 t1
      rw [rt, com1] at j5'
      rw [t1] at i3 i4 j6 a1 a2 c1 c2 c3 c4 bef0 beh0
      have b1 : m_beh g x s 1 = cq_I g x 81 := by
        unfold m_beh
        rw [if_pos (by decide)]
      rw [b1] at i4 j6 a2 c3 c4 beh0
      have er1 : ∀ i, 0 ≤ i → i < m_bef g x s 1 → cq_J g1 ob i = lkC (nxI i.toNat (cq_J g (x + 34) s)) := fun i y0 y1 => by
        have h35 : cq_I g (x + 35) s ≠ 0 := fun z => by
          have : m_bef g x s 1 = 0 := by
            unfold m_bef
            rw [if_neg (fun q => q.2.1 z)]
          omega
        rw [a1 i y0 y1, rcE h35]
      rw [i3, i4, j5', j6, R1.op, R1.pl, fu1.dr, fu1.sd] at e2
      rw [fu1.dr, fu1.sd] at j0 j1
      exact last g1 m2 _ _ ok R1 F1 ky G2 (oi_3 F1 R1 hu hv hi es kk t1 ⟨bef0, h81, by omega⟩ rfl er1 (fun i y0 y1 => a2 i y0 y1) e2 st j0 j1)
end
/-! class and reference side by side: a letter without its beginning -/
theorem m_ci_0 {f : Int → Int} {k : Int} : m_ci f 0 k = -2 := by rw [m_ci]
theorem m_ci_s {f : Int → Int} {n : Nat} {k : Int} : m_ci f (n + 1) k = if f k = 0 then k else m_ci f n (k + 1) := by rw [m_ci]
section
variable {Y : cx_Y} {K : Option cx_V → cx_Q → Prop} {c x : Nat} {n L Z : Int} {E : Nat → Option Int} {h0 : cx_Q} {h g g' : cx_Q} {pe : Int → Nat} {ro : Int → Int → Nat} {pa lb tp rd en op ob : Nat} {T Lf : Int → Nat}
theorem f_X10_openWithoutBeginning (hY : cY Y) {b : Nat} {u v l : Int} (H : CI c n L Z E h0 [] h) (hZ : Z ≤ 800000) (F : FX c x n pe ro pa lb tp rd en op ob T Lf h g) (R : ER x en b l h g) (hu : 0 ≤ u ∧ u < n) (hv : 0 ≤ v ∧ v < n) (ev_ : cq_I g (x + 62) (100 * l + 1) = v) (h81 : 0 ≤ cq_I g x 81)
    (hF : m_clA g x l (6 * u + v) ≠ 0 → ∀ m h', 1 ≤ m → m ≤ 10 → CI c n L (Z + 4) E h0 [] h' → FX c x n pe ro pa lb tp rd en op ob T Lf h' g → ER x en b l h' g → K (some (.inl m)) h')
    (hK : m_clA g x l (6 * u + v) = 0 → ∀ h', CI c n L (Z + 4) E h0 [] h' → OI c x n pe ro pa lb tp rd en op ob T Lf b l u v (m_clI g x l (6 * u + v)) (cq_I g (x + 29) (4 * (6 * u + v) + m_clI g x l (6 * u + v))) g h' → K (some (.inl 0)) h') : cw Y mi_X10_openWithoutBeginning K 0 [some (.inr (.inr (some c))), some (.inr (.inr (some (pe u)))), none, none, none, none] [] h 28 728 := by
  have hc := H.cs
  have fo := F.fo u v hu.1 hu.2 hv.1 hv.2
  have r4 := fo.r4
  have rm := fo.rm
  have sp := (F.fu u hu.1 hu.2).s0
  have r13 := F.r13 u hu.1 hu.2
  have zr : cq_z h (pe u + 6) = n := H.tz r13.2
  have era := F.ra u v hu.1 hu.2 hv.1 hv.2
  have e3 : cq_I h en 3 = v := by rw [R.fr]; exact ev_
  have loop : ∀ (q : Nat) (k f z : Int) (o5 : Option cx_V) (m : cx_Q) (bc bs : Nat), 0 ≤ k → k + q = cq_I g (x + 30) (6 * u + v) → 1 ≤ f ∧ f ≤ 10 → z ≤ Z + k → 7 * q ≤ bc → 182 * q ≤ bs → CI c n L z E h0 [] m → FX c x n pe ro pa lb tp rd en op ob T Lf m g → ER x en b l m g → m_clI g x l (6 * u + v) = m_ci (m_clF g x l (6 * u + v)) q k → (0 < k → m_clF g x l (6 * u + v) 0 ≠ 0) → cw Y mi_X10_openWithoutBeginning K 21 [some (.inr (.inr (some c))), some (.inr (.inr (some (pe u)))), some (.inl (cq_I g (x + 30) (6 * u + v))), some (.inl f), some (.inl k), o5] [] m bc bs := by
    intro q
    induction q with
    | zero =>
      intro k f z o5 m bc bs h1 h2 hf h3 h4 h5 G F1 R1 ci nz
      rw [m_ci_0] at ci
      have no : m_clA g x l (6 * u + v) ≠ 0 := by
        unfold m_clA
        by_cases w : cq_I g (x + 30) (6 * u + v) = 0
        · rw [if_pos w]; decide
        · rw [if_neg w, if_pos ci]
          exact nz (by omega)
      refine bx_X10_openWithoutBeginning_21 hY (pf2_ok hY) ?_
      simp only [wp_iconst, wp_bipush, wp_sipush, wp_ldc, wp_ldc2_w, wp_lconst0, wp_lconst1, wp_aconst_null, wp_iload_0, wp_istore_0, wp_iload_1, wp_istore_1, wp_iload_2, wp_istore_2, wp_iload_3, wp_istore_3, wp_iload, wp_istore, wp_lload_0, wp_lstore_0, wp_lload_1, wp_lstore_1, wp_lload_2, wp_lstore_2, wp_lload_3, wp_lstore_3, wp_lload, wp_lstore, wp_aload_0, wp_astore_0, wp_aload_1, wp_astore_1, wp_aload_2, wp_astore_2, wp_aload_3, wp_astore_3, wp_aload, wp_astore, wp_iinc, wp_iadd, wp_isub, wp_imul, wp_iand, wp_ior, wp_ixor, wp_ishl, wp_ishr, wp_iushr, wp_irem, wp_ladd, wp_lsub, wp_lmul, wp_land, wp_lor, wp_lxor, wp_lshl, wp_lshr, wp_lushr, wp_lrem, wp_lcmp, wp_i2l, wp_l2i, wp_dupI, wp_dupA, wp_dup2J, wp_dup2IA, wp_popI, wp_popA, wp_pop2, wp_goto, wp_if_eq, wp_icmp_eq, wp_if_ne, wp_icmp_ne, wp_if_lt, wp_icmp_lt, wp_if_ge, wp_icmp_ge, wp_if_gt, wp_icmp_gt, wp_if_le, wp_icmp_le, wp_ifnull, wp_ifnonnull, wp_acmp_eq, wp_acmp_ne, wp_tableswitch, wp_get0, wp_put0, wp_get1, wp_put1, wp_get2, wp_put2, wp_get3, wp_put3, wp_new, wp_newarray, wp_anewarray, wp_alen, wp_iaload, wp_laload, wp_baload, wp_aaload, wp_iastore, wp_lastore, wp_bastore, wp_aastore, wp_return, wp_ireturnI, wp_ireturnZ, wp_lreturn, wp_areturnO, wp_areturnA, wp_max, wp_min, wp_obj, wp_virt, wp_nil, ld_I0, ld_Is, ld_J0, ld_Js, ld_A0, ld_As, ha_0, ha_s, cx_put1, cx_put2, cx_dl, cx_tgt, true_and, and_true, Nat.reduceAdd, Nat.reduceSub, Int.reduceAdd, Int.reduceNeg, Int.reduceToNat, Int.reduceSub, Int.cast_ofNat_Int, List.take_succ_cons, List.take_zero, List.drop_succ_cons, List.drop_zero, List.take_nil, List.drop_nil, Option.toList_some, Option.toList_none, List.cons_append, List.nil_append, wp_spec, ne_eq, Nat.reduceEqDiff, not_false_eq_true, true_or, or_true]
      refine ⟨fun _ => ?_, fun w => absurd w (by omega)⟩
      refine bx_X10_openWithoutBeginning_57 hY (pf2_ok hY) ?_
      simp only [wp_iconst, wp_bipush, wp_sipush, wp_ldc, wp_ldc2_w, wp_lconst0, wp_lconst1, wp_aconst_null, wp_iload_0, wp_istore_0, wp_iload_1, wp_istore_1, wp_iload_2, wp_istore_2, wp_iload_3, wp_istore_3, wp_iload, wp_istore, wp_lload_0, wp_lstore_0, wp_lload_1, wp_lstore_1, wp_lload_2, wp_lstore_2, wp_lload_3, wp_lstore_3, wp_lload, wp_lstore, wp_aload_0, wp_astore_0, wp_aload_1, wp_astore_1, wp_aload_2, wp_astore_2, wp_aload_3, wp_astore_3, wp_aload, wp_astore, wp_iinc, wp_iadd, wp_isub, wp_imul, wp_iand, wp_ior, wp_ixor, wp_ishl, wp_ishr, wp_iushr, wp_irem, wp_ladd, wp_lsub, wp_lmul, wp_land, wp_lor, wp_lxor, wp_lshl, wp_lshr, wp_lushr, wp_lrem, wp_lcmp, wp_i2l, wp_l2i, wp_dupI, wp_dupA, wp_dup2J, wp_dup2IA, wp_popI, wp_popA, wp_pop2, wp_goto, wp_if_eq, wp_icmp_eq, wp_if_ne, wp_icmp_ne, wp_if_lt, wp_icmp_lt, wp_if_ge, wp_icmp_ge, wp_if_gt, wp_icmp_gt, wp_if_le, wp_icmp_le, wp_ifnull, wp_ifnonnull, wp_acmp_eq, wp_acmp_ne, wp_tableswitch, wp_get0, wp_put0, wp_get1, wp_put1, wp_get2, wp_put2, wp_get3, wp_put3, wp_new, wp_newarray, wp_anewarray, wp_alen, wp_iaload, wp_laload, wp_baload, wp_aaload, wp_iastore, wp_lastore, wp_bastore, wp_aastore, wp_return, wp_ireturnI, wp_ireturnZ, wp_lreturn, wp_areturnO, wp_areturnA, wp_max, wp_min, wp_obj, wp_virt, wp_nil, ld_I0, ld_Is, ld_J0, ld_Js, ld_A0, ld_As, ha_0, ha_s, cx_put1, cx_put2, cx_dl, cx_tgt, true_and, and_true, Nat.reduceAdd, Nat.reduceSub, Int.reduceAdd, Int.reduceNeg, Int.reduceToNat, Int.reduceSub, Int.cast_ofNat_Int, List.take_succ_cons, List.take_zero, List.drop_succ_cons, List.drop_zero, List.take_nil, List.drop_nil, Option.toList_some, Option.toList_none, List.cons_append, List.nil_append, wp_spec, ne_eq, Nat.reduceEqDiff, not_false_eq_true, true_or, or_true]
      exact hF no f m hf.1 hf.2 (G.up (by omega)) F1 R1
    | succ q ih =>
      intro k f z o5 m bc bs h1 h2 hf h3 h4 h5 G F1 R1 ci nz
      rw [m_ci_s] at ci
      have gc := G.cs
      have e31 : cq_I m en 3 = v := by rw [R1.fr]; exact ev_
      refine bx_X10_openWithoutBeginning_21 hY (pf2_ok hY) ?_
      simp only [wp_iconst, wp_bipush, wp_sipush, wp_ldc, wp_ldc2_w, wp_lconst0, wp_lconst1, wp_aconst_null, wp_iload_0, wp_istore_0, wp_iload_1, wp_istore_1, wp_iload_2, wp_istore_2, wp_iload_3, wp_istore_3, wp_iload, wp_istore, wp_lload_0, wp_lstore_0, wp_lload_1, wp_lstore_1, wp_lload_2, wp_lstore_2, wp_lload_3, wp_lstore_3, wp_lload, wp_lstore, wp_aload_0, wp_astore_0, wp_aload_1, wp_astore_1, wp_aload_2, wp_astore_2, wp_aload_3, wp_astore_3, wp_aload, wp_astore, wp_iinc, wp_iadd, wp_isub, wp_imul, wp_iand, wp_ior, wp_ixor, wp_ishl, wp_ishr, wp_iushr, wp_irem, wp_ladd, wp_lsub, wp_lmul, wp_land, wp_lor, wp_lxor, wp_lshl, wp_lshr, wp_lushr, wp_lrem, wp_lcmp, wp_i2l, wp_l2i, wp_dupI, wp_dupA, wp_dup2J, wp_dup2IA, wp_popI, wp_popA, wp_pop2, wp_goto, wp_if_eq, wp_icmp_eq, wp_if_ne, wp_icmp_ne, wp_if_lt, wp_icmp_lt, wp_if_ge, wp_icmp_ge, wp_if_gt, wp_icmp_gt, wp_if_le, wp_icmp_le, wp_ifnull, wp_ifnonnull, wp_acmp_eq, wp_acmp_ne, wp_tableswitch, wp_get0, wp_put0, wp_get1, wp_put1, wp_get2, wp_put2, wp_get3, wp_put3, wp_new, wp_newarray, wp_anewarray, wp_alen, wp_iaload, wp_laload, wp_baload, wp_aaload, wp_iastore, wp_lastore, wp_bastore, wp_aastore, wp_return, wp_ireturnI, wp_ireturnZ, wp_lreturn, wp_areturnO, wp_areturnA, wp_max, wp_min, wp_obj, wp_virt, wp_nil, ld_I0, ld_Is, ld_J0, ld_Js, ld_A0, ld_As, ha_0, ha_s, cx_put1, cx_put2, cx_dl, cx_tgt, true_and, and_true, Nat.reduceAdd, Nat.reduceSub, Int.reduceAdd, Int.reduceNeg, Int.reduceToNat, Int.reduceSub, Int.cast_ofNat_Int, List.take_succ_cons, List.take_zero, List.drop_succ_cons, List.drop_zero, List.take_nil, List.drop_nil, Option.toList_some, Option.toList_none, List.cons_append, List.nil_append, wp_spec, ne_eq, Nat.reduceEqDiff, not_false_eq_true, true_or, or_true]
      refine ⟨fun w => absurd w (by omega), fun _ => ?_⟩
      refine cl_X10_openIn (Nat.le_of_ble_eq_true rfl) gc (by omega) (by omega) (f_X10_openIn hY G (by omega) F1 R1 hu hv e31 (by omega) rfl h81 (fun no t m2 t1 t2 G2 F2 R2 => ?_) (fun ok m2 G2 O2 => ?_))
      · have no' : ¬ m_clF g x l (6 * u + v) k = 0 := no
        rw [if_neg no'] at ci
        have nz' : 0 < k + 1 → m_clF g x l (6 * u + v) 0 ≠ 0 := fun _ => by
          by_cases w : k = 0
          · have n2 := no'
            rw [w] at n2
            exact n2
          · exact nz (by omega)
        have j51 : ∀ f' : Int, 1 ≤ f' ∧ f' ≤ 10 → cw Y mi_X10_openWithoutBeginning K 51 [some (.inr (.inr (some c))), some (.inr (.inr (some (pe u)))), some (.inl (cq_I g (x + 30) (6 * u + v))), some (.inl f'), some (.inl k), some (.inl t)] [] m2 (bc - 7) (bs - 182) := by
          intro f' hf'
          refine bx_X10_openWithoutBeginning_51 hY (pf2_ok hY) ?_
          simp only [wp_iconst, wp_bipush, wp_sipush, wp_ldc, wp_ldc2_w, wp_lconst0, wp_lconst1, wp_aconst_null, wp_iload_0, wp_istore_0, wp_iload_1, wp_istore_1, wp_iload_2, wp_istore_2, wp_iload_3, wp_istore_3, wp_iload, wp_istore, wp_lload_0, wp_lstore_0, wp_lload_1, wp_lstore_1, wp_lload_2, wp_lstore_2, wp_lload_3, wp_lstore_3, wp_lload, wp_lstore, wp_aload_0, wp_astore_0, wp_aload_1, wp_astore_1, wp_aload_2, wp_astore_2, wp_aload_3, wp_astore_3, wp_aload, wp_astore, wp_iinc, wp_iadd, wp_isub, wp_imul, wp_iand, wp_ior, wp_ixor, wp_ishl, wp_ishr, wp_iushr, wp_irem, wp_ladd, wp_lsub, wp_lmul, wp_land, wp_lor, wp_lxor, wp_lshl, wp_lshr, wp_lushr, wp_lrem, wp_lcmp, wp_i2l, wp_l2i, wp_dupI, wp_dupA, wp_dup2J, wp_dup2IA, wp_popI, wp_popA, wp_pop2, wp_goto, wp_if_eq, wp_icmp_eq, wp_if_ne, wp_icmp_ne, wp_if_lt, wp_icmp_lt, wp_if_ge, wp_icmp_ge, wp_if_gt, wp_icmp_gt, wp_if_le, wp_icmp_le, wp_ifnull, wp_ifnonnull, wp_acmp_eq, wp_acmp_ne, wp_tableswitch, wp_get0, wp_put0, wp_get1, wp_put1, wp_get2, wp_put2, wp_get3, wp_put3, wp_new, wp_newarray, wp_anewarray, wp_alen, wp_iaload, wp_laload, wp_baload, wp_aaload, wp_iastore, wp_lastore, wp_bastore, wp_aastore, wp_return, wp_ireturnI, wp_ireturnZ, wp_lreturn, wp_areturnO, wp_areturnA, wp_max, wp_min, wp_obj, wp_virt, wp_nil, ld_I0, ld_Is, ld_J0, ld_Js, ld_A0, ld_As, ha_0, ha_s, cx_put1, cx_put2, cx_dl, cx_tgt, true_and, and_true, Nat.reduceAdd, Nat.reduceSub, Int.reduceAdd, Int.reduceNeg, Int.reduceToNat, Int.reduceSub, Int.cast_ofNat_Int, List.take_succ_cons, List.take_zero, List.drop_succ_cons, List.drop_zero, List.take_nil, List.drop_nil, Option.toList_some, Option.toList_none, List.cons_append, List.nil_append, wp_spec, ne_eq, Nat.reduceEqDiff, not_false_eq_true, true_or, or_true, cx_rg]
          exact ⟨by omega, ih (k + 1) f' (z + 1) _ m2 _ _ (by omega) (by omega) hf' (by omega) (by omega) (by omega) G2 F2 R2 ci nz'⟩
        refine bx_X10_openWithoutBeginning_34 hY (pf2_ok hY) ?_
        simp only [wp_iconst, wp_bipush, wp_sipush, wp_ldc, wp_ldc2_w, wp_lconst0, wp_lconst1, wp_aconst_null, wp_iload_0, wp_istore_0, wp_iload_1, wp_istore_1, wp_iload_2, wp_istore_2, wp_iload_3, wp_istore_3, wp_iload, wp_istore, wp_lload_0, wp_lstore_0, wp_lload_1, wp_lstore_1, wp_lload_2, wp_lstore_2, wp_lload_3, wp_lstore_3, wp_lload, wp_lstore, wp_aload_0, wp_astore_0, wp_aload_1, wp_astore_1, wp_aload_2, wp_astore_2, wp_aload_3, wp_astore_3, wp_aload, wp_astore, wp_iinc, wp_iadd, wp_isub, wp_imul, wp_iand, wp_ior, wp_ixor, wp_ishl, wp_ishr, wp_iushr, wp_irem, wp_ladd, wp_lsub, wp_lmul, wp_land, wp_lor, wp_lxor, wp_lshl, wp_lshr, wp_lushr, wp_lrem, wp_lcmp, wp_i2l, wp_l2i, wp_dupI, wp_dupA, wp_dup2J, wp_dup2IA, wp_popI, wp_popA, wp_pop2, wp_goto, wp_if_eq, wp_icmp_eq, wp_if_ne, wp_icmp_ne, wp_if_lt, wp_icmp_lt, wp_if_ge, wp_icmp_ge, wp_if_gt, wp_icmp_gt, wp_if_le, wp_icmp_le, wp_ifnull, wp_ifnonnull, wp_acmp_eq, wp_acmp_ne, wp_tableswitch, wp_get0, wp_put0, wp_get1, wp_put1, wp_get2, wp_put2, wp_get3, wp_put3, wp_new, wp_newarray, wp_anewarray, wp_alen, wp_iaload, wp_laload, wp_baload, wp_aaload, wp_iastore, wp_lastore, wp_bastore, wp_aastore, wp_return, wp_ireturnI, wp_ireturnZ, wp_lreturn, wp_areturnO, wp_areturnA, wp_max, wp_min, wp_obj, wp_virt, wp_nil, ld_I0, ld_Is, ld_J0, ld_Js, ld_A0, ld_As, ha_0, ha_s, cx_put1, cx_put2, cx_dl, cx_tgt, true_and, and_true, Nat.reduceAdd, Nat.reduceSub, Int.reduceAdd, Int.reduceNeg, Int.reduceToNat, Int.reduceSub, Int.cast_ofNat_Int, List.take_succ_cons, List.take_zero, List.drop_succ_cons, List.drop_zero, List.take_nil, List.drop_nil, Option.toList_some, Option.toList_none, List.cons_append, List.nil_append, wp_spec, ne_eq, Nat.reduceEqDiff, not_false_eq_true, true_or, or_true]
        refine ⟨fun _ => ?_, fun w => absurd w (by omega)⟩
        refine bx_X10_openWithoutBeginning_43 hY (pf2_ok hY) ?_
        simp only [wp_iconst, wp_bipush, wp_sipush, wp_ldc, wp_ldc2_w, wp_lconst0, wp_lconst1, wp_aconst_null, wp_iload_0, wp_istore_0, wp_iload_1, wp_istore_1, wp_iload_2, wp_istore_2, wp_iload_3, wp_istore_3, wp_iload, wp_istore, wp_lload_0, wp_lstore_0, wp_lload_1, wp_lstore_1, wp_lload_2, wp_lstore_2, wp_lload_3, wp_lstore_3, wp_lload, wp_lstore, wp_aload_0, wp_astore_0, wp_aload_1, wp_astore_1, wp_aload_2, wp_astore_2, wp_aload_3, wp_astore_3, wp_aload, wp_astore, wp_iinc, wp_iadd, wp_isub, wp_imul, wp_iand, wp_ior, wp_ixor, wp_ishl, wp_ishr, wp_iushr, wp_irem, wp_ladd, wp_lsub, wp_lmul, wp_land, wp_lor, wp_lxor, wp_lshl, wp_lshr, wp_lushr, wp_lrem, wp_lcmp, wp_i2l, wp_l2i, wp_dupI, wp_dupA, wp_dup2J, wp_dup2IA, wp_popI, wp_popA, wp_pop2, wp_goto, wp_if_eq, wp_icmp_eq, wp_if_ne, wp_icmp_ne, wp_if_lt, wp_icmp_lt, wp_if_ge, wp_icmp_ge, wp_if_gt, wp_icmp_gt, wp_if_le, wp_icmp_le, wp_ifnull, wp_ifnonnull, wp_acmp_eq, wp_acmp_ne, wp_tableswitch, wp_get0, wp_put0, wp_get1, wp_put1, wp_get2, wp_put2, wp_get3, wp_put3, wp_new, wp_newarray, wp_anewarray, wp_alen, wp_iaload, wp_laload, wp_baload, wp_aaload, wp_iastore, wp_lastore, wp_bastore, wp_aastore, wp_return, wp_ireturnI, wp_ireturnZ, wp_lreturn, wp_areturnO, wp_areturnA, wp_max, wp_min, wp_obj, wp_virt, wp_nil, ld_I0, ld_Is, ld_J0, ld_Js, ld_A0, ld_As, ha_0, ha_s, cx_put1, cx_put2, cx_dl, cx_tgt, true_and, and_true, Nat.reduceAdd, Nat.reduceSub, Int.reduceAdd, Int.reduceNeg, Int.reduceToNat, Int.reduceSub, Int.cast_ofNat_Int, List.take_succ_cons, List.take_zero, List.drop_succ_cons, List.drop_zero, List.take_nil, List.drop_nil, Option.toList_some, Option.toList_none, List.cons_append, List.nil_append, wp_spec, ne_eq, Nat.reduceEqDiff, not_false_eq_true, true_or, or_true]
        exact ⟨fun _ => j51 f hf, fun _ => j51 t ⟨t1, t2⟩⟩
      · have ok' : m_clF g x l (6 * u + v) k = 0 := ok
        rw [if_pos ok'] at ci
        have yes : m_clA g x l (6 * u + v) = 0 := by
          unfold m_clA
          rw [if_neg (by omega), if_neg (by rw [ci]; omega)]
        refine bx_X10_openWithoutBeginning_34 hY (pf2_ok hY) ?_
        simp only [wp_iconst, wp_bipush, wp_sipush, wp_ldc, wp_ldc2_w, wp_lconst0, wp_lconst1, wp_aconst_null, wp_iload_0, wp_istore_0, wp_iload_1, wp_istore_1, wp_iload_2, wp_istore_2, wp_iload_3, wp_istore_3, wp_iload, wp_istore, wp_lload_0, wp_lstore_0, wp_lload_1, wp_lstore_1, wp_lload_2, wp_lstore_2, wp_lload_3, wp_lstore_3, wp_lload, wp_lstore, wp_aload_0, wp_astore_0, wp_aload_1, wp_astore_1, wp_aload_2, wp_astore_2, wp_aload_3, wp_astore_3, wp_aload, wp_astore, wp_iinc, wp_iadd, wp_isub, wp_imul, wp_iand, wp_ior, wp_ixor, wp_ishl, wp_ishr, wp_iushr, wp_irem, wp_ladd, wp_lsub, wp_lmul, wp_land, wp_lor, wp_lxor, wp_lshl, wp_lshr, wp_lushr, wp_lrem, wp_lcmp, wp_i2l, wp_l2i, wp_dupI, wp_dupA, wp_dup2J, wp_dup2IA, wp_popI, wp_popA, wp_pop2, wp_goto, wp_if_eq, wp_icmp_eq, wp_if_ne, wp_icmp_ne, wp_if_lt, wp_icmp_lt, wp_if_ge, wp_icmp_ge, wp_if_gt, wp_icmp_gt, wp_if_le, wp_icmp_le, wp_ifnull, wp_ifnonnull, wp_acmp_eq, wp_acmp_ne, wp_tableswitch, wp_get0, wp_put0, wp_get1, wp_put1, wp_get2, wp_put2, wp_get3, wp_put3, wp_new, wp_newarray, wp_anewarray, wp_alen, wp_iaload, wp_laload, wp_baload, wp_aaload, wp_iastore, wp_lastore, wp_bastore, wp_aastore, wp_return, wp_ireturnI, wp_ireturnZ, wp_lreturn, wp_areturnO, wp_areturnA, wp_max, wp_min, wp_obj, wp_virt, wp_nil, ld_I0, ld_Is, ld_J0, ld_Js, ld_A0, ld_As, ha_0, ha_s, cx_put1, cx_put2, cx_dl, cx_tgt, true_and, and_true, Nat.reduceAdd, Nat.reduceSub, Int.reduceAdd, Int.reduceNeg, Int.reduceToNat, Int.reduceSub, Int.cast_ofNat_Int, List.take_succ_cons, List.take_zero, List.drop_succ_cons, List.drop_zero, List.take_nil, List.drop_nil, Option.toList_some, Option.toList_none, List.cons_append, List.nil_append, wp_spec, ne_eq, Nat.reduceEqDiff, not_false_eq_true, true_or, or_true]
        refine ⟨fun w => absurd trivial w, fun _ => ?_⟩
        rw [ci] at hK
        exact hK yes m2 (G2.up (by omega)) O2
  refine bx_X10_openWithoutBeginning_0 hY (pf2_ok hY) ?_
  simp only [wp_iconst, wp_bipush, wp_sipush, wp_ldc, wp_ldc2_w, wp_lconst0, wp_lconst1, wp_aconst_null, wp_iload_0, wp_istore_0, wp_iload_1, wp_istore_1, wp_iload_2, wp_istore_2, wp_iload_3, wp_istore_3, wp_iload, wp_istore, wp_lload_0, wp_lstore_0, wp_lload_1, wp_lstore_1, wp_lload_2, wp_lstore_2, wp_lload_3, wp_lstore_3, wp_lload, wp_lstore, wp_aload_0, wp_astore_0, wp_aload_1, wp_astore_1, wp_aload_2, wp_astore_2, wp_aload_3, wp_astore_3, wp_aload, wp_astore, wp_iinc, wp_iadd, wp_isub, wp_imul, wp_iand, wp_ior, wp_ixor, wp_ishl, wp_ishr, wp_iushr, wp_irem, wp_ladd, wp_lsub, wp_lmul, wp_land, wp_lor, wp_lxor, wp_lshl, wp_lshr, wp_lushr, wp_lrem, wp_lcmp, wp_i2l, wp_l2i, wp_dupI, wp_dupA, wp_dup2J, wp_dup2IA, wp_popI, wp_popA, wp_pop2, wp_goto, wp_if_eq, wp_icmp_eq, wp_if_ne, wp_icmp_ne, wp_if_lt, wp_icmp_lt, wp_if_ge, wp_icmp_ge, wp_if_gt, wp_icmp_gt, wp_if_le, wp_icmp_le, wp_ifnull, wp_ifnonnull, wp_acmp_eq, wp_acmp_ne, wp_tableswitch, wp_get0, wp_put0, wp_get1, wp_put1, wp_get2, wp_put2, wp_get3, wp_put3, wp_new, wp_newarray, wp_anewarray, wp_alen, wp_iaload, wp_laload, wp_baload, wp_aaload, wp_iastore, wp_lastore, wp_bastore, wp_aastore, wp_return, wp_ireturnI, wp_ireturnZ, wp_lreturn, wp_areturnO, wp_areturnA, wp_max, wp_min, wp_obj, wp_virt, wp_nil, ld_I0, ld_Is, ld_J0, ld_Js, ld_A0, ld_As, ha_0, ha_s, cx_put1, cx_put2, cx_dl, cx_tgt, true_and, and_true, Nat.reduceAdd, Nat.reduceSub, Int.reduceAdd, Int.reduceNeg, Int.reduceToNat, Int.reduceSub, Int.cast_ofNat_Int, List.take_succ_cons, List.take_zero, List.drop_succ_cons, List.drop_zero, List.take_nil, List.drop_nil, Option.toList_some, Option.toList_none, List.cons_append, List.nil_append, wp_spec, ne_eq, Nat.reduceEqDiff, not_false_eq_true, true_or, or_true, hc, sp, r13.1, F.a12, F.s12, r13.2, zr, e3, era, fo.s0, rm, ra_181]
  refine ⟨by omega, ?_⟩
  exact loop (cq_I g (x + 30) (6 * u + v)).toNat 0 3 Z _ h _ _ (by omega) (by omega) (by omega) (by omega) (by omega) (by omega) H F R rfl (fun w => absurd w (by omega))
end
/-! the class, exactly: the TEXT is taken -/
section
variable {Y : cx_Y} {K : Option cx_V → cx_Q → Prop} {c : Nat} {n L Z : Int} {E : Nat → Option Int} {h0 : cx_Q} {h : cx_Q}
/-- what was read up to m -/
def rdW (h : cx_Q) (c rd e b : Nat) (key : Int64) (m : Int) : cx_Q := cq_rI (cq_sI h c 11 (cq_I h e 12)) rd (fun k => if 0 ≤ k ∧ k < m then vB (cq_I h b (cq_I h e 13 + k)) key k else cq_I h rd k)
theorem e_X10_takeReading (hY : cY Y) {e b op rd : Nat} (H : CI c n L Z E h0 [] h) (ee : cq_A h c 12 = some e) (eo : cq_A h c 13 = some op) (er : cq_A h c 10 = some rd) (eb : cq_A h e 0 = some b) (ht : 0 ≤ cq_I h e 12 ∧ cq_I h e 12 ≤ 40) (hz : 0 ≤ cq_I h e 13 ∧ cq_I h e 13 + cq_I h e 12 ≤ cq_z h b) (hK : ∀ h', CI c n L Z E h0 [] h' → h' = rdW h c rd e b (cq_J h op 7) (cq_I h e 12) → K none h') : cw Y mi_X10_takeReading K 0 [some (.inr (.inr (some c))), none] [] h 0 0 := by
  have hc := H.cs
  have se : cq_s h e = 0 := H.ta (j := 12) hc (own_9 (by decide)) ee
  have so : cq_s h op = 3 := H.ta (j := 13) hc (own_9 (by decide)) eo
  have srd : cq_s h rd = 104 := H.ta (j := 10) hc (own_9 (by decide)) er
  have sb : cq_s h b = 100 := H.ta (j := 0) se (own_9 (by decide)) eb
  have zb : 0 ≤ cq_z h b ∧ cq_z h b ≤ 100 := H.tz sb
  have zrd : cq_z h rd = 40 := H.tz srd
  have nce : ¬ e = c := ns se hc (by decide)
  have ncr : ¬ c = rd := ns hc srd (by decide)
  have ner : ¬ e = rd := ns se srd (by decide)
  have nbr : ¬ b = rd := ns sb srd (by decide)
  have nbc : ¬ b = c := ns sb hc (by decide)
  have loop : ∀ (r : Nat) (k : Int) (g : cx_Q), 0 ≤ k → k + r = cq_I h e 12 → CI c n L Z E h0 [] g → g = rdW h c rd e b (cq_J h op 7) k → cw Y mi_X10_takeReading K 13 [some (.inr (.inr (some c))), some (.inl k)] [] g 0 0 := by
    intro r
    induction r with
    | zero =>
      intro k g h1 h2 G eg
      have gc := G.cs
      have g11 : cq_I g c 11 = cq_I h e 12 := by
        rw [eg]
        unfold rdW
        rw [rr_I, if_neg ncr, mm_sI, if_pos ⟨rfl, rfl⟩]
      have ek : k = cq_I h e 12 := by omega
      rw [ek] at eg
      refine bx_X10_takeReading_13 hY (pf2_ok hY) ?_
      simp only [wp_iconst, wp_bipush, wp_sipush, wp_ldc, wp_ldc2_w, wp_lconst0, wp_lconst1, wp_aconst_null, wp_iload_0, wp_istore_0, wp_iload_1, wp_istore_1, wp_iload_2, wp_istore_2, wp_iload_3, wp_istore_3, wp_iload, wp_istore, wp_lload_0, wp_lstore_0, wp_lload_1, wp_lstore_1, wp_lload_2, wp_lstore_2, wp_lload_3, wp_lstore_3, wp_lload, wp_lstore, wp_aload_0, wp_astore_0, wp_aload_1, wp_astore_1, wp_aload_2, wp_astore_2, wp_aload_3, wp_astore_3, wp_aload, wp_astore, wp_iinc, wp_iadd, wp_isub, wp_imul, wp_iand, wp_ior, wp_ixor, wp_ishl, wp_ishr, wp_iushr, wp_irem, wp_ladd, wp_lsub, wp_lmul, wp_land, wp_lor, wp_lxor, wp_lshl, wp_lshr, wp_lushr, wp_lrem, wp_lcmp, wp_i2l, wp_l2i, wp_dupI, wp_dupA, wp_dup2J, wp_dup2IA, wp_popI, wp_popA, wp_pop2, wp_goto, wp_if_eq, wp_icmp_eq, wp_if_ne, wp_icmp_ne, wp_if_lt, wp_icmp_lt, wp_if_ge, wp_icmp_ge, wp_if_gt, wp_icmp_gt, wp_if_le, wp_icmp_le, wp_ifnull, wp_ifnonnull, wp_acmp_eq, wp_acmp_ne, wp_tableswitch, wp_get0, wp_put0, wp_get1, wp_put1, wp_get2, wp_put2, wp_get3, wp_put3, wp_new, wp_newarray, wp_anewarray, wp_alen, wp_iaload, wp_laload, wp_baload, wp_aaload, wp_iastore, wp_lastore, wp_bastore, wp_aastore, wp_return, wp_ireturnI, wp_ireturnZ, wp_lreturn, wp_areturnO, wp_areturnA, wp_max, wp_min, wp_obj, wp_virt, wp_nil, ld_I0, ld_Is, ld_J0, ld_Js, ld_A0, ld_As, ha_0, ha_s, cx_put1, cx_put2, cx_dl, cx_tgt, true_and, and_true, Nat.reduceAdd, Nat.reduceSub, Int.reduceAdd, Int.reduceNeg, Int.reduceToNat, Int.reduceSub, Int.cast_ofNat_Int, List.take_succ_cons, List.take_zero, List.drop_succ_cons, List.drop_zero, List.take_nil, List.drop_nil, Option.toList_some, Option.toList_none, List.cons_append, List.nil_append, wp_spec, ne_eq, Nat.reduceEqDiff, not_false_eq_true, true_or, or_true, gc, g11]
      refine ⟨fun _ => ?_, fun q => absurd q (by omega)⟩
      refine bx_X10_takeReading_53 hY (pf2_ok hY) ?_
      simp only [wp_iconst, wp_bipush, wp_sipush, wp_ldc, wp_ldc2_w, wp_lconst0, wp_lconst1, wp_aconst_null, wp_iload_0, wp_istore_0, wp_iload_1, wp_istore_1, wp_iload_2, wp_istore_2, wp_iload_3, wp_istore_3, wp_iload, wp_istore, wp_lload_0, wp_lstore_0, wp_lload_1, wp_lstore_1, wp_lload_2, wp_lstore_2, wp_lload_3, wp_lstore_3, wp_lload, wp_lstore, wp_aload_0, wp_astore_0, wp_aload_1, wp_astore_1, wp_aload_2, wp_astore_2, wp_aload_3, wp_astore_3, wp_aload, wp_astore, wp_iinc, wp_iadd, wp_isub, wp_imul, wp_iand, wp_ior, wp_ixor, wp_ishl, wp_ishr, wp_iushr, wp_irem, wp_ladd, wp_lsub, wp_lmul, wp_land, wp_lor, wp_lxor, wp_lshl, wp_lshr, wp_lushr, wp_lrem, wp_lcmp, wp_i2l, wp_l2i, wp_dupI, wp_dupA, wp_dup2J, wp_dup2IA, wp_popI, wp_popA, wp_pop2, wp_goto, wp_if_eq, wp_icmp_eq, wp_if_ne, wp_icmp_ne, wp_if_lt, wp_icmp_lt, wp_if_ge, wp_icmp_ge, wp_if_gt, wp_icmp_gt, wp_if_le, wp_icmp_le, wp_ifnull, wp_ifnonnull, wp_acmp_eq, wp_acmp_ne, wp_tableswitch, wp_get0, wp_put0, wp_get1, wp_put1, wp_get2, wp_put2, wp_get3, wp_put3, wp_new, wp_newarray, wp_anewarray, wp_alen, wp_iaload, wp_laload, wp_baload, wp_aaload, wp_iastore, wp_lastore, wp_bastore, wp_aastore, wp_return, wp_ireturnI, wp_ireturnZ, wp_lreturn, wp_areturnO, wp_areturnA, wp_max, wp_min, wp_obj, wp_virt, wp_nil, ld_I0, ld_Is, ld_J0, ld_Js, ld_A0, ld_As, ha_0, ha_s, cx_put1, cx_put2, cx_dl, cx_tgt, true_and, and_true, Nat.reduceAdd, Nat.reduceSub, Int.reduceAdd, Int.reduceNeg, Int.reduceToNat, Int.reduceSub, Int.cast_ofNat_Int, List.take_succ_cons, List.take_zero, List.drop_succ_cons, List.drop_zero, List.take_nil, List.drop_nil, Option.toList_some, Option.toList_none, List.cons_append, List.nil_append, wp_spec, ne_eq, Nat.reduceEqDiff, not_false_eq_true, true_or, or_true]
      exact hK g G eg
    | succ r ih =>
      intro k g h1 h2 G eg
      have gc := G.cs
      have gA : cq_A g = cq_A h := by rw [eg]; exact Eq.trans rfl rfl
      have gs : cq_s g = cq_s h := by rw [eg]; exact Eq.trans rfl rfl
      have gz : cq_z g = cq_z h := by rw [eg]; exact Eq.trans rfl rfl
      have gJ : cq_J g = cq_J h := by rw [eg]; exact Eq.trans rfl rfl
      have g11 : cq_I g c 11 = cq_I h e 12 := by
        rw [eg]
        unfold rdW
        rw [rr_I, if_neg ncr, mm_sI, if_pos ⟨rfl, rfl⟩]
      have gIe : cq_I g e = cq_I h e := by
        rw [eg]
        unfold rdW
        funext j
        rw [rr_I, if_neg ner, mm_sI, if_neg (fun q => nce q.1)]
      have gIb : cq_I g b = cq_I h b := by
        rw [eg]
        unfold rdW
        funext j
        rw [rr_I, if_neg nbr, mm_sI, if_neg (fun q => nbc q.1)]
      have gse : cq_s g e = 0 := by rw [gs]; exact se
      have gso : cq_s g op = 3 := by rw [gs]; exact so
      have gsr : cq_s g rd = 104 := by rw [gs]; exact srd
      have gzr : cq_z g rd = 40 := by rw [gz]; exact zrd
      have vb := H.i100 (j := cq_I h e 13 + k) sb
      have vr : 0 ≤ g_veil (cq_J h op 7) k ∧ g_veil (cq_J h op 7) k ≤ 255 := by rw [veil_n]; omega
      refine bx_X10_takeReading_13 hY (pf2_ok hY) ?_
      simp only [wp_iconst, wp_bipush, wp_sipush, wp_ldc, wp_ldc2_w, wp_lconst0, wp_lconst1, wp_aconst_null, wp_iload_0, wp_istore_0, wp_iload_1, wp_istore_1, wp_iload_2, wp_istore_2, wp_iload_3, wp_istore_3, wp_iload, wp_istore, wp_lload_0, wp_lstore_0, wp_lload_1, wp_lstore_1, wp_lload_2, wp_lstore_2, wp_lload_3, wp_lstore_3, wp_lload, wp_lstore, wp_aload_0, wp_astore_0, wp_aload_1, wp_astore_1, wp_aload_2, wp_astore_2, wp_aload_3, wp_astore_3, wp_aload, wp_astore, wp_iinc, wp_iadd, wp_isub, wp_imul, wp_iand, wp_ior, wp_ixor, wp_ishl, wp_ishr, wp_iushr, wp_irem, wp_ladd, wp_lsub, wp_lmul, wp_land, wp_lor, wp_lxor, wp_lshl, wp_lshr, wp_lushr, wp_lrem, wp_lcmp, wp_i2l, wp_l2i, wp_dupI, wp_dupA, wp_dup2J, wp_dup2IA, wp_popI, wp_popA, wp_pop2, wp_goto, wp_if_eq, wp_icmp_eq, wp_if_ne, wp_icmp_ne, wp_if_lt, wp_icmp_lt, wp_if_ge, wp_icmp_ge, wp_if_gt, wp_icmp_gt, wp_if_le, wp_icmp_le, wp_ifnull, wp_ifnonnull, wp_acmp_eq, wp_acmp_ne, wp_tableswitch, wp_get0, wp_put0, wp_get1, wp_put1, wp_get2, wp_put2, wp_get3, wp_put3, wp_new, wp_newarray, wp_anewarray, wp_alen, wp_iaload, wp_laload, wp_baload, wp_aaload, wp_iastore, wp_lastore, wp_bastore, wp_aastore, wp_return, wp_ireturnI, wp_ireturnZ, wp_lreturn, wp_areturnO, wp_areturnA, wp_max, wp_min, wp_obj, wp_virt, wp_nil, ld_I0, ld_Is, ld_J0, ld_Js, ld_A0, ld_As, ha_0, ha_s, cx_put1, cx_put2, cx_dl, cx_tgt, true_and, and_true, Nat.reduceAdd, Nat.reduceSub, Int.reduceAdd, Int.reduceNeg, Int.reduceToNat, Int.reduceSub, Int.cast_ofNat_Int, List.take_succ_cons, List.take_zero, List.drop_succ_cons, List.drop_zero, List.take_nil, List.drop_nil, Option.toList_some, Option.toList_none, List.cons_append, List.nil_append, wp_spec, ne_eq, Nat.reduceEqDiff, not_false_eq_true, true_or, or_true, gc, gA, er, ee, g11]
      refine ⟨fun q => absurd q (by omega), fun q => ?_⟩
      refine cl_X0_textByte (Nat.le_of_ble_eq_true rfl) gse (Nat.le_refl _) (Nat.le_refl _) (e_X0_textByte hY G gse (by rw [gA]; exact eb) (by omega) (by rw [gIe, gz]; omega) ?_)
      refine bx_X10_takeReading_34 hY (pf2_ok hY) ?_
      simp only [wp_iconst, wp_bipush, wp_sipush, wp_ldc, wp_ldc2_w, wp_lconst0, wp_lconst1, wp_aconst_null, wp_iload_0, wp_istore_0, wp_iload_1, wp_istore_1, wp_iload_2, wp_istore_2, wp_iload_3, wp_istore_3, wp_iload, wp_istore, wp_lload_0, wp_lstore_0, wp_lload_1, wp_lstore_1, wp_lload_2, wp_lstore_2, wp_lload_3, wp_lstore_3, wp_lload, wp_lstore, wp_aload_0, wp_astore_0, wp_aload_1, wp_astore_1, wp_aload_2, wp_astore_2, wp_aload_3, wp_astore_3, wp_aload, wp_astore, wp_iinc, wp_iadd, wp_isub, wp_imul, wp_iand, wp_ior, wp_ixor, wp_ishl, wp_ishr, wp_iushr, wp_irem, wp_ladd, wp_lsub, wp_lmul, wp_land, wp_lor, wp_lxor, wp_lshl, wp_lshr, wp_lushr, wp_lrem, wp_lcmp, wp_i2l, wp_l2i, wp_dupI, wp_dupA, wp_dup2J, wp_dup2IA, wp_popI, wp_popA, wp_pop2, wp_goto, wp_if_eq, wp_icmp_eq, wp_if_ne, wp_icmp_ne, wp_if_lt, wp_icmp_lt, wp_if_ge, wp_icmp_ge, wp_if_gt, wp_icmp_gt, wp_if_le, wp_icmp_le, wp_ifnull, wp_ifnonnull, wp_acmp_eq, wp_acmp_ne, wp_tableswitch, wp_get0, wp_put0, wp_get1, wp_put1, wp_get2, wp_put2, wp_get3, wp_put3, wp_new, wp_newarray, wp_anewarray, wp_alen, wp_iaload, wp_laload, wp_baload, wp_aaload, wp_iastore, wp_lastore, wp_bastore, wp_aastore, wp_return, wp_ireturnI, wp_ireturnZ, wp_lreturn, wp_areturnO, wp_areturnA, wp_max, wp_min, wp_obj, wp_virt, wp_nil, ld_I0, ld_Is, ld_J0, ld_Js, ld_A0, ld_As, ha_0, ha_s, cx_put1, cx_put2, cx_dl, cx_tgt, true_and, and_true, Nat.reduceAdd, Nat.reduceSub, Int.reduceAdd, Int.reduceNeg, Int.reduceToNat, Int.reduceSub, Int.cast_ofNat_Int, List.take_succ_cons, List.take_zero, List.drop_succ_cons, List.drop_zero, List.take_nil, List.drop_nil, Option.toList_some, Option.toList_none, List.cons_append, List.nil_append, wp_spec, ne_eq, Nat.reduceEqDiff, not_false_eq_true, true_or, or_true, wf_X3_mix, wf_X3_key, wf_X3_times, wf_X3_timesModuloQ, wf_X3_power, wf_X3_rest, wf_X3_secretOf, wf_X3_sealSum, wf_X3_sum, wf_X3_letterKey, wf_X3_nextOf, wf_X3_isOpen, wf_X3_veil, wf_X3_sealIsRight, cx_sz, cx_c2, cond_true, cond_false, Nat.reduceLeDiff, gc, gA, eo, gso, gsr, gzr, gJ, gIe, gIb, ra_104, cx_rg]
      have G2 := G.sI (a := rd) (j := k) (v := vB (cq_I h b (cq_I h e 13 + k)) (cq_J h op 7) k) gsr (own_m (by decide)) True.intro rfl
      (repeat' (with_reducible (first | refine And.intro ?_ ?_ | intro _)))
      all_goals (try omega)
      refine ih (k + 1) _ (by omega) (by omega) G2 ?_
      rw [eg]
      unfold rdW
      refine qext rfl rfl rfl (fun q r' => ?_) (fun q r => rfl) (fun q r => rfl)
      simp only [mm_sI, rr_I]
      by_cases w : q = rd
      · rw [if_pos w, if_pos w]
        by_cases w2 : r' = k
        · rw [if_pos ⟨w, w2⟩, if_pos (by omega), w2]
          rfl
        · rw [if_neg (fun z => w2 z.2)]
          by_cases w3 : 0 ≤ r' ∧ r' < k
          · rw [if_pos w3, if_pos (by omega)]
          · rw [if_neg w3, if_neg (by omega)]
      · rw [if_neg (fun z => w z.1), if_neg w, if_neg w]
  have G0 := H.sI (a := c) (j := 11) (v := cq_I h e 12) hc (own_9 (by decide)) ⟨by omega, by omega⟩ rfl
  refine bx_X10_takeReading_0 hY (pf2_ok hY) ?_
  simp only [wp_iconst, wp_bipush, wp_sipush, wp_ldc, wp_ldc2_w, wp_lconst0, wp_lconst1, wp_aconst_null, wp_iload_0, wp_istore_0, wp_iload_1, wp_istore_1, wp_iload_2, wp_istore_2, wp_iload_3, wp_istore_3, wp_iload, wp_istore, wp_lload_0, wp_lstore_0, wp_lload_1, wp_lstore_1, wp_lload_2, wp_lstore_2, wp_lload_3, wp_lstore_3, wp_lload, wp_lstore, wp_aload_0, wp_astore_0, wp_aload_1, wp_astore_1, wp_aload_2, wp_astore_2, wp_aload_3, wp_astore_3, wp_aload, wp_astore, wp_iinc, wp_iadd, wp_isub, wp_imul, wp_iand, wp_ior, wp_ixor, wp_ishl, wp_ishr, wp_iushr, wp_irem, wp_ladd, wp_lsub, wp_lmul, wp_land, wp_lor, wp_lxor, wp_lshl, wp_lshr, wp_lushr, wp_lrem, wp_lcmp, wp_i2l, wp_l2i, wp_dupI, wp_dupA, wp_dup2J, wp_dup2IA, wp_popI, wp_popA, wp_pop2, wp_goto, wp_if_eq, wp_icmp_eq, wp_if_ne, wp_icmp_ne, wp_if_lt, wp_icmp_lt, wp_if_ge, wp_icmp_ge, wp_if_gt, wp_icmp_gt, wp_if_le, wp_icmp_le, wp_ifnull, wp_ifnonnull, wp_acmp_eq, wp_acmp_ne, wp_tableswitch, wp_get0, wp_put0, wp_get1, wp_put1, wp_get2, wp_put2, wp_get3, wp_put3, wp_new, wp_newarray, wp_anewarray, wp_alen, wp_iaload, wp_laload, wp_baload, wp_aaload, wp_iastore, wp_lastore, wp_bastore, wp_aastore, wp_return, wp_ireturnI, wp_ireturnZ, wp_lreturn, wp_areturnO, wp_areturnA, wp_max, wp_min, wp_obj, wp_virt, wp_nil, ld_I0, ld_Is, ld_J0, ld_Js, ld_A0, ld_As, ha_0, ha_s, cx_put1, cx_put2, cx_dl, cx_tgt, true_and, and_true, Nat.reduceAdd, Nat.reduceSub, Int.reduceAdd, Int.reduceNeg, Int.reduceToNat, Int.reduceSub, Int.cast_ofNat_Int, List.take_succ_cons, List.take_zero, List.drop_succ_cons, List.drop_zero, List.take_nil, List.drop_nil, Option.toList_some, Option.toList_none, List.cons_append, List.nil_append, wp_spec, ne_eq, Nat.reduceEqDiff, not_false_eq_true, true_or, or_true, hc, ee, se, mm_sI, mm_sJ, mm_sA, mm_IJ, mm_IA, mm_JI, mm_JA, mm_AI, mm_AJ, mm_ssI, mm_ssJ, mm_ssA, mm_zI, mm_zJ, mm_zA, mm_nI, mm_nJ, mm_nA]
  refine loop (cq_I h e 12).toNat 0 _ (by omega) (by omega) G0 ?_
  unfold rdW
  refine qext rfl rfl rfl (fun q r' => ?_) (fun q r => rfl) (fun q r => rfl)
  rw [rr_I]
  by_cases w : q = rd
  · rw [if_pos w, if_neg (by omega), w, mm_sI, if_neg (fun z => ncr z.1.symm)]
  · rw [if_neg w]
end
/-! class and reference side by side: what was read -/
def RE (x : Nat) (k : Int64) (g g' : cx_Q) : Prop := (cq_I g' x 75 = cq_I g x 83) ∧ (∀ i, 0 ≤ i → i < cq_I g x 83 → cq_I g' (x + 65) i = cx_and (Int64.ofInt (cq_I g (x + 62) (cq_I g x 77 + cq_I g x 82 + i)) ^^^ f_key 5 k (Int64.ofInt i)).toInt32.toInt 255)
theorem RE.x75 {x : Nat} {k : Int64} {g g' : cx_Q} (F_ : RE x k g g') : cq_I g' x 75 = cq_I g x 83 := F_.1
theorem RE.r_ {x : Nat} {k : Int64} {g g' : cx_Q} (F_ : RE x k g g') : ∀ i, 0 ≤ i → i < cq_I g x 83 → cq_I g' (x + 65) i = cx_and (Int64.ofInt (cq_I g (x + 62) (cq_I g x 77 + cq_I g x 82 + i)) ^^^ f_key 5 k (Int64.ofInt i)).toInt32.toInt 255 := F_.2
theorem RD.e {x : Nat} {k : Int64} {g g' : cx_Q} (A : RD x k g g') : RE x k g g' := ⟨A.x75, A.r_⟩
section
variable {c x : Nat} {n : Int} {pe : Int → Nat} {ro : Int → Int → Nat} {pa lb tp rd en op ob : Nat} {T Lf : Int → Nat} {h g h' g1 g2 gq : cx_Q} {b : Nat} {l : Int} {key : Int64}
theorem fx_read (F : FX c x n pe ro pa lb tp rd en op ob T Lf h g1) (R : ER x en b l h g) (A : RE x key g gq) (d0 : 0 ≤ cq_I g x 82) (h8 : ∀ j, 0 ≤ cq_I h b j ∧ cq_I h b j ≤ 255) (e : h' = rdW h c rd en b key (cq_I h en 12)) (eI : ∀ o j, 1 ≤ o → o ≠ 65 → cq_I g2 (x + o) j = cq_I g1 (x + o) j) (eJ : ∀ o j, 1 ≤ o → cq_J g2 (x + o) j = cq_J g1 (x + o) j) (ex : ∀ j, j ≠ 75 → cq_I g2 x j = cq_I g1 x j) (x75 : cq_I g2 x 75 = cq_I gq x 75) (r65 : ∀ i, cq_I g2 (x + 65) i = cq_I gq (x + 65) i) : FX c x n pe ro pa lb tp rd en op ob T Lf h' g2 := by
  have fs := F.fs
  have ncr : ¬ c = rd := ns fs.s0 fs.s2 (by decide)
  have nrc : ¬ rd = c := fun z => ncr z.symm
  have ntr : ¬ tp = rd := ns fs.s1 fs.s2 (by decide)
  have ntc : ¬ tp = c := ns fs.s1 fs.s0 (by decide)
  have e1 : evx (fun a => a = c ∨ a = rd) h h' := by
    rw [e]
    exact evx.rI (P := fun a => a = c ∨ a = rd) (evx.sI (P := fun a => a = c ∨ a = rd) evx.refl (Or.inl rfl)) (Or.inr rfl)
  have eA : cq_A h' = cq_A h := by rw [e]; exact Eq.trans rfl rfl
  have hI : ∀ j, j ≠ 11 → cq_I h' c j = cq_I h c j := fun j w => by
    rw [e]
    unfold rdW
    rw [rr_I, if_neg ncr, mm_sI, if_neg (fun q => w q.2)]
  have h11 : cq_I h' c 11 = cq_I h en 12 := by
    rw [e]
    unfold rdW
    rw [rr_I, if_neg ncr, mm_sI, if_pos ⟨rfl, rfl⟩]
  have ht : cq_I h' tp = cq_I h tp := by
    rw [e]
    unfold rdW
    funext j
    rw [rr_I, if_neg ntr, mm_sI, if_neg (fun q => ntc q.1)]
  have hr : ∀ k, cq_I h' rd k = if 0 ≤ k ∧ k < cq_I h en 12 then vB (cq_I h b (cq_I h en 13 + k)) key k else cq_I h rd k := fun k => by
    rw [e]
    unfold rdW
    rw [rr_I, if_pos rfl]
  clear e
  have a75 := A.x75
  have t1 := R.t1
  have tz := R.tz
  refine F.upS e1 (fun o _ => o = 65) (fun o j h1 h2 h3 w => ⟨eI o j h1 w, eJ o j h1⟩) (fun a w => ?_) (fun o j w => Or.inr w) (by rw [eA]) (by rw [eA]) (ex 0 (by decide)) (ex 72 (by decide)) ⟨e1.s fs.s0 (by decide), e1.s fs.s1 (by decide), e1.s fs.s2 (by decide), by rw [eA]; exact fs.a8, by rw [eA]; exact fs.a10, by rw [hI 2 (by decide), ex 72 (by decide)]; exact fs.lc, by rw [hI 3 (by decide), ex 73 (by decide)]; exact fs.cc, by rw [hI 4 (by decide), ex 63 (by decide)]; exact fs.bc, by rw [hI 5 (by decide), ex 85 (by decide)]; exact fs.mc, by rw [hI 6 (by decide), ex 84 (by decide)]; exact fs.oc, by rw [hI 7 (by decide), ex 86 (by decide)]; exact fs.kc, by rw [hI 9 (by decide), ex 68 (by decide)]; exact fs.tc, by rw [h11, x75, a75]; exact R.tl, fun k k0 k1 => ?_, fun k k0 k1 => ?_, fun k k0 k1 => ?_⟩
  · rcases w with rfl | rfl
    · rw [fs.s0]; rfl
    · rw [fs.s2]; rfl
  · rw [ex 68 (by decide)] at k1
    rw [ht, eI 61 k (by decide) (by decide)]
    exact fs.tp_ k k0 k1
  · rw [x75, a75] at k1
    have tl := R.tl
    rw [hr, if_pos (by omega), r65, A.r_ k k0 k1, R.i77, R.ta]
    have bb := R.bb (cq_I g x 82 + k) (by omega) (by omega)
    have ea : 100 * l + cq_I g x 82 + k = 100 * l + (cq_I g x 82 + k) := by omega
    rw [ea, ← bb, veil_8 (h8 _)]
  · rw [ex 68 (by decide)] at k1
    rw [eI 61 k (by decide) (by decide)]
    exact fs.tb k k0 k1
end
/-! class and reference side by side: the door, called -/
section
variable {Y : cx_Y} {K : Option cx_V → cx_Q → Prop} {c x : Nat} {n L Z : Int} {E : Nat → Option Int} {h0 : cx_Q} {h g g' : cx_Q} {pe : Int → Nat} {ro : Int → Int → Nat} {pa lb tp rd en op ob : Nat} {T Lf : Int → Nat}
theorem eL.sJ {m : cx_Q} {j : Int} {v : Int64} (e1 : eL x g m) (w : 77 ≤ j ∧ j ≤ 83) : eL x g (cq_sJ m x j v) := by
  refine ⟨e1.1, e1.2.1, e1.2.2.1, e1.2.2.2.1, fun i k q => ⟨(e1.2.2.2.2 i k q).1, ?_⟩⟩
  rw [mm_sJ, if_neg (fun z => q ⟨z.1, by omega, by omega⟩)]
  exact (e1.2.2.2.2 i k q).2
theorem rl_eL {l : Int} : eL x g (m_rl g x l) := by
  have e1 : eL x g (m_rl1 g x l) := by
    unfold m_rl1
    exact eL.sI (eL.sI (eL.refl x g) (by omega)) (by omega)
  have e3 : eL x g (m_rl3 g x l) := by
    unfold m_rl3
    generalize m_rl1 g x l = g1 at e1 ⊢
    exact eL.sI (eL.sI e1 (by omega)) (by omega)
  unfold m_rl m_rl4
  generalize m_rl3 g x l = g3 at e3 ⊢
  generalize m_bytes g3 x (m_hd g x l) 8 = a1
  generalize (m_bytes g3 x (m_hd g x l + 8) 2).toInt32.toInt = a2
  generalize (m_bytes g3 x (m_hd g x l + 10) 2).toInt32.toInt = a3
  exact eL.sI (eL.sI (eL.sJ e3 (by omega)) (by omega)) (by omega)
theorem f_X10_faultAtTheDoor (hY : cY Y) {u l : Int} (H : CI c n L Z E h0 [] h) (F : FX c x n pe ro pa lb tp rd en op ob T Lf h g) (hu : 0 ≤ u ∧ u < n) (hl : 0 ≤ l ∧ l < cq_I g x 72)
    (hF : ¬ (m_rlOk g x l u ∧ cq_I g (x + 11) u ≠ 0 ∧ cq_I g x 84 < 400) → ∀ m h', 1 ≤ m → m ≤ 10 → CI c n L Z E h0 [] h' → FX c x n pe ro pa lb tp rd en op ob T Lf h' g → K (some (.inl m)) h')
    (hK : m_rlOk g x l u → cq_I g (x + 11) u ≠ 0 → cq_I g x 84 < 400 → ∀ h', CI c n L Z E h0 [] h' → FX c x n pe ro pa lb tp rd en op ob T Lf h' (m_rl g x l) → ER x en (Lf l + 1) l h' (m_rl g x l) → K (some (.inl 0)) h') : cw Y mi_X10_faultAtTheDoor K 0 [some (.inr (.inr (some c))), some (.inr (.inr (some (Lf l)))), some (.inl u)] [] h 0 0 := by
  have hc := H.cs
  have fl := (F.fl l hl.1 hl.2).2
  have nn := F.nn
  have ns12 := F.s12
  have f1 := fl.s1
  have ne : ¬ Lf l + 1 = en := fun z => by rw [z, ns12] at f1; exact absurd f1 (by decide)
  have hf : bfP h (Lf l + 1) (fun k => if k < cq_z h (Lf l + 1) then cq_I h (Lf l + 1) k else 0) := fun k _ => rfl
  generalize ef : (fun k => if k < cq_z h (Lf l + 1) then cq_I h (Lf l + 1) k else 0) = f at hf
  have h8 : ∀ k, 0 ≤ k → 0 ≤ f k ∧ f k ≤ 255 := fun k k0 => by
    rw [hf k k0]
    split
    · exact H.i100 f1
    · omega
  have dk := door_ok (u := u) fl hf h8
  rw [nn] at dk
  have fail : ∀ (m : Int) (h' : cx_Q), 1 ≤ m → m ≤ 10 → CI c n L Z E h0 [] h' → apX en h h' → ¬ (m_rlOk g x l u ∧ cq_I g (x + 11) u ≠ 0 ∧ cq_I g x 84 < 400) → K (some (.inl m)) h' := fun m h' m1 m2 G X no => hF no m h' m1 m2 G (F.door X (eL.refl x g))
  refine bx_X10_faultAtTheDoor_0 hY (pf2_ok hY) ?_
  simp only [wp_iconst, wp_bipush, wp_sipush, wp_ldc, wp_ldc2_w, wp_lconst0, wp_lconst1, wp_aconst_null, wp_iload_0, wp_istore_0, wp_iload_1, wp_istore_1, wp_iload_2, wp_istore_2, wp_iload_3, wp_istore_3, wp_iload, wp_istore, wp_lload_0, wp_lstore_0, wp_lload_1, wp_lstore_1, wp_lload_2, wp_lstore_2, wp_lload_3, wp_lstore_3, wp_lload, wp_lstore, wp_aload_0, wp_astore_0, wp_aload_1, wp_astore_1, wp_aload_2, wp_astore_2, wp_aload_3, wp_astore_3, wp_aload, wp_astore, wp_iinc, wp_iadd, wp_isub, wp_imul, wp_iand, wp_ior, wp_ixor, wp_ishl, wp_ishr, wp_iushr, wp_irem, wp_ladd, wp_lsub, wp_lmul, wp_land, wp_lor, wp_lxor, wp_lshl, wp_lshr, wp_lushr, wp_lrem, wp_lcmp, wp_i2l, wp_l2i, wp_dupI, wp_dupA, wp_dup2J, wp_dup2IA, wp_popI, wp_popA, wp_pop2, wp_goto, wp_if_eq, wp_icmp_eq, wp_if_ne, wp_icmp_ne, wp_if_lt, wp_icmp_lt, wp_if_ge, wp_icmp_ge, wp_if_gt, wp_icmp_gt, wp_if_le, wp_icmp_le, wp_ifnull, wp_ifnonnull, wp_acmp_eq, wp_acmp_ne, wp_tableswitch, wp_get0, wp_put0, wp_get1, wp_put1, wp_get2, wp_put2, wp_get3, wp_put3, wp_new, wp_newarray, wp_anewarray, wp_alen, wp_iaload, wp_laload, wp_baload, wp_aaload, wp_iastore, wp_lastore, wp_bastore, wp_aastore, wp_return, wp_ireturnI, wp_ireturnZ, wp_lreturn, wp_areturnO, wp_areturnA, wp_max, wp_min, wp_obj, wp_virt, wp_nil, ld_I0, ld_Is, ld_J0, ld_Js, ld_A0, ld_As, ha_0, ha_s, cx_put1, cx_put2, cx_dl, cx_tgt, true_and, and_true, Nat.reduceAdd, Nat.reduceSub, Int.reduceAdd, Int.reduceNeg, Int.reduceToNat, Int.reduceSub, Int.cast_ofNat_Int, List.take_succ_cons, List.take_zero, List.drop_succ_cons, List.drop_zero, List.take_nil, List.drop_nil, Option.toList_some, Option.toList_none, List.cons_append, List.nil_append, wp_spec, ne_eq, Nat.reduceEqDiff, not_false_eq_true, true_or, or_true, hc, F.a12, fl.s0, fl.b0]
  refine cl_X0_takeApart (Nat.le_of_ble_eq_true rfl) ns12 (Nat.le_refl _) (Nat.le_refl _) (e_X0_takeApart hY H ns12 f1 hf (fun m G X no => ?_) (fun m G X ok W => ?_))
  · have j46 : ∀ lv, cw Y mi_X10_faultAtTheDoor K 46 lv [] m 0 0 := by
      intro lv
      refine bx_X10_faultAtTheDoor_46 hY (pf2_ok hY) ?_
      simp only [wp_iconst, wp_bipush, wp_sipush, wp_ldc, wp_ldc2_w, wp_lconst0, wp_lconst1, wp_aconst_null, wp_iload_0, wp_istore_0, wp_iload_1, wp_istore_1, wp_iload_2, wp_istore_2, wp_iload_3, wp_istore_3, wp_iload, wp_istore, wp_lload_0, wp_lstore_0, wp_lload_1, wp_lstore_1, wp_lload_2, wp_lstore_2, wp_lload_3, wp_lstore_3, wp_lload, wp_lstore, wp_aload_0, wp_astore_0, wp_aload_1, wp_astore_1, wp_aload_2, wp_astore_2, wp_aload_3, wp_astore_3, wp_aload, wp_astore, wp_iinc, wp_iadd, wp_isub, wp_imul, wp_iand, wp_ior, wp_ixor, wp_ishl, wp_ishr, wp_iushr, wp_irem, wp_ladd, wp_lsub, wp_lmul, wp_land, wp_lor, wp_lxor, wp_lshl, wp_lshr, wp_lushr, wp_lrem, wp_lcmp, wp_i2l, wp_l2i, wp_dupI, wp_dupA, wp_dup2J, wp_dup2IA, wp_popI, wp_popA, wp_pop2, wp_goto, wp_if_eq, wp_icmp_eq, wp_if_ne, wp_icmp_ne, wp_if_lt, wp_icmp_lt, wp_if_ge, wp_icmp_ge, wp_if_gt, wp_icmp_gt, wp_if_le, wp_icmp_le, wp_ifnull, wp_ifnonnull, wp_acmp_eq, wp_acmp_ne, wp_tableswitch, wp_get0, wp_put0, wp_get1, wp_put1, wp_get2, wp_put2, wp_get3, wp_put3, wp_new, wp_newarray, wp_anewarray, wp_alen, wp_iaload, wp_laload, wp_baload, wp_aaload, wp_iastore, wp_lastore, wp_bastore, wp_aastore, wp_return, wp_ireturnI, wp_ireturnZ, wp_lreturn, wp_areturnO, wp_areturnA, wp_max, wp_min, wp_obj, wp_virt, wp_nil, ld_I0, ld_Is, ld_J0, ld_Js, ld_A0, ld_As, ha_0, ha_s, cx_put1, cx_put2, cx_dl, cx_tgt, true_and, and_true, Nat.reduceAdd, Nat.reduceSub, Int.reduceAdd, Int.reduceNeg, Int.reduceToNat, Int.reduceSub, Int.cast_ofNat_Int, List.take_succ_cons, List.take_zero, List.drop_succ_cons, List.drop_zero, List.take_nil, List.drop_nil, Option.toList_some, Option.toList_none, List.cons_append, List.nil_append, wp_spec, ne_eq, Nat.reduceEqDiff, not_false_eq_true, true_or, or_true]
      exact fail 1 m (by decide) (by decide) G X (fun w => no (dk.mpr w.1).1)
    have F1 := F.door X (eL.refl x g)
    refine bx_X10_faultAtTheDoor_11 hY (pf2_ok hY) ?_
    simp only [wp_iconst, wp_bipush, wp_sipush, wp_ldc, wp_ldc2_w, wp_lconst0, wp_lconst1, wp_aconst_null, wp_iload_0, wp_istore_0, wp_iload_1, wp_istore_1, wp_iload_2, wp_istore_2, wp_iload_3, wp_istore_3, wp_iload, wp_istore, wp_lload_0, wp_lstore_0, wp_lload_1, wp_lstore_1, wp_lload_2, wp_lstore_2, wp_lload_3, wp_lstore_3, wp_lload, wp_lstore, wp_aload_0, wp_astore_0, wp_aload_1, wp_astore_1, wp_aload_2, wp_astore_2, wp_aload_3, wp_astore_3, wp_aload, wp_astore, wp_iinc, wp_iadd, wp_isub, wp_imul, wp_iand, wp_ior, wp_ixor, wp_ishl, wp_ishr, wp_iushr, wp_irem, wp_ladd, wp_lsub, wp_lmul, wp_land, wp_lor, wp_lxor, wp_lshl, wp_lshr, wp_lushr, wp_lrem, wp_lcmp, wp_i2l, wp_l2i, wp_dupI, wp_dupA, wp_dup2J, wp_dup2IA, wp_popI, wp_popA, wp_pop2, wp_goto, wp_if_eq, wp_icmp_eq, wp_if_ne, wp_icmp_ne, wp_if_lt, wp_icmp_lt, wp_if_ge, wp_icmp_ge, wp_if_gt, wp_icmp_gt, wp_if_le, wp_icmp_le, wp_ifnull, wp_ifnonnull, wp_acmp_eq, wp_acmp_ne, wp_tableswitch, wp_get0, wp_put0, wp_get1, wp_put1, wp_get2, wp_put2, wp_get3, wp_put3, wp_new, wp_newarray, wp_anewarray, wp_alen, wp_iaload, wp_laload, wp_baload, wp_aaload, wp_iastore, wp_lastore, wp_bastore, wp_aastore, wp_return, wp_ireturnI, wp_ireturnZ, wp_lreturn, wp_areturnO, wp_areturnA, wp_max, wp_min, wp_obj, wp_virt, wp_nil, ld_I0, ld_Is, ld_J0, ld_Js, ld_A0, ld_As, ha_0, ha_s, cx_put1, cx_put2, cx_dl, cx_tgt, true_and, and_true, Nat.reduceAdd, Nat.reduceSub, Int.reduceAdd, Int.reduceNeg, Int.reduceToNat, Int.reduceSub, Int.cast_ofNat_Int, List.take_succ_cons, List.take_zero, List.drop_succ_cons, List.drop_zero, List.take_nil, List.drop_nil, Option.toList_some, Option.toList_none, List.cons_append, List.nil_append, wp_spec, ne_eq, Nat.reduceEqDiff, not_false_eq_true, true_or, or_true, F1.fs.s0, F1.a12, F1.s12]
    exact ⟨fun _ => j46 _, fun w => absurd trivial w⟩
  have F1 := F.door X (rl_eL (x := x) (g := g) (l := l))
  have R1 := er_mk fl hf h8 ok ns12 ne X W
  have gc := G.cs
  obtain ⟨w0, w2, w3, w4, w5, w6⟩ := W
  have j46 : ¬ m_rlOk g x l u → ∀ lv, cw Y mi_X10_faultAtTheDoor K 46 lv [] m 0 0 := by
    intro no lv
    refine bx_X10_faultAtTheDoor_46 hY (pf2_ok hY) ?_
    simp only [wp_iconst, wp_bipush, wp_sipush, wp_ldc, wp_ldc2_w, wp_lconst0, wp_lconst1, wp_aconst_null, wp_iload_0, wp_istore_0, wp_iload_1, wp_istore_1, wp_iload_2, wp_istore_2, wp_iload_3, wp_istore_3, wp_iload, wp_istore, wp_lload_0, wp_lstore_0, wp_lload_1, wp_lstore_1, wp_lload_2, wp_lstore_2, wp_lload_3, wp_lstore_3, wp_lload, wp_lstore, wp_aload_0, wp_astore_0, wp_aload_1, wp_astore_1, wp_aload_2, wp_astore_2, wp_aload_3, wp_astore_3, wp_aload, wp_astore, wp_iinc, wp_iadd, wp_isub, wp_imul, wp_iand, wp_ior, wp_ixor, wp_ishl, wp_ishr, wp_iushr, wp_irem, wp_ladd, wp_lsub, wp_lmul, wp_land, wp_lor, wp_lxor, wp_lshl, wp_lshr, wp_lushr, wp_lrem, wp_lcmp, wp_i2l, wp_l2i, wp_dupI, wp_dupA, wp_dup2J, wp_dup2IA, wp_popI, wp_popA, wp_pop2, wp_goto, wp_if_eq, wp_icmp_eq, wp_if_ne, wp_icmp_ne, wp_if_lt, wp_icmp_lt, wp_if_ge, wp_icmp_ge, wp_if_gt, wp_icmp_gt, wp_if_le, wp_icmp_le, wp_ifnull, wp_ifnonnull, wp_acmp_eq, wp_acmp_ne, wp_tableswitch, wp_get0, wp_put0, wp_get1, wp_put1, wp_get2, wp_put2, wp_get3, wp_put3, wp_new, wp_newarray, wp_anewarray, wp_alen, wp_iaload, wp_laload, wp_baload, wp_aaload, wp_iastore, wp_lastore, wp_bastore, wp_aastore, wp_return, wp_ireturnI, wp_ireturnZ, wp_lreturn, wp_areturnO, wp_areturnA, wp_max, wp_min, wp_obj, wp_virt, wp_nil, ld_I0, ld_Is, ld_J0, ld_Js, ld_A0, ld_As, ha_0, ha_s, cx_put1, cx_put2, cx_dl, cx_tgt, true_and, and_true, Nat.reduceAdd, Nat.reduceSub, Int.reduceAdd, Int.reduceNeg, Int.reduceToNat, Int.reduceSub, Int.cast_ofNat_Int, List.take_succ_cons, List.take_zero, List.drop_succ_cons, List.drop_zero, List.take_nil, List.drop_nil, Option.toList_some, Option.toList_none, List.cons_append, List.nil_append, wp_spec, ne_eq, Nat.reduceEqDiff, not_false_eq_true, true_or, or_true]
    exact fail 1 m (by decide) (by decide) G X (fun w => no w.1)
  refine bx_X10_faultAtTheDoor_11 hY (pf2_ok hY) ?_
  simp only [wp_iconst, wp_bipush, wp_sipush, wp_ldc, wp_ldc2_w, wp_lconst0, wp_lconst1, wp_aconst_null, wp_iload_0, wp_istore_0, wp_iload_1, wp_istore_1, wp_iload_2, wp_istore_2, wp_iload_3, wp_istore_3, wp_iload, wp_istore, wp_lload_0, wp_lstore_0, wp_lload_1, wp_lstore_1, wp_lload_2, wp_lstore_2, wp_lload_3, wp_lstore_3, wp_lload, wp_lstore, wp_aload_0, wp_astore_0, wp_aload_1, wp_astore_1, wp_aload_2, wp_astore_2, wp_aload_3, wp_astore_3, wp_aload, wp_astore, wp_iinc, wp_iadd, wp_isub, wp_imul, wp_iand, wp_ior, wp_ixor, wp_ishl, wp_ishr, wp_iushr, wp_irem, wp_ladd, wp_lsub, wp_lmul, wp_land, wp_lor, wp_lxor, wp_lshl, wp_lshr, wp_lushr, wp_lrem, wp_lcmp, wp_i2l, wp_l2i, wp_dupI, wp_dupA, wp_dup2J, wp_dup2IA, wp_popI, wp_popA, wp_pop2, wp_goto, wp_if_eq, wp_icmp_eq, wp_if_ne, wp_icmp_ne, wp_if_lt, wp_icmp_lt, wp_if_ge, wp_icmp_ge, wp_if_gt, wp_icmp_gt, wp_if_le, wp_icmp_le, wp_ifnull, wp_ifnonnull, wp_acmp_eq, wp_acmp_ne, wp_tableswitch, wp_get0, wp_put0, wp_get1, wp_put1, wp_get2, wp_put2, wp_get3, wp_put3, wp_new, wp_newarray, wp_anewarray, wp_alen, wp_iaload, wp_laload, wp_baload, wp_aaload, wp_iastore, wp_lastore, wp_bastore, wp_aastore, wp_return, wp_ireturnI, wp_ireturnZ, wp_lreturn, wp_areturnO, wp_areturnA, wp_max, wp_min, wp_obj, wp_virt, wp_nil, ld_I0, ld_Is, ld_J0, ld_Js, ld_A0, ld_As, ha_0, ha_s, cx_put1, cx_put2, cx_dl, cx_tgt, true_and, and_true, Nat.reduceAdd, Nat.reduceSub, Int.reduceAdd, Int.reduceNeg, Int.reduceToNat, Int.reduceSub, Int.cast_ofNat_Int, List.take_succ_cons, List.take_zero, List.drop_succ_cons, List.drop_zero, List.take_nil, List.drop_nil, Option.toList_some, Option.toList_none, List.cons_append, List.nil_append, wp_spec, ne_eq, Nat.reduceEqDiff, not_false_eq_true, true_or, or_true, gc, F1.a12, F1.s12, w3, w4]
  refine ⟨fun w => absurd w (by decide), fun _ => ?_⟩
  refine cl_X10_arePair (Nat.le_of_ble_eq_true rfl) gc (Nat.le_refl _) (Nat.le_refl _) (e_X10_arePair hY G (fun no => ?_) (fun p1 p2 p3 => ?_))
  · refine bx_X10_faultAtTheDoor_32 hY (pf2_ok hY) ?_
    simp only [wp_iconst, wp_bipush, wp_sipush, wp_ldc, wp_ldc2_w, wp_lconst0, wp_lconst1, wp_aconst_null, wp_iload_0, wp_istore_0, wp_iload_1, wp_istore_1, wp_iload_2, wp_istore_2, wp_iload_3, wp_istore_3, wp_iload, wp_istore, wp_lload_0, wp_lstore_0, wp_lload_1, wp_lstore_1, wp_lload_2, wp_lstore_2, wp_lload_3, wp_lstore_3, wp_lload, wp_lstore, wp_aload_0, wp_astore_0, wp_aload_1, wp_astore_1, wp_aload_2, wp_astore_2, wp_aload_3, wp_astore_3, wp_aload, wp_astore, wp_iinc, wp_iadd, wp_isub, wp_imul, wp_iand, wp_ior, wp_ixor, wp_ishl, wp_ishr, wp_iushr, wp_irem, wp_ladd, wp_lsub, wp_lmul, wp_land, wp_lor, wp_lxor, wp_lshl, wp_lshr, wp_lushr, wp_lrem, wp_lcmp, wp_i2l, wp_l2i, wp_dupI, wp_dupA, wp_dup2J, wp_dup2IA, wp_popI, wp_popA, wp_pop2, wp_goto, wp_if_eq, wp_icmp_eq, wp_if_ne, wp_icmp_ne, wp_if_lt, wp_icmp_lt, wp_if_ge, wp_icmp_ge, wp_if_gt, wp_icmp_gt, wp_if_le, wp_icmp_le, wp_ifnull, wp_ifnonnull, wp_acmp_eq, wp_acmp_ne, wp_tableswitch, wp_get0, wp_put0, wp_get1, wp_put1, wp_get2, wp_put2, wp_get3, wp_put3, wp_new, wp_newarray, wp_anewarray, wp_alen, wp_iaload, wp_laload, wp_baload, wp_aaload, wp_iastore, wp_lastore, wp_bastore, wp_aastore, wp_return, wp_ireturnI, wp_ireturnZ, wp_lreturn, wp_areturnO, wp_areturnA, wp_max, wp_min, wp_obj, wp_virt, wp_nil, ld_I0, ld_Is, ld_J0, ld_Js, ld_A0, ld_As, ha_0, ha_s, cx_put1, cx_put2, cx_dl, cx_tgt, true_and, and_true, Nat.reduceAdd, Nat.reduceSub, Int.reduceAdd, Int.reduceNeg, Int.reduceToNat, Int.reduceSub, Int.cast_ofNat_Int, List.take_succ_cons, List.take_zero, List.drop_succ_cons, List.drop_zero, List.take_nil, List.drop_nil, Option.toList_some, Option.toList_none, List.cons_append, List.nil_append, wp_spec, ne_eq, Nat.reduceEqDiff, not_false_eq_true, true_or, or_true, Nat.left_eq_add, Nat.add_eq_left, Nat.add_left_cancel_iff, Nat.reduceEqDiff, Int.reduceEq, false_and, and_false, if_false, if_true, and_self, true_and, true_or, or_true, false_or, or_false, gc, F1.a12, F1.s12, w4]
    exact ⟨fun _ => j46 (fun z => no (dk.mpr z).2.1) _, fun w => absurd trivial w⟩
  refine bx_X10_faultAtTheDoor_32 hY (pf2_ok hY) ?_
  simp only [wp_iconst, wp_bipush, wp_sipush, wp_ldc, wp_ldc2_w, wp_lconst0, wp_lconst1, wp_aconst_null, wp_iload_0, wp_istore_0, wp_iload_1, wp_istore_1, wp_iload_2, wp_istore_2, wp_iload_3, wp_istore_3, wp_iload, wp_istore, wp_lload_0, wp_lstore_0, wp_lload_1, wp_lstore_1, wp_lload_2, wp_lstore_2, wp_lload_3, wp_lstore_3, wp_lload, wp_lstore, wp_aload_0, wp_astore_0, wp_aload_1, wp_astore_1, wp_aload_2, wp_astore_2, wp_aload_3, wp_astore_3, wp_aload, wp_astore, wp_iinc, wp_iadd, wp_isub, wp_imul, wp_iand, wp_ior, wp_ixor, wp_ishl, wp_ishr, wp_iushr, wp_irem, wp_ladd, wp_lsub, wp_lmul, wp_land, wp_lor, wp_lxor, wp_lshl, wp_lshr, wp_lushr, wp_lrem, wp_lcmp, wp_i2l, wp_l2i, wp_dupI, wp_dupA, wp_dup2J, wp_dup2IA, wp_popI, wp_popA, wp_pop2, wp_goto, wp_if_eq, wp_icmp_eq, wp_if_ne, wp_icmp_ne, wp_if_lt, wp_icmp_lt, wp_if_ge, wp_icmp_ge, wp_if_gt, wp_icmp_gt, wp_if_le, wp_icmp_le, wp_ifnull, wp_ifnonnull, wp_acmp_eq, wp_acmp_ne, wp_tableswitch, wp_get0, wp_put0, wp_get1, wp_put1, wp_get2, wp_put2, wp_get3, wp_put3, wp_new, wp_newarray, wp_anewarray, wp_alen, wp_iaload, wp_laload, wp_baload, wp_aaload, wp_iastore, wp_lastore, wp_bastore, wp_aastore, wp_return, wp_ireturnI, wp_ireturnZ, wp_lreturn, wp_areturnO, wp_areturnA, wp_max, wp_min, wp_obj, wp_virt, wp_nil, ld_I0, ld_Is, ld_J0, ld_Js, ld_A0, ld_As, ha_0, ha_s, cx_put1, cx_put2, cx_dl, cx_tgt, true_and, and_true, Nat.reduceAdd, Nat.reduceSub, Int.reduceAdd, Int.reduceNeg, Int.reduceToNat, Int.reduceSub, Int.cast_ofNat_Int, List.take_succ_cons, List.take_zero, List.drop_succ_cons, List.drop_zero, List.take_nil, List.drop_nil, Option.toList_some, Option.toList_none, List.cons_append, List.nil_append, wp_spec, ne_eq, Nat.reduceEqDiff, not_false_eq_true, true_or, or_true, Nat.left_eq_add, Nat.add_eq_left, Nat.add_left_cancel_iff, Nat.reduceEqDiff, Int.reduceEq, false_and, and_false, if_false, if_true, and_self, true_and, true_or, or_true, false_or, or_false, gc, F1.a12, F1.s12, w4]
  refine ⟨fun w => absurd w (by decide), fun _ => ⟨fun eu => ?_, fun nu => j46 (fun z => nu (dk.mpr z).2.2) _⟩⟩
  have rok : m_rlOk g x l u := dk.mp ⟨ok, ⟨p1, p2, p3⟩, eu⟩
  have fu1 := F1.fu u hu.1 hu.2
  have zpa : cq_z m pa = n := G.tz F1.s0
  have g11 : cq_I (m_rl g x l) (x + 11) u = cq_I g (x + 11) u := rl_x.2.2.2.2 11 u (by decide)
  have g84 : cq_I (m_rl g x l) x 84 = cq_I g x 84 := ((rl_eL (x := x) (g := g) (l := l)).2.2.2.2 x 84 (by omega)).1
  have oc := F1.fs.oc
  rw [g84] at oc
  refine bx_X10_faultAtTheDoor_48 hY (pf2_ok hY) ?_
  simp only [wp_iconst, wp_bipush, wp_sipush, wp_ldc, wp_ldc2_w, wp_lconst0, wp_lconst1, wp_aconst_null, wp_iload_0, wp_istore_0, wp_iload_1, wp_istore_1, wp_iload_2, wp_istore_2, wp_iload_3, wp_istore_3, wp_iload, wp_istore, wp_lload_0, wp_lstore_0, wp_lload_1, wp_lstore_1, wp_lload_2, wp_lstore_2, wp_lload_3, wp_lstore_3, wp_lload, wp_lstore, wp_aload_0, wp_astore_0, wp_aload_1, wp_astore_1, wp_aload_2, wp_astore_2, wp_aload_3, wp_astore_3, wp_aload, wp_astore, wp_iinc, wp_iadd, wp_isub, wp_imul, wp_iand, wp_ior, wp_ixor, wp_ishl, wp_ishr, wp_iushr, wp_irem, wp_ladd, wp_lsub, wp_lmul, wp_land, wp_lor, wp_lxor, wp_lshl, wp_lshr, wp_lushr, wp_lrem, wp_lcmp, wp_i2l, wp_l2i, wp_dupI, wp_dupA, wp_dup2J, wp_dup2IA, wp_popI, wp_popA, wp_pop2, wp_goto, wp_if_eq, wp_icmp_eq, wp_if_ne, wp_icmp_ne, wp_if_lt, wp_icmp_lt, wp_if_ge, wp_icmp_ge, wp_if_gt, wp_icmp_gt, wp_if_le, wp_icmp_le, wp_ifnull, wp_ifnonnull, wp_acmp_eq, wp_acmp_ne, wp_tableswitch, wp_get0, wp_put0, wp_get1, wp_put1, wp_get2, wp_put2, wp_get3, wp_put3, wp_new, wp_newarray, wp_anewarray, wp_alen, wp_iaload, wp_laload, wp_baload, wp_aaload, wp_iastore, wp_lastore, wp_bastore, wp_aastore, wp_return, wp_ireturnI, wp_ireturnZ, wp_lreturn, wp_areturnO, wp_areturnA, wp_max, wp_min, wp_obj, wp_virt, wp_nil, ld_I0, ld_Is, ld_J0, ld_Js, ld_A0, ld_As, ha_0, ha_s, cx_put1, cx_put2, cx_dl, cx_tgt, true_and, and_true, Nat.reduceAdd, Nat.reduceSub, Int.reduceAdd, Int.reduceNeg, Int.reduceToNat, Int.reduceSub, Int.cast_ofNat_Int, List.take_succ_cons, List.take_zero, List.drop_succ_cons, List.drop_zero, List.take_nil, List.drop_nil, Option.toList_some, Option.toList_none, List.cons_append, List.nil_append, wp_spec, ne_eq, Nat.reduceEqDiff, not_false_eq_true, true_or, or_true, gc, F1.a0, F1.s0, zpa, F1.pa_ u hu.1 hu.2, ra_105]
  refine ⟨by omega, ?_⟩
  refine cl_X5_isRegistered (Nat.le_of_ble_eq_true rfl) fu1.s0 (Nat.le_refl _) (Nat.le_refl _) (c_X5_isRegistered hY G fu1.s0 (fun z => ?_) (fun k eU => ?_))
  · have z0 : cq_I g (x + 11) u = 0 := by rw [← g11]; exact (F1.reg G hu).mp z
    refine bx_X10_faultAtTheDoor_57 hY (pf2_ok hY) ?_
    simp only [wp_iconst, wp_bipush, wp_sipush, wp_ldc, wp_ldc2_w, wp_lconst0, wp_lconst1, wp_aconst_null, wp_iload_0, wp_istore_0, wp_iload_1, wp_istore_1, wp_iload_2, wp_istore_2, wp_iload_3, wp_istore_3, wp_iload, wp_istore, wp_lload_0, wp_lstore_0, wp_lload_1, wp_lstore_1, wp_lload_2, wp_lstore_2, wp_lload_3, wp_lstore_3, wp_lload, wp_lstore, wp_aload_0, wp_astore_0, wp_aload_1, wp_astore_1, wp_aload_2, wp_astore_2, wp_aload_3, wp_astore_3, wp_aload, wp_astore, wp_iinc, wp_iadd, wp_isub, wp_imul, wp_iand, wp_ior, wp_ixor, wp_ishl, wp_ishr, wp_iushr, wp_irem, wp_ladd, wp_lsub, wp_lmul, wp_land, wp_lor, wp_lxor, wp_lshl, wp_lshr, wp_lushr, wp_lrem, wp_lcmp, wp_i2l, wp_l2i, wp_dupI, wp_dupA, wp_dup2J, wp_dup2IA, wp_popI, wp_popA, wp_pop2, wp_goto, wp_if_eq, wp_icmp_eq, wp_if_ne, wp_icmp_ne, wp_if_lt, wp_icmp_lt, wp_if_ge, wp_icmp_ge, wp_if_gt, wp_icmp_gt, wp_if_le, wp_icmp_le, wp_ifnull, wp_ifnonnull, wp_acmp_eq, wp_acmp_ne, wp_tableswitch, wp_get0, wp_put0, wp_get1, wp_put1, wp_get2, wp_put2, wp_get3, wp_put3, wp_new, wp_newarray, wp_anewarray, wp_alen, wp_iaload, wp_laload, wp_baload, wp_aaload, wp_iastore, wp_lastore, wp_bastore, wp_aastore, wp_return, wp_ireturnI, wp_ireturnZ, wp_lreturn, wp_areturnO, wp_areturnA, wp_max, wp_min, wp_obj, wp_virt, wp_nil, ld_I0, ld_Is, ld_J0, ld_Js, ld_A0, ld_As, ha_0, ha_s, cx_put1, cx_put2, cx_dl, cx_tgt, true_and, and_true, Nat.reduceAdd, Nat.reduceSub, Int.reduceAdd, Int.reduceNeg, Int.reduceToNat, Int.reduceSub, Int.cast_ofNat_Int, List.take_succ_cons, List.take_zero, List.drop_succ_cons, List.drop_zero, List.take_nil, List.drop_nil, Option.toList_some, Option.toList_none, List.cons_append, List.nil_append, wp_spec, ne_eq, Nat.reduceEqDiff, not_false_eq_true, true_or, or_true, Nat.left_eq_add, Nat.add_eq_left, Nat.add_left_cancel_iff, Nat.reduceEqDiff, Int.reduceEq, false_and, and_false, if_false, if_true, and_self, true_and, true_or, or_true, false_or, or_false]
    exact ⟨fun w => absurd trivial w, fun _ => fail 2 m (by decide) (by decide) G X (fun w => w.2.1 z0)⟩
  have z1 : cq_I g (x + 11) u ≠ 0 := fun z => by
    have := (F1.reg G hu).mpr (by rw [g11]; exact z)
    rw [eU] at this
    cases this
  refine bx_X10_faultAtTheDoor_57 hY (pf2_ok hY) ?_
  simp only [wp_iconst, wp_bipush, wp_sipush, wp_ldc, wp_ldc2_w, wp_lconst0, wp_lconst1, wp_aconst_null, wp_iload_0, wp_istore_0, wp_iload_1, wp_istore_1, wp_iload_2, wp_istore_2, wp_iload_3, wp_istore_3, wp_iload, wp_istore, wp_lload_0, wp_lstore_0, wp_lload_1, wp_lstore_1, wp_lload_2, wp_lstore_2, wp_lload_3, wp_lstore_3, wp_lload, wp_lstore, wp_aload_0, wp_astore_0, wp_aload_1, wp_astore_1, wp_aload_2, wp_astore_2, wp_aload_3, wp_astore_3, wp_aload, wp_astore, wp_iinc, wp_iadd, wp_isub, wp_imul, wp_iand, wp_ior, wp_ixor, wp_ishl, wp_ishr, wp_iushr, wp_irem, wp_ladd, wp_lsub, wp_lmul, wp_land, wp_lor, wp_lxor, wp_lshl, wp_lshr, wp_lushr, wp_lrem, wp_lcmp, wp_i2l, wp_l2i, wp_dupI, wp_dupA, wp_dup2J, wp_dup2IA, wp_popI, wp_popA, wp_pop2, wp_goto, wp_if_eq, wp_icmp_eq, wp_if_ne, wp_icmp_ne, wp_if_lt, wp_icmp_lt, wp_if_ge, wp_icmp_ge, wp_if_gt, wp_icmp_gt, wp_if_le, wp_icmp_le, wp_ifnull, wp_ifnonnull, wp_acmp_eq, wp_acmp_ne, wp_tableswitch, wp_get0, wp_put0, wp_get1, wp_put1, wp_get2, wp_put2, wp_get3, wp_put3, wp_new, wp_newarray, wp_anewarray, wp_alen, wp_iaload, wp_laload, wp_baload, wp_aaload, wp_iastore, wp_lastore, wp_bastore, wp_aastore, wp_return, wp_ireturnI, wp_ireturnZ, wp_lreturn, wp_areturnO, wp_areturnA, wp_max, wp_min, wp_obj, wp_virt, wp_nil, ld_I0, ld_Is, ld_J0, ld_Js, ld_A0, ld_As, ha_0, ha_s, cx_put1, cx_put2, cx_dl, cx_tgt, true_and, and_true, Nat.reduceAdd, Nat.reduceSub, Int.reduceAdd, Int.reduceNeg, Int.reduceToNat, Int.reduceSub, Int.cast_ofNat_Int, List.take_succ_cons, List.take_zero, List.drop_succ_cons, List.drop_zero, List.take_nil, List.drop_nil, Option.toList_some, Option.toList_none, List.cons_append, List.nil_append, wp_spec, ne_eq, Nat.reduceEqDiff, not_false_eq_true, true_or, or_true, Nat.left_eq_add, Nat.add_eq_left, Nat.add_left_cancel_iff, Nat.reduceEqDiff, Int.reduceEq, false_and, and_false, if_false, if_true, and_self, true_and, true_or, or_true, false_or, or_false]
  refine ⟨fun _ => ?_, fun w => absurd (by decide) w⟩
  have fin : ∀ (t : Int) (lv : cx_L), K (some (.inl t)) m → cw Y mi_X10_faultAtTheDoor K 78 lv [.inl t] m 0 0 := by
    intro t lv q
    refine bx_X10_faultAtTheDoor_78 hY (pf2_ok hY) ?_
    simp only [wp_iconst, wp_bipush, wp_sipush, wp_ldc, wp_ldc2_w, wp_lconst0, wp_lconst1, wp_aconst_null, wp_iload_0, wp_istore_0, wp_iload_1, wp_istore_1, wp_iload_2, wp_istore_2, wp_iload_3, wp_istore_3, wp_iload, wp_istore, wp_lload_0, wp_lstore_0, wp_lload_1, wp_lstore_1, wp_lload_2, wp_lstore_2, wp_lload_3, wp_lstore_3, wp_lload, wp_lstore, wp_aload_0, wp_astore_0, wp_aload_1, wp_astore_1, wp_aload_2, wp_astore_2, wp_aload_3, wp_astore_3, wp_aload, wp_astore, wp_iinc, wp_iadd, wp_isub, wp_imul, wp_iand, wp_ior, wp_ixor, wp_ishl, wp_ishr, wp_iushr, wp_irem, wp_ladd, wp_lsub, wp_lmul, wp_land, wp_lor, wp_lxor, wp_lshl, wp_lshr, wp_lushr, wp_lrem, wp_lcmp, wp_i2l, wp_l2i, wp_dupI, wp_dupA, wp_dup2J, wp_dup2IA, wp_popI, wp_popA, wp_pop2, wp_goto, wp_if_eq, wp_icmp_eq, wp_if_ne, wp_icmp_ne, wp_if_lt, wp_icmp_lt, wp_if_ge, wp_icmp_ge, wp_if_gt, wp_icmp_gt, wp_if_le, wp_icmp_le, wp_ifnull, wp_ifnonnull, wp_acmp_eq, wp_acmp_ne, wp_tableswitch, wp_get0, wp_put0, wp_get1, wp_put1, wp_get2, wp_put2, wp_get3, wp_put3, wp_new, wp_newarray, wp_anewarray, wp_alen, wp_iaload, wp_laload, wp_baload, wp_aaload, wp_iastore, wp_lastore, wp_bastore, wp_aastore, wp_return, wp_ireturnI, wp_ireturnZ, wp_lreturn, wp_areturnO, wp_areturnA, wp_max, wp_min, wp_obj, wp_virt, wp_nil, ld_I0, ld_Is, ld_J0, ld_Js, ld_A0, ld_As, ha_0, ha_s, cx_put1, cx_put2, cx_dl, cx_tgt, true_and, and_true, Nat.reduceAdd, Nat.reduceSub, Int.reduceAdd, Int.reduceNeg, Int.reduceToNat, Int.reduceSub, Int.cast_ofNat_Int, List.take_succ_cons, List.take_zero, List.drop_succ_cons, List.drop_zero, List.take_nil, List.drop_nil, Option.toList_some, Option.toList_none, List.cons_append, List.nil_append, wp_spec, ne_eq, Nat.reduceEqDiff, not_false_eq_true, true_or, or_true]
    exact q
  refine bx_X10_faultAtTheDoor_62 hY (pf2_ok hY) ?_
  simp only [wp_iconst, wp_bipush, wp_sipush, wp_ldc, wp_ldc2_w, wp_lconst0, wp_lconst1, wp_aconst_null, wp_iload_0, wp_istore_0, wp_iload_1, wp_istore_1, wp_iload_2, wp_istore_2, wp_iload_3, wp_istore_3, wp_iload, wp_istore, wp_lload_0, wp_lstore_0, wp_lload_1, wp_lstore_1, wp_lload_2, wp_lstore_2, wp_lload_3, wp_lstore_3, wp_lload, wp_lstore, wp_aload_0, wp_astore_0, wp_aload_1, wp_astore_1, wp_aload_2, wp_astore_2, wp_aload_3, wp_astore_3, wp_aload, wp_astore, wp_iinc, wp_iadd, wp_isub, wp_imul, wp_iand, wp_ior, wp_ixor, wp_ishl, wp_ishr, wp_iushr, wp_irem, wp_ladd, wp_lsub, wp_lmul, wp_land, wp_lor, wp_lxor, wp_lshl, wp_lshr, wp_lushr, wp_lrem, wp_lcmp, wp_i2l, wp_l2i, wp_dupI, wp_dupA, wp_dup2J, wp_dup2IA, wp_popI, wp_popA, wp_pop2, wp_goto, wp_if_eq, wp_icmp_eq, wp_if_ne, wp_icmp_ne, wp_if_lt, wp_icmp_lt, wp_if_ge, wp_icmp_ge, wp_if_gt, wp_icmp_gt, wp_if_le, wp_icmp_le, wp_ifnull, wp_ifnonnull, wp_acmp_eq, wp_acmp_ne, wp_tableswitch, wp_get0, wp_put0, wp_get1, wp_put1, wp_get2, wp_put2, wp_get3, wp_put3, wp_new, wp_newarray, wp_anewarray, wp_alen, wp_iaload, wp_laload, wp_baload, wp_aaload, wp_iastore, wp_lastore, wp_bastore, wp_aastore, wp_return, wp_ireturnI, wp_ireturnZ, wp_lreturn, wp_areturnO, wp_areturnA, wp_max, wp_min, wp_obj, wp_virt, wp_nil, ld_I0, ld_Is, ld_J0, ld_Js, ld_A0, ld_As, ha_0, ha_s, cx_put1, cx_put2, cx_dl, cx_tgt, true_and, and_true, Nat.reduceAdd, Nat.reduceSub, Int.reduceAdd, Int.reduceNeg, Int.reduceToNat, Int.reduceSub, Int.cast_ofNat_Int, List.take_succ_cons, List.take_zero, List.drop_succ_cons, List.drop_zero, List.take_nil, List.drop_nil, Option.toList_some, Option.toList_none, List.cons_append, List.nil_append, wp_spec, ne_eq, Nat.reduceEqDiff, not_false_eq_true, true_or, or_true, gc, oc]
  refine ⟨fun q => ?_, fun q => fin _ _ (fail _ m (by decide) (by decide) G X (fun w => by omega))⟩
  refine bx_X10_faultAtTheDoor_77 hY (pf2_ok hY) ?_
  simp only [wp_iconst, wp_bipush, wp_sipush, wp_ldc, wp_ldc2_w, wp_lconst0, wp_lconst1, wp_aconst_null, wp_iload_0, wp_istore_0, wp_iload_1, wp_istore_1, wp_iload_2, wp_istore_2, wp_iload_3, wp_istore_3, wp_iload, wp_istore, wp_lload_0, wp_lstore_0, wp_lload_1, wp_lstore_1, wp_lload_2, wp_lstore_2, wp_lload_3, wp_lstore_3, wp_lload, wp_lstore, wp_aload_0, wp_astore_0, wp_aload_1, wp_astore_1, wp_aload_2, wp_astore_2, wp_aload_3, wp_astore_3, wp_aload, wp_astore, wp_iinc, wp_iadd, wp_isub, wp_imul, wp_iand, wp_ior, wp_ixor, wp_ishl, wp_ishr, wp_iushr, wp_irem, wp_ladd, wp_lsub, wp_lmul, wp_land, wp_lor, wp_lxor, wp_lshl, wp_lshr, wp_lushr, wp_lrem, wp_lcmp, wp_i2l, wp_l2i, wp_dupI, wp_dupA, wp_dup2J, wp_dup2IA, wp_popI, wp_popA, wp_pop2, wp_goto, wp_if_eq, wp_icmp_eq, wp_if_ne, wp_icmp_ne, wp_if_lt, wp_icmp_lt, wp_if_ge, wp_icmp_ge, wp_if_gt, wp_icmp_gt, wp_if_le, wp_icmp_le, wp_ifnull, wp_ifnonnull, wp_acmp_eq, wp_acmp_ne, wp_tableswitch, wp_get0, wp_put0, wp_get1, wp_put1, wp_get2, wp_put2, wp_get3, wp_put3, wp_new, wp_newarray, wp_anewarray, wp_alen, wp_iaload, wp_laload, wp_baload, wp_aaload, wp_iastore, wp_lastore, wp_bastore, wp_aastore, wp_return, wp_ireturnI, wp_ireturnZ, wp_lreturn, wp_areturnO, wp_areturnA, wp_max, wp_min, wp_obj, wp_virt, wp_nil, ld_I0, ld_Is, ld_J0, ld_Js, ld_A0, ld_As, ha_0, ha_s, cx_put1, cx_put2, cx_dl, cx_tgt, true_and, and_true, Nat.reduceAdd, Nat.reduceSub, Int.reduceAdd, Int.reduceNeg, Int.reduceToNat, Int.reduceSub, Int.cast_ofNat_Int, List.take_succ_cons, List.take_zero, List.drop_succ_cons, List.drop_zero, List.take_nil, List.drop_nil, Option.toList_some, Option.toList_none, List.cons_append, List.nil_append, wp_spec, ne_eq, Nat.reduceEqDiff, not_false_eq_true, true_or, or_true]
  exact fin _ _ (hK rok z1 (by omega) m G F1 R1)
end
/-! the reference, exactly: what was read with the key of an opening -/
section
variable {x : Nat} {l s u : Int} {g : cx_Q}
theorem openQ_rd (k20 : 0 ≤ cq_I g (x + 53) s ∧ cq_I g (x + 53) s ≤ 20) (h81 : 0 ≤ cq_I g x 81) (ok : m_openA g x l s = 0) : RD x (m_oky g x s) g (m_openQ g x u s) := by
  have kr : m_keptAt g x s = -2 ∨ (0 ≤ m_keptAt g x s ∧ m_keptAt g x s < 0 + ((cq_I g (x + 53) s).toNat : Int)) := by unfold m_keptAt; exact m_ka_rg
  unfold m_openA at ok
  unfold m_oky m_openQ
  rcases kr with z | z
  · have zn : m_keptAt g x s < 0 := by omega
    rw [if_pos zn] at ok
    rw [if_pos zn, if_pos zn]
    clear z
    unfold m_oA at ok
    by_cases c1 : m_tn g x s = 0 ∧ cq_I g x 81 < cq_I g (x + 41) s
    · rw [if_pos c1] at ok; exact absurd ok (by decide)
    rw [if_neg c1] at ok
    by_cases c2 : 10 < m_bef g x s (m_tn g x s) + m_beh g x s (m_tn g x s) ∨ 20 < cq_I g (x + 53) s + m_bef g x s (m_tn g x s) + m_beh g x s (m_tn g x s)
    · rw [if_pos c2] at ok; exact absurd ok (by decide)
    clear ok
    rcases tn_01 (g := g) (x := x) (s := s) with t | t
    · rw [t] at c1 c2 ⊢
      have b0 : m_bef g x s 0 = 0 := by
        unfold m_bef
        rw [if_neg (fun q => absurd rfl q.1)]
      have b1 : m_beh g x s 0 = cq_I g x 81 - cq_I g (x + 41) s := by
        unfold m_beh
        rw [if_neg (fun q => absurd rfl q)]
      have eT : m_oT g x u s 0 = g := by
        unfold m_oT
        rw [if_neg (fun q => absurd rfl q)]
      rw [b0, b1] at c2
      rw [eT]
      exact (oEnd_q (u := u) ⟨k20.1, by omega, by omega⟩).2.1
    · rw [t] at c2 ⊢
      have b1 : m_beh g x s 1 = cq_I g x 81 := by
        unfold m_beh
        rw [if_pos (by decide)]
      have b0 : 0 ≤ m_bef g x s 1 := by
        unfold m_bef
        split <;> omega
      rw [b1] at c2
      generalize m_okey g x s 1 = kk
      exact (open3_q (u := u) (k := kk) ⟨k20.1, b0, h81, by omega⟩).2.1
  · have zn : ¬ m_keptAt g x s < 0 := by omega
    rw [if_neg zn, if_neg zn]
    exact (open1_q (u := u) (by omega) k20.2).2.1
end
/-! class and reference side by side: SESSIONS that the other began, beginnings that were seen -/
theorem ci_none {f : Int → Int} : ∀ {n : Nat} {k : Int}, (∀ j, k ≤ j → j < k + n → f j ≠ 0) → m_ci f n k = -2 := by
  intro n
  induction n with
  | zero =>
    intro k _
    exact m_ci_0
  | succ n ih =>
    intro k e
    rw [m_ci_s, if_neg (e k (Int.le_refl _) (by omega))]
    exact ih (fun j j0 j1 => e j (by omega) (by omega))
theorem ci_at {f : Int → Int} {m : Int} : ∀ {n : Nat} {k : Int}, k ≤ m → m < k + n → f m = 0 → (∀ j, k ≤ j → j < m → f j ≠ 0) → m_ci f n k = m := by
  intro n
  induction n with
  | zero =>
    intro k h1 h2
    omega
  | succ n ih =>
    intro k h1 h2 h3 h4
    rw [m_ci_s]
    by_cases w : k = m
    · rw [w, if_pos h3]
    · rw [if_neg (h4 k (Int.le_refl _) (by omega))]
      exact ih (by omega) (by omega) h3 (fun j j0 j1 => h4 j (by omega) j1)
section
variable {x r : Nat} {w : Int} {T : Int → Nat} {h g : cx_Q} {e : Int64}
theorem bg_iff (F : FO x r w T h g) {k : Int} (k0 : 0 ≤ k) (k1 : k < cq_I g (x + 30) w) : bgP h r e k ↔ m_cfB g x w e k = 0 := by
  have at_ := F.at_ k k0 k1
  have sr := F.ss k k0 k1
  have bg := sr.bg
  have be := sr.be
  unfold m_cfB
  generalize cq_I g (x + 29) (4 * w + k) = s at at_ sr bg be ⊢
  unfold bgP
  constructor
  · intro q
    have q2 := q (T s) at_
    rw [if_pos ⟨by rw [← bg]; exact q2.1, by rw [← be]; exact q2.2⟩]
  · intro q
    by_cases z : cq_I g (x + 44) s = 0 ∧ cq_J g (x + 45) s = e
    · intro a q1
      rw [at_] at q1
      have ea := Option.some.inj q1
      rw [← ea]
      exact ⟨by rw [bg]; exact z.1, by rw [be]; exact z.2⟩
    · rw [if_neg z] at q
      exact absurd q (by decide)
theorem bg_none (F : FO x r w T h g) (no : ∀ k, 0 ≤ k → k < cq_I h r 1 → ¬ bgP h r e k) : m_cfI g x w e = -2 := by
  have rm := F.rm
  have r4 := F.r4
  unfold m_cfI
  exact ci_none (fun j j0 j1 q => no j j0 (by omega) ((bg_iff F j0 (by omega)).mpr q))
theorem bg_at (F : FO x r w T h g) {m : Int} (m0 : 0 ≤ m) (m1 : m < cq_I h r 1) (q : bgP h r e m) (no : ∀ k, 0 ≤ k → k < m → ¬ bgP h r e k) : m_cfI g x w e = m := by
  have rm := F.rm
  have r4 := F.r4
  unfold m_cfI
  exact ci_at m0 (by omega) ((bg_iff F m0 (by omega)).mp q) (fun j j0 j1 z => no j j0 j1 ((bg_iff F j0 (by omega)).mpr z))
end
section
variable {x p : Nat} {u : Int} {h g : cx_Q} {e : Int64} {ln : Int}
theorem hs_iff (F : FU x p u h g) {k : Int} (k0 : 0 ≤ k) (k1 : k < cq_I g (x + 58) u) : hsP h (p + 4) (p + 5) e ln k ↔ m_cfF g x u ln e k = 0 := by
  have he := F.he k k0 k1
  unfold m_cfF hsP
  rw [he.1, he.2]
  constructor
  · intro q
    rw [if_pos ⟨q.2, q.1⟩]
  · intro q
    by_cases z : cq_I g (x + 59) (100 * u + k) = ln ∧ cq_J g (x + 60) (100 * u + k) = e
    · exact ⟨z.2, z.1⟩
    · rw [if_neg z] at q
      exact absurd q (by decide)
theorem hs_none (F : FU x p u h g) (no : ∀ k, 0 ≤ k → k < cq_I h p 16 → ¬ hsP h (p + 4) (p + 5) e ln k) : m_cfH g x u ln e = -2 := by
  have hd := F.hd
  have h1 := F.h100
  unfold m_cfH
  exact ci_none (fun j j0 j1 q => no j j0 (by omega) ((hs_iff F j0 (by omega)).mpr q))
theorem hs_some (F : FU x p u h g) (q : ∃ k, 0 ≤ k ∧ k < cq_I h p 16 ∧ hsP h (p + 4) (p + 5) e ln k) : m_cfH g x u ln e ≠ -2 := by
  obtain ⟨k, k0, k1, q⟩ := q
  have hd := F.hd
  have h1 := F.h100
  intro z
  unfold m_cfH at z
  have key : ∀ (n : Nat) (i : Int), m_ci (m_cfF g x u ln e) n i = -2 → i ≤ k → k < i + n → 0 ≤ i → False := by
    intro n
    induction n with
    | zero => intro i _ a b; omega
    | succ n ih =>
      intro i zz a b c
      rw [m_ci_s] at zz
      by_cases y : m_cfF g x u ln e i = 0
      · rw [if_pos y] at zz; omega
      · rw [if_neg y] at zz
        by_cases y2 : i = k
        · rw [y2] at y
          exact y ((hs_iff F k0 (by omega)).mp q)
        · exact ih (i + 1) zz (by omega) (by omega) (by omega)
  exact key _ 0 z k0 (by omega) (by omega)
end
/-! class and reference side by side: a beginning is remembered -/
section
variable {c x : Nat} {n : Int} {pe : Int → Nat} {ro : Int → Int → Nat} {pa lb tp rd en op ob : Nat} {T Lf : Int → Nat} {h g h' g' : cx_Q} {u ln : Int} {e : Int64}
/-- a beginning more -/
def sn (g : cx_Q) (x : Nat) (u ln : Int) (e : Int64) : cx_Q := cq_sI (cq_sJ (cq_sI g (x + 59) (100 * u + cq_I g (x + 58) u) ln) (x + 60) (100 * u + cq_I g (x + 58) u) e) (x + 58) u (cq_I g (x + 58) u + 1)
theorem fx_seen (F : FX c x n pe ro pa lb tp rd en op ob T Lf h g) (hu : 0 ≤ u ∧ u < n) (hl : cq_I g (x + 58) u < 100) (eh : h' = cq_sI (cq_sI (cq_sJ h (pe u + 4) (cq_I h (pe u) 16) e) (pe u + 5) (cq_I h (pe u) 16) ln) (pe u) 16 (cq_I h (pe u) 16 + 1)) : FX c x n pe ro pa lb tp rd en op ob T Lf h' (sn g x u ln e) := by
  have f := F.fu u hu.1 hu.2
  have hd := f.hd
  have h100 := f.h100
  have s0 := f.s0
  have n6 : cq_s h (pe u + 4) ≠ 6 := by rw [f.s4]; decide
  have ex : evx (ucl (pe u)) h h' := by
    rw [eh]
    refine evx.sI (P := ucl (pe u)) (evx.sI (P := ucl (pe u)) (evx.sJ (P := ucl (pe u)) evx.refl ?_ n6) ?_) ?_ <;> (unfold ucl; omega)
  have gI : ∀ o j, 1 ≤ o → ¬ (o = 59 ∧ j = 100 * u + cq_I g (x + 58) u) → ¬ (o = 58 ∧ j = u) → cq_I (sn g x u ln e) (x + o) j = cq_I g (x + o) j := fun o j w1 w2 w3 => by
    unfold sn
    rw [mm_sI, if_neg (fun q => w3 ⟨by omega, q.2⟩), mm_IJ, mm_sI, if_neg (fun q => w2 ⟨by omega, q.2⟩)]
  have gJ : ∀ o j, 1 ≤ o → ¬ (o = 60 ∧ j = 100 * u + cq_I g (x + 58) u) → cq_J (sn g x u ln e) (x + o) j = cq_J g (x + o) j := fun o j w1 w2 => by
    unfold sn
    rw [mm_JI, mm_sJ, if_neg (fun q => w2 ⟨by omega, q.2⟩), mm_JI]
  have g58 : cq_I (sn g x u ln e) (x + 58) u = cq_I g (x + 58) u + 1 := by
    unfold sn
    rw [mm_sI, if_pos ⟨rfl, rfl⟩]
  have g59 : cq_I (sn g x u ln e) (x + 59) (100 * u + cq_I g (x + 58) u) = ln := by
    unfold sn
    rw [mm_sI, if_neg (fun q => by omega), mm_IJ, mm_sI, if_pos ⟨rfl, rfl⟩]
  have g60 : cq_J (sn g x u ln e) (x + 60) (100 * u + cq_I g (x + 58) u) = e := by
    unfold sn
    rw [mm_JI, mm_sJ, if_pos ⟨rfl, rfl⟩]
  have gx : ∀ j, cq_I (sn g x u ln e) x j = cq_I g x j := fun j => by
    unfold sn
    rw [mm_sI, if_neg (fun q => by omega), mm_IJ, mm_sI, if_neg (fun q => by omega)]
  have hA : cq_A h' = cq_A h := by rw [eh]; exact Eq.trans rfl rfl
  have hs : cq_s h' = cq_s h := by rw [eh]; exact Eq.trans rfl rfl
  have hI : ∀ j, j ≠ 16 → cq_I h' (pe u) j = cq_I h (pe u) j := fun j w => by
    rw [eh, mm_sI, if_neg (fun q => w q.2), mm_sI, if_neg (fun q => by omega), mm_IJ]
  have h16 : cq_I h' (pe u) 16 = cq_I g (x + 58) u + 1 := by rw [eh, mm_sI, if_pos ⟨rfl, rfl⟩, hd]
  have oJ : ∀ d, d ≠ pe u + 4 → cq_J h' d = cq_J h d := fun d w => by
    funext k
    rw [eh, mm_JI, mm_JI, mm_sJ, if_neg (fun q => w q.1)]
  have i3 : cq_I h' (pe u + 3) = cq_I h (pe u + 3) := by
    funext k
    rw [eh, mm_sI, if_neg (fun q => by omega), mm_sI, if_neg (fun q => by omega), mm_IJ]
  have r4 : ∀ k, cq_J h' (pe u + 4) k = if k = cq_I g (x + 58) u then e else cq_J h (pe u + 4) k := fun k => by
    rw [eh, mm_JI, mm_JI, mm_sJ, hd]
    by_cases w : k = cq_I g (x + 58) u
    · rw [if_pos ⟨rfl, w⟩, if_pos w]
    · rw [if_neg (fun q => w q.2), if_neg w]
  have r5 : ∀ k, cq_I h' (pe u + 5) k = if k = cq_I g (x + 58) u then ln else cq_I h (pe u + 5) k := fun k => by
    rw [eh, mm_sI, if_neg (fun q => by omega), mm_sI, hd, mm_IJ]
    by_cases w : k = cq_I g (x + 58) u
    · rw [if_pos ⟨rfl, w⟩, if_pos w]
    · rw [if_neg (fun q => w q.2), if_neg w]
  clear eh
  have s4 := f.s4
  have d6 : ∀ d, cq_s h d = 6 → cq_J h' d = cq_J h d := fun d w => oJ d (fun z => by rw [z, s4] at w; exact absurd w (by decide))
  have Jp : cq_J h' (pe u) = cq_J h (pe u) := oJ _ (by omega)
  generalize sn g x u ln e = g1 at gI gJ g58 g59 g60 gx ⊢
  have iI : ∀ o, 1 ≤ o → o < 58 → ∀ j, cq_I g1 (x + o) j = cq_I g (x + o) j := fun o w1 w2 j => gI o j w1 (by omega) (by omega)
  have iJ : ∀ o, 1 ≤ o → o < 58 → ∀ j, cq_J g1 (x + o) j = cq_J g (x + o) j := fun o w1 w2 j => gJ o j w1 (by omega)
  refine F.upU hu ex (fun a w => w) (fun o j h1 h2 h3 w => ⟨gI o j h1 (fun q => w (by unfold inU; omega)) (fun q => w (by unfold inU; omega)), gJ o j h1 (fun q => w (by unfold inU; omega))⟩) (fun j _ => gx j) (by rw [hA]) ⟨by rw [hs]; exact f.s0, by rw [hs]; exact f.s1, by rw [hs]; exact f.s2, by rw [hs]; exact f.s3, by rw [hs]; exact f.s4, by rw [hs]; exact f.s5, by rw [hA]; exact f.a8, by rw [hA]; exact f.a9, by rw [hA]; exact f.a10, by rw [hA]; exact f.a14, by rw [hA]; exact f.a15, by rw [Jp, iJ 1 (by decide) (by decide)]; exact f.sd, by rw [hI 1 (by decide), iI 12 (by decide) (by decide)]; exact f.dr, by rw [iI 11 (by decide) (by decide), hA]; exact f.n0, fun q => ?_, by rw [iJ 21 (by decide) (by decide)]; exact f.sb, by rw [hI 4 (by decide), iI 16 (by decide) (by decide)]; exact f.ln, by rw [iI 16 (by decide) (by decide)]; exact f.l20, by rw [Jp, iJ 20 (by decide) (by decide)]; exact f.lo, by rw [Jp, iJ 21 (by decide) (by decide)]; exact f.so, by rw [Jp, iJ 22 (by decide) (by decide)]; exact f.sp, fun k k1 k2 => ?_, by rw [hI 11 (by decide), iI 23 (by decide) (by decide)]; exact f.on, by rw [iI 23 (by decide) (by decide)]; exact f.o60, fun k k1 k2 => ?_, fun k k1 k2 => ?_, fun k k1 => ?_, by rw [hI 12 (by decide), iI 23 (by decide) (by decide)]; exact f.ot, fun k k1 k2 => ?_, by rw [h16, g58], by rw [g58]; omega, fun k k1 k2 => ?_⟩
  · rw [iI 11 (by decide) (by decide)] at q
    obtain ⟨d, q1, q2, q3, q4, q5, q6, q7⟩ := f.n1 q
    exact ⟨d, by rw [hA]; exact q1, by rw [hs]; exact q2, by rw [d6 d q2, iJ 13 (by decide) (by decide)]; exact q3, by rw [d6 d q2, iJ 14 (by decide) (by decide)]; exact q4, by rw [iJ 13 (by decide) (by decide)]; exact q5, by rw [iJ 14 (by decide) (by decide)]; exact q6, by rw [iJ 14 (by decide) (by decide)]; exact q7⟩
  · rw [iI 16 (by decide) (by decide)] at k2
    obtain ⟨d, q1, q2, q3, q4⟩ := f.lk k k1 k2
    exact ⟨d, by rw [hA]; exact q1, by rw [hs]; exact q2, by rw [d6 d q2, iJ 17 (by decide) (by decide)]; exact q3, by rw [d6 d q2, iJ 18 (by decide) (by decide)]; exact q4⟩
  · rw [iI 23 (by decide) (by decide)] at k2
    obtain ⟨d, q1, q2, q3, q4⟩ := f.ok k k1 k2
    exact ⟨d, by rw [hA]; exact q1, by rw [hs]; exact q2, by rw [d6 d q2, iJ 24 (by decide) (by decide)]; exact q3, by rw [d6 d q2, iJ 25 (by decide) (by decide)]; exact q4⟩
  · rw [iI 23 (by decide) (by decide)] at k2
    rw [i3, iI 28 (by decide) (by decide)]
    exact f.ou k k1 k2
  · rw [iI 23 (by decide) (by decide)] at k1
    rw [i3]
    exact f.oz k k1
  · rw [iI 23 (by decide) (by decide)] at k2
    rw [hI 12 (by decide), iI 27 (by decide) (by decide)]
    exact f.od k k1 k2
  · rw [g58] at k2
    rw [r4, r5]
    by_cases w : k = cq_I g (x + 58) u
    · rw [if_pos w, if_pos w, w, g59, g60]
      exact ⟨rfl, rfl⟩
    · rw [if_neg w, if_neg w, gI 59 _ (by decide) (by omega) (by omega), gJ 60 _ (by decide) (by omega)]
      exact f.he k k1 (by omega)
end
/-! class and reference side by side: a ONCE key is used -/
section
variable {c x : Nat} {n : Int} {pe : Int → Nat} {ro : Int → Int → Nat} {pa lb tp rd en op ob : Nat} {T Lf : Int → Nat} {h g h' g' : cx_Q} {u m : Int}
theorem fx_used (F : FX c x n pe ro pa lb tp rd en op ob T Lf h g) (hu : 0 ≤ u ∧ u < n) (hm : 1 ≤ m ∧ m ≤ cq_I g (x + 23) u) (eh : h' = cq_sI h (pe u + 3) m 1) : FX c x n pe ro pa lb tp rd en op ob T Lf h' (cq_sI g (x + 28) (61 * u + m) 0) := by
  have f := F.fu u hu.1 hu.2
  have o60 := f.o60
  have ex : evx (ucl (pe u)) h h' := by
    rw [eh]
    refine evx.sI (P := ucl (pe u)) evx.refl ?_
    unfold ucl
    omega
  have gI : ∀ o j, ¬ (o = 28 ∧ j = 61 * u + m) → cq_I (cq_sI g (x + 28) (61 * u + m) 0) (x + o) j = cq_I g (x + o) j := fun o j w => by rw [mm_sI, if_neg (fun q => w ⟨by omega, q.2⟩)]
  have gx : ∀ j, cq_I (cq_sI g (x + 28) (61 * u + m) 0) x j = cq_I g x j := fun j => by rw [mm_sI, if_neg (fun q => by omega)]
  have g28 : cq_I (cq_sI g (x + 28) (61 * u + m) 0) (x + 28) (61 * u + m) = 0 := by rw [mm_sI, if_pos ⟨rfl, rfl⟩]
  have gJ : cq_J (cq_sI g (x + 28) (61 * u + m) 0) = cq_J g := Eq.trans rfl rfl
  have hA : cq_A h' = cq_A h := by rw [eh]; exact Eq.trans rfl rfl
  have hs : cq_s h' = cq_s h := by rw [eh]; exact Eq.trans rfl rfl
  have hJ : cq_J h' = cq_J h := by rw [eh]; exact Eq.trans rfl rfl
  have oI : ∀ d, d ≠ pe u + 3 → cq_I h' d = cq_I h d := fun d w => by
    funext k
    rw [eh, mm_sI, if_neg (fun q => w q.1)]
  have r3 : ∀ k, cq_I h' (pe u + 3) k = if k = m then 1 else cq_I h (pe u + 3) k := fun k => by
    rw [eh, mm_sI]
    by_cases w : k = m
    · rw [if_pos ⟨rfl, w⟩, if_pos w]
    · rw [if_neg (fun q => w q.2), if_neg w]
  clear eh
  have hp := oI (pe u) (by omega)
  have h5 := oI (pe u + 5) (by omega)
  generalize cq_sI g (x + 28) (61 * u + m) 0 = g1 at gI gx g28 gJ ⊢
  have iI : ∀ o, o ≠ 28 → ∀ j, cq_I g1 (x + o) j = cq_I g (x + o) j := fun o w j => gI o j (fun q => w q.1)
  refine F.upU hu ex (fun a w => w) (fun o j h1 h2 h3 w => ⟨gI o j (fun q => w (by unfold inU; omega)), by rw [gJ]⟩) (fun j _ => gx j) (by rw [hA]) ⟨by rw [hs]; exact f.s0, by rw [hs]; exact f.s1, by rw [hs]; exact f.s2, by rw [hs]; exact f.s3, by rw [hs]; exact f.s4, by rw [hs]; exact f.s5, by rw [hA]; exact f.a8, by rw [hA]; exact f.a9, by rw [hA]; exact f.a10, by rw [hA]; exact f.a14, by rw [hA]; exact f.a15, by rw [hJ, gJ]; exact f.sd, by rw [hp, iI 12 (by decide)]; exact f.dr, by rw [iI 11 (by decide), hA]; exact f.n0, by rw [iI 11 (by decide), hA, hs, hJ, gJ]; exact f.n1, by rw [gJ]; exact f.sb, by rw [hp, iI 16 (by decide)]; exact f.ln, by rw [iI 16 (by decide)]; exact f.l20, by rw [hJ, gJ]; exact f.lo, by rw [hJ, gJ]; exact f.so, by rw [hJ, gJ]; exact f.sp, by rw [iI 16 (by decide), hA, hs, hJ, gJ]; exact f.lk, by rw [hp, iI 23 (by decide)]; exact f.on, by rw [iI 23 (by decide)]; exact f.o60, by rw [iI 23 (by decide), hA, hs, hJ, gJ]; exact f.ok, fun k k1 k2 => ?_, fun k k1 => ?_, by rw [hp, iI 23 (by decide)]; exact f.ot, fun k k1 k2 => ?_, by rw [hp, iI 58 (by decide)]; exact f.hd, by rw [iI 58 (by decide)]; exact f.h100, fun k k1 k2 => ?_⟩
  · rw [iI 23 (by decide)] at k2
    rw [r3]
    by_cases w : k = m
    · rw [if_pos w, w, g28]
      exact ⟨fun q => absurd q (by decide), fun q => absurd rfl q⟩
    · rw [if_neg w, gI 28 _ (fun q => w (by omega))]
      exact f.ou k k1 k2
  · rw [iI 23 (by decide)] at k1
    rw [r3, if_neg (by omega)]
    exact f.oz k k1
  · rw [iI 23 (by decide)] at k2
    rw [hp, iI 27 (by decide)]
    exact f.od k k1 k2
  · rw [iI 58 (by decide)] at k2
    rw [hJ, h5, gJ, iI 59 (by decide)]
    exact f.he k k1 k2
end
/-! the reference, exactly: the memory in which the first letter of a SESSION is opened -/
def GQ (x : Nat) (u w s ln : Int) (e root : Int64) (g g' : cx_Q) : Prop := (∀ j, cq_I g' x j = cq_I g x j) ∧ (∀ j, cq_J g' x j = cq_J g x j) ∧ (∀ o j, 1 ≤ o → ¬ (o = 30 ∧ j = w) → ¬ (o = 29 ∧ 4 * w ≤ j ∧ j < 4 * w + 4) → ¬ (((31 ≤ o ∧ o ≤ 47) ∨ o = 53) ∧ j = s) → cq_I g' (x + o) j = cq_I g (x + o) j) ∧ (∀ o j, 1 ≤ o → ¬ ((31 ≤ o ∧ o ≤ 47) ∧ j = s) → cq_J g' (x + o) j = cq_J g (x + o) j) ∧ (NQ x w s g g') ∧ (cq_I g' (x + 35) s = 0) ∧ (cq_I g' (x + 39) s = 0) ∧ (cq_I g' (x + 40) s = 0) ∧ (cq_I g' (x + 41) s = 0) ∧ (cq_I g' (x + 44) s = 0) ∧ (cq_I g' (x + 53) s = 0) ∧ (cq_J g' (x + 31) s = root) ∧ (cq_J g' (x + 36) s = cq_J g (x + 17) (21 * u + ln)) ∧ (cq_J g' (x + 37) s = cq_J g (x + 18) (21 * u + ln)) ∧ (cq_J g' (x + 38) s = Int64.ofInt 0) ∧ (cq_J g' (x + 45) s = e)
theorem GQ.x_ {x : Nat} {u w s ln : Int} {e root : Int64} {g g' : cx_Q} (F_ : GQ x u w s ln e root g g') : ∀ j, cq_I g' x j = cq_I g x j := F_.1
theorem GQ.xJ {x : Nat} {u w s ln : Int} {e root : Int64} {g g' : cx_Q} (F_ : GQ x u w s ln e root g g') : ∀ j, cq_J g' x j = cq_J g x j := F_.2.1
theorem GQ.I_ {x : Nat} {u w s ln : Int} {e root : Int64} {g g' : cx_Q} (F_ : GQ x u w s ln e root g g') : ∀ o j, 1 ≤ o → ¬ (o = 30 ∧ j = w) → ¬ (o = 29 ∧ 4 * w ≤ j ∧ j < 4 * w + 4) → ¬ (((31 ≤ o ∧ o ≤ 47) ∨ o = 53) ∧ j = s) → cq_I g' (x + o) j = cq_I g (x + o) j := F_.2.2.1
theorem GQ.J_ {x : Nat} {u w s ln : Int} {e root : Int64} {g g' : cx_Q} (F_ : GQ x u w s ln e root g g') : ∀ o j, 1 ≤ o → ¬ ((31 ≤ o ∧ o ≤ 47) ∧ j = s) → cq_J g' (x + o) j = cq_J g (x + o) j := F_.2.2.2.1
theorem GQ.nq {x : Nat} {u w s ln : Int} {e root : Int64} {g g' : cx_Q} (F_ : GQ x u w s ln e root g g') : NQ x w s g g' := F_.2.2.2.2.1
theorem GQ.i35 {x : Nat} {u w s ln : Int} {e root : Int64} {g g' : cx_Q} (F_ : GQ x u w s ln e root g g') : cq_I g' (x + 35) s = 0 := F_.2.2.2.2.2.1
theorem GQ.i39 {x : Nat} {u w s ln : Int} {e root : Int64} {g g' : cx_Q} (F_ : GQ x u w s ln e root g g') : cq_I g' (x + 39) s = 0 := F_.2.2.2.2.2.2.1
theorem GQ.i40 {x : Nat} {u w s ln : Int} {e root : Int64} {g g' : cx_Q} (F_ : GQ x u w s ln e root g g') : cq_I g' (x + 40) s = 0 := F_.2.2.2.2.2.2.2.1
theorem GQ.i41 {x : Nat} {u w s ln : Int} {e root : Int64} {g g' : cx_Q} (F_ : GQ x u w s ln e root g g') : cq_I g' (x + 41) s = 0 := F_.2.2.2.2.2.2.2.2.1
theorem GQ.i44 {x : Nat} {u w s ln : Int} {e root : Int64} {g g' : cx_Q} (F_ : GQ x u w s ln e root g g') : cq_I g' (x + 44) s = 0 := F_.2.2.2.2.2.2.2.2.2.1
theorem GQ.i53 {x : Nat} {u w s ln : Int} {e root : Int64} {g g' : cx_Q} (F_ : GQ x u w s ln e root g g') : cq_I g' (x + 53) s = 0 := F_.2.2.2.2.2.2.2.2.2.2.1
theorem GQ.j31 {x : Nat} {u w s ln : Int} {e root : Int64} {g g' : cx_Q} (F_ : GQ x u w s ln e root g g') : cq_J g' (x + 31) s = root := F_.2.2.2.2.2.2.2.2.2.2.2.1
theorem GQ.j36 {x : Nat} {u w s ln : Int} {e root : Int64} {g g' : cx_Q} (F_ : GQ x u w s ln e root g g') : cq_J g' (x + 36) s = cq_J g (x + 17) (21 * u + ln) := F_.2.2.2.2.2.2.2.2.2.2.2.2.1
theorem GQ.j37 {x : Nat} {u w s ln : Int} {e root : Int64} {g g' : cx_Q} (F_ : GQ x u w s ln e root g g') : cq_J g' (x + 37) s = cq_J g (x + 18) (21 * u + ln) := F_.2.2.2.2.2.2.2.2.2.2.2.2.2.1
theorem GQ.j38 {x : Nat} {u w s ln : Int} {e root : Int64} {g g' : cx_Q} (F_ : GQ x u w s ln e root g g') : cq_J g' (x + 38) s = Int64.ofInt 0 := F_.2.2.2.2.2.2.2.2.2.2.2.2.2.2.1
theorem GQ.j45 {x : Nat} {u w s ln : Int} {e root : Int64} {g g' : cx_Q} (F_ : GQ x u w s ln e root g g') : cq_J g' (x + 45) s = e := F_.2.2.2.2.2.2.2.2.2.2.2.2.2.2.2
section
variable {x : Nat} {g G : cx_Q} {u w s ln on l : Int} {e root : Int64}
theorem cfG_q (h4 : 0 ≤ cq_I g (x + 30) w ∧ cq_I g (x + 30) w ≤ 4) : GQ x u w (m_slotN g x w) ln e root g (m_cfG g x u w ln on e root) := by
  obtain ⟨q1, q2, q3⟩ := newS_q (x := x) (g := g) (w := w) h4
  unfold m_cfG
  generalize m_newS g x w = m at q1 q2 q3 ⊢
  generalize m_slotN g x w = s at q1 ⊢
  have mx : ∀ j, cq_I m x j = cq_I g x j := fun j => q2 _ _ (by omega) (by omega)
  refine ⟨fun j => ?_, fun j => ?_, fun o j ho w2 w3 w4 => ?_, fun o j ho w5 => ?_, ⟨?_, fun i i0 i1 => ?_⟩, ?_, ?_, ?_, ?_, ?_, ?_, ?_, ?_, ?_, ?_, ?_⟩
  · unfold m_cfS m_clear
    simp only [mm_sI, mm_sJ, mm_sA, mm_IJ, mm_IA, mm_JI, mm_JA, mm_AI, mm_AJ, mm_ssI, mm_ssJ, mm_ssA, mm_zI, mm_zJ, mm_zA, mm_nI, mm_nJ, mm_nA, Nat.left_eq_add, Nat.add_eq_left, Nat.add_left_cancel_iff, Nat.reduceEqDiff, Int.reduceEq, false_and, and_false, if_false, if_true, and_self, true_and, true_or, or_true, false_or, or_false]
    exact mx j
  · unfold m_cfS m_clear
    simp only [mm_sI, mm_sJ, mm_sA, mm_IJ, mm_IA, mm_JI, mm_JA, mm_AI, mm_AJ, mm_ssI, mm_ssJ, mm_ssA, mm_zI, mm_zJ, mm_zA, mm_nI, mm_nJ, mm_nA, Nat.left_eq_add, Nat.add_eq_left, Nat.add_left_cancel_iff, Nat.reduceEqDiff, Int.reduceEq, false_and, and_false, if_false, if_true, and_self, true_and, true_or, or_true, false_or, or_false]
    rw [q3]
  · have e : ∀ o', (31 ≤ o' ∧ o' ≤ 47) ∨ o' = 53 → ¬ (o = o' ∧ j = s) := fun o' z y => w4 ⟨by omega, y.2⟩
    unfold m_cfS m_clear
    simp only [mm_sI, mm_sJ, mm_sA, mm_IJ, mm_IA, mm_JI, mm_JA, mm_AI, mm_AJ, mm_ssI, mm_ssJ, mm_ssA, mm_zI, mm_zJ, mm_zA, mm_nI, mm_nJ, mm_nA, Nat.left_eq_add, Nat.add_eq_left, Nat.add_left_cancel_iff, Nat.reduceEqDiff, Int.reduceEq, false_and, and_false, if_false, if_true, and_self, true_and, true_or, or_true, false_or, or_false, e 33 (by omega), e 35 (by omega), e 39 (by omega), e 40 (by omega), e 41 (by omega), e 42 (by omega), e 44 (by omega), e 46 (by omega), e 47 (by omega), e 53 (by omega)]
    exact q2 _ _ (fun z => w2 ⟨by omega, z.2⟩) (fun z => w3 ⟨by omega, z.2⟩)
  · have e : ∀ o', (31 ≤ o' ∧ o' ≤ 47) → ¬ (o = o' ∧ j = s) := fun o' z y => w5 ⟨by omega, y.2⟩
    have o0 : ¬ o = 0 := by omega
    unfold m_cfS m_clear
    simp only [mm_sI, mm_sJ, mm_sA, mm_IJ, mm_IA, mm_JI, mm_JA, mm_AI, mm_AJ, mm_ssI, mm_ssJ, mm_ssA, mm_zI, mm_zJ, mm_zA, mm_nI, mm_nJ, mm_nA, Nat.left_eq_add, Nat.add_eq_left, Nat.add_left_cancel_iff, Nat.reduceEqDiff, Int.reduceEq, false_and, and_false, if_false, if_true, and_self, true_and, true_or, or_true, false_or, or_false, o0, e 31 (by omega), e 36 (by omega), e 37 (by omega), e 38 (by omega), e 45 (by omega)]
    rw [q3]
  · unfold m_cfS m_clear
    simp only [mm_sI, mm_sJ, mm_sA, mm_IJ, mm_IA, mm_JI, mm_JA, mm_AI, mm_AJ, mm_ssI, mm_ssJ, mm_ssA, mm_zI, mm_zJ, mm_zA, mm_nI, mm_nJ, mm_nA, Nat.left_eq_add, Nat.add_eq_left, Nat.add_left_cancel_iff, Nat.reduceEqDiff, Int.reduceEq, false_and, and_false, if_false, if_true, and_self, true_and, true_or, or_true, false_or, or_false]
    exact q1.r30
  · unfold m_cfS m_clear
    simp only [mm_sI, mm_sJ, mm_sA, mm_IJ, mm_IA, mm_JI, mm_JA, mm_AI, mm_AJ, mm_ssI, mm_ssJ, mm_ssA, mm_zI, mm_zJ, mm_zA, mm_nI, mm_nJ, mm_nA, Nat.left_eq_add, Nat.add_eq_left, Nat.add_left_cancel_iff, Nat.reduceEqDiff, Int.reduceEq, false_and, and_false, if_false, if_true, and_self, true_and, true_or, or_true, false_or, or_false]
    exact q1.r29 i i0 i1
  all_goals unfold m_cfS m_clear
  all_goals simp only [mm_sI, mm_sJ, mm_sA, mm_IJ, mm_IA, mm_JI, mm_JA, mm_AI, mm_AJ, mm_ssI, mm_ssJ, mm_ssA, mm_zI, mm_zJ, mm_zA, mm_nI, mm_nJ, mm_nA, Nat.left_eq_add, Nat.add_eq_left, Nat.add_left_cancel_iff, Nat.reduceEqDiff, Int.reduceEq, false_and, and_false, if_false, if_true, and_self, true_and, true_or, or_true, false_or, or_false]
  all_goals rw [q3]
theorem ER.gq {en b : Nat} {h : cx_Q} (R : ER x en b l h g) (Q : GQ x u w s ln e root g G) : ER x en b l h G := by
  have e62 : cq_I G (x + 62) = cq_I g (x + 62) := funext fun j => Q.I_ 62 j (by decide) (by omega) (by omega) (by omega)
  have eb : ∀ p m, m_bytes G x p m = m_bytes g x p m := fun p m => by
    unfold m_bytes
    rw [e62, Q.x_]
  exact ⟨R.s0, R.sb, R.eb, by rw [Q.x_]; exact R.zb, by rw [Q.x_, e62]; exact R.bb, by rw [Q.x_]; exact R.i77, by rw [e62]; exact R.bg, by rw [e62]; exact R.fr, by rw [e62]; exact R.tt, by rw [e62, eb, eb, eb, eb]; exact R.nb, by rw [Q.xJ]; exact R.op, by rw [Q.x_]; exact R.pn, by rw [Q.x_]; exact R.pl, by rw [Q.x_]; exact R.tl, by rw [Q.x_]; exact R.ta, by rw [Q.x_, Q.x_, Q.x_]; exact R.tz, by rw [Q.x_]; exact R.t1, by rw [e62, Q.x_]; exact R.sm, by rw [eb, Q.x_]; exact R.tg⟩
theorem cfG_v (Q : GQ x u w s ln e root g G) : m_keptAt G x s = -2 ∧ m_tn G x s = 1 ∧ m_bef G x s 1 = 0 ∧ m_beh G x s 1 = cq_I g x 81 ∧ m_com G x s 1 = f_common (cq_J g (x + 17) (21 * u + ln)) (cq_J g x 79) ∧ m_ch0 G x s 1 = m_cfC g x u ln root ∧ m_okey G x s 1 = m_cfK g x u ln root := by
  have ek : m_keptAt G x s = -2 := by
    unfold m_keptAt
    rw [Q.i53]
    rfl
  have et : m_tn G x s = 1 := by
    unfold m_tn
    rw [if_pos (Or.inl Q.i39)]
  have eb : m_bef G x s 1 = 0 := by
    unfold m_bef
    rw [if_neg (fun z => z.2.1 Q.i35)]
  have eh : m_beh G x s 1 = cq_I g x 81 := by
    unfold m_beh
    rw [if_pos (by decide), Q.x_]
  have ec : m_com G x s 1 = f_common (cq_J g (x + 17) (21 * u + ln)) (cq_J g x 79) := by
    unfold m_com
    rw [if_pos (by decide), Q.j36, Q.xJ]
  have e0 : m_ch0 G x s 1 = m_cfC g x u ln root := by
    unfold m_ch0 m_cfC
    rw [if_pos (by decide), ec, Q.j31]
  refine ⟨ek, et, eb, eh, ec, e0, ?_⟩
  unfold m_okey m_cfK
  rw [eh, e0]
theorem cfG_A (Q : GQ x u w s ln e root g G) : m_openA G x l s = if 10 < cq_I g x 81 then 5 else m_tg g x l (m_cfK g x u ln root) := by
  obtain ⟨ek, et, eb, eh, _, _, ey⟩ := cfG_v Q
  have e62 : cq_I G (x + 62) = cq_I g (x + 62) := funext fun j => Q.I_ 62 j (by decide) (by omega) (by omega) (by omega)
  have eg : m_tg G x l (m_cfK g x u ln root) = m_tg g x l (m_cfK g x u ln root) := by
    unfold m_tg m_bytes
    rw [e62, Q.x_, Q.x_]
  unfold m_openA
  rw [ek, if_pos (by decide), et]
  unfold m_oA
  rw [if_neg (fun z => absurd z.1 (by decide)), eb, eh, Q.i53, ey, eg]
  by_cases c1 : 10 < cq_I g x 81
  · rw [if_pos c1, if_pos (by omega)]
  · rw [if_neg c1, if_neg (by omega), if_neg (fun z => absurd z.1 (by decide))]
theorem cfG_Q (Q : GQ x u w s ln e root g G) (h81 : 0 ≤ cq_I g x 81 ∧ cq_I g x 81 ≤ 10) : FRM x s u 1 G (m_openQ G x u s) ∧ RD x (m_cfK g x u ln root) g (m_openQ G x u s) ∧ OK3 x s 0 (cq_I g x 81) (cq_J g x 79) (m_cfC g x u ln root) (f_key 1 root (f_common (cq_J g (x + 17) (21 * u + ln)) (cq_J g x 79))) (f_common (dV (cq_J g (x + 1) u) (cq_I g (x + 12) u)) (cq_J g x 79)) (dV (cq_J g (x + 1) u) (cq_I g (x + 12) u)) (dO (cq_J g (x + 1) u) (cq_I g (x + 12) u)) G (m_openQ G x u s) := by
  obtain ⟨ek, et, eb, eh, ec, e0, ey⟩ := cfG_v Q
  have e62 : ∀ j, cq_I G (x + 62) j = cq_I g (x + 62) j := fun j => Q.I_ 62 j (by decide) (by omega) (by omega) (by omega)
  have eq_ : m_openQ G x u s = m_oEnd (m_oT G x u s 1) x s (m_cfK g x u ln root) := by
    unfold m_openQ
    rw [ek, if_pos (by decide), et, ey]
  have c1 : cq_J G (x + 1) u = cq_J g (x + 1) u := Q.J_ 1 u (by decide) (by omega)
  have c12 : cq_I G (x + 12) u = cq_I g (x + 12) u := Q.I_ 12 u (by decide) (by omega) (by omega) (by omega)
  have i53 := Q.i53
  have x81 := Q.x_ 81
  have e2 : f_key 2 root (f_common (cq_J g (x + 17) (21 * u + ln)) (cq_J g x 79)) = m_cfC g x u ln root := by
    unfold m_cfC
    rfl
  obtain ⟨A, B, C⟩ := open3_q (x := x) (s := s) (u := u) (g := G) (k := m_cfK g x u ln root) (by rw [i53, eb, x81]; omega)
  rw [eb, ec, x81, Q.xJ, Q.j31, c1, c12, e2] at C
  rw [← eq_] at A B C
  generalize m_openQ G x u s = gq at A B C ⊢
  exact ⟨A, ⟨fun j w => by rw [B.x_ j w, Q.x_], by rw [B.x75, Q.x_], fun i i0 i1 => by rw [B.r_ i i0 (by rw [Q.x_]; exact i1), Q.x_, Q.x_, e62]⟩, C⟩
theorem bk_sI {m : cx_Q} {a : Nat} {j v : Int} (h1 : a ≠ x + 65) (h2 : ¬ (a = x ∧ j = 75)) : bk x g (cq_sI m a j v) = cq_sI (bk x g m) a j v := by
  unfold bk
  refine qext rfl rfl rfl (fun q r => ?_) (fun q r => rfl) (fun q r => rfl)
  rw [mm_sI, rr_I, rr_I]
  by_cases z : q = x + 65
  · rw [if_pos z, if_pos z, if_neg (fun y => h1 (y.1.symm.trans z))]
  · rw [if_neg z, if_neg z, mm_sI, mm_sI, mm_sI]
    by_cases y : q = x ∧ r = 75
    · rw [if_pos y, if_pos y, if_neg (fun y2 => h2 ⟨y2.1.symm.trans y.1, y2.2.symm.trans y.2⟩)]
    · rw [if_neg y, if_neg y]
theorem bk_sJ {m : cx_Q} {a : Nat} {j : Int} {v : Int64} : bk x g (cq_sJ m a j v) = cq_sJ (bk x g m) a j v := by
  unfold bk
  exact qext rfl rfl rfl (fun q r => rfl) (fun q r => rfl) (fun q r => rfl)
theorem sI_idm {m : cx_Q} {a : Nat} {j v : Int} (e : cq_I m a j = v) : cq_sI m a j v = m := by
  refine qext rfl rfl rfl (fun q r => ?_) (fun q r => rfl) (fun q r => rfl)
  rw [mm_sI]
  by_cases y : q = a ∧ r = j
  · rw [if_pos y, y.1, y.2, e]
  · rw [if_neg y]
theorem sI_cm {m : cx_Q} {a b : Nat} {j k v w : Int} (ne : a ≠ b) : cq_sI (cq_sI m a j v) b k w = cq_sI (cq_sI m b k w) a j v := by
  refine qext rfl rfl rfl (fun q r => ?_) (fun q r => rfl) (fun q r => rfl)
  rw [mm_sI, mm_sI, mm_sI, mm_sI]
  by_cases y : q = b ∧ r = k
  · rw [if_pos y, if_neg (fun z => ne (z.1.symm.trans y.1)), if_pos y]
  · rw [if_neg y, if_neg y]
theorem sI_cJ {m : cx_Q} {a b : Nat} {j k v : Int} {w : Int64} : cq_sJ (cq_sI m a j v) b k w = cq_sI (cq_sJ m b k w) a j v := qext rfl rfl rfl (fun q r => rfl) (fun q r => rfl) (fun q r => rfl)
/-- the first letter is noted: the reference's order and the class's -/
theorem cfD_bk {gq : cx_Q} (i43 : cq_I gq (x + 43) s = 0) (x85 : cq_I gq x 85 = cq_I g x 85) : cq_sI (sn (if on = 0 then bk x g gq else cq_sI (bk x g gq) (x + 28) (61 * u + on) 0) x u ln e) x 85 (cq_I g x 85 + 1) = bk x g (m_cfD gq x u s ln on e) := by
  have e58 : cq_I (bk x g gq) (x + 58) u = cq_I gq (x + 58) u := by
    unfold bk
    rw [rr_I, if_neg (by omega), mm_sI, if_neg (by omega)]
  have eN : bk x g (m_cfN gq x u s ln e) = cq_sI (sn (bk x g gq) x u ln e) x 85 (cq_I g x 85 + 1) := by
    unfold m_cfN sn
    rw [e58, x85, sI_idm i43]
    generalize cq_I gq (x + 58) u = k
    generalize cq_I g x 85 + 1 = k2
    rw [bk_sI (by omega) (by omega), bk_sI (by omega) (by omega), bk_sJ, bk_sI (by omega) (by omega)]
  by_cases w : on = 0
  · rw [if_pos w]
    unfold m_cfD
    rw [if_pos w, eN]
  · rw [if_neg w]
    unfold m_cfD
    rw [if_neg w, bk_sI (by omega) (by omega), eN]
    have e58' : cq_I (cq_sI (bk x g gq) (x + 28) (61 * u + on) 0) (x + 58) u = cq_I (bk x g gq) (x + 58) u := by rw [mm_sI, if_neg (by omega)]
    unfold sn
    rw [e58']
    generalize cq_I (bk x g gq) (x + 58) u = k
    generalize cq_I g x 85 + 1 = k2
    generalize bk x g gq = m
    rw [sI_cm (a := x + 28) (b := x + 59) (by omega), sI_cJ, sI_cm (a := x + 28) (b := x + 58) (by omega), sI_cm (a := x + 28) (b := x) (by omega)]
end
/-! class and reference side by side: a SESSION in no row; it goes into its row -/
section
variable {c x : Nat} {n : Int} {pe : Int → Nat} {ro : Int → Int → Nat} {pa lb tp rd en op ob : Nat} {T Lf : Int → Nat} {h g h' g' m : cx_Q} {P : Nat → Prop}
/-- the cells of a SESSION, by their sorts -/
def sc5 (h : cx_Q) (a : Nat) : Prop := cq_s h a = 7 ∧ cq_s h (a + 1) = 1 ∧ cq_s h (a + 2) = 171 ∧ cq_s h (a + 3) = 172 ∧ cq_s h (a + 4) = 173
theorem sc5.cl {p a : Nat} (F : sc5 h p) (q : scl p a) : cq_s h a = 7 ∨ cq_s h a = 1 ∨ cq_s h a = 171 ∨ cq_s h a = 172 ∨ cq_s h a = 173 := by
  obtain ⟨f0, f1, f2, f3, f4⟩ := F
  rcases q with rfl | rfl | rfl | rfl | rfl
  · exact Or.inl f0
  · exact Or.inr (Or.inl f1)
  · exact Or.inr (Or.inr (Or.inl f2))
  · exact Or.inr (Or.inr (Or.inr (Or.inl f3)))
  · exact Or.inr (Or.inr (Or.inr (Or.inr f4)))
theorem SR.ne5 {p q a : Nat} {s : Int} (F : SR x p s h g) (G : sc5 h q) (ne : p ≠ q) (h1 : scl p a) (h2 : scl q a) : False := by
  have f0 := F.s0
  have f1 := F.s1
  have f2 := F.s2
  have f3 := F.s3
  have f4 := F.s4
  obtain ⟨g0, g1, g2, g3, g4⟩ := G
  rcases h1 with e | e | e | e | e <;> rcases h2 with e' | e' | e' | e' | e' <;> first | omega | (rw [← e, e'] at f0; omega) | (rw [← e, e'] at f1; omega) | (rw [← e, e'] at f2; omega) | (rw [← e, e'] at f3; omega) | (rw [← e, e'] at f4; omega)
theorem FX.loose (F : FX c x n pe ro pa lb tp rd en op ob T Lf h g) {a : Nat} (S : sc5 h a) (fr : ∀ u' v' i, 0 ≤ u' → u' < n → 0 ≤ v' → v' < n → 0 ≤ i → i < cq_I g (x + 30) (6 * u' + v') → T (cq_I g (x + 29) (4 * (6 * u' + v') + i)) ≠ a) (e : evx (scl a) h h') : FX c x n pe ro pa lb tp rd en op ob T Lf h' g := by
  have nP : ∀ {d k : Nat}, cq_s h d = k → (k ≠ 7 ∧ k ≠ 1 ∧ k ≠ 171 ∧ k ≠ 172 ∧ k ≠ 173) → ¬ scl a d := by
    intro d k q w hp
    have := S.cl hp
    omega
  have eA := e.A F.fs.s0 rfl (nP F.fs.s0 (by decide))
  refine ⟨F.fs.ex e (nP F.fs.s0 (by decide)) (nP F.fs.s1 (by decide)) (nP F.fs.s2 (by decide)) (fun _ _ => rfl) (fun _ => rfl) (fun _ => rfl), F.n26, F.nn, by rw [eA]; exact F.a0, e.s F.s0 (by decide), by rw [eA]; exact F.a1, e.s F.s1 (by decide), by rw [eA]; exact F.a12, e.s F.s12 (by decide), by rw [eA]; exact F.a13, e.s F.s13 (by decide), by rw [e.A F.s13 rfl (nP F.s13 (by decide))]; exact F.aob, e.s F.sob (by decide), fun u u0 u1 => ?_, fun u u0 u1 => ?_, fun u v u0 u1 v0 v1 => ?_, fun u u0 u1 => ?_, fun u v u0 u1 v0 v1 => ?_, F.l80, fun l l0 l1 => ?_, F.li, F.pi, F.ri, F.ti⟩
  · rw [e.A F.s0 rfl (nP F.s0 (by decide))]
    exact F.pa_ u u0 u1
  · have f := F.fu u u0 u1
    have r := F.r13 u u0 u1
    rw [e.A f.s0 rfl (nP f.s0 (by decide))]
    exact ⟨r.1, e.s r.2 (by decide)⟩
  · have r := F.r13 u u0 u1
    rw [e.A r.2 rfl (nP r.2 (by decide))]
    exact F.ra u v u0 u1 v0 v1
  · have f := F.fu u u0 u1
    exact f.ex e (nP f.s0 (by decide)) (nP f.s1 (by decide)) (nP f.s2 (by decide)) (nP f.s3 (by decide)) (nP f.s4 (by decide)) (nP f.s5 (by decide)) (fun _ _ _ => ⟨rfl, rfl⟩)
  · have fo := F.fo u v u0 u1 v0 v1
    refine fo.ex e (nP fo.s0 (by decide)) (nP fo.s1 (by decide)) (fun j => rfl) rfl (fun i i0 i1 => ?_)
    have sr := fo.ss i i0 i1
    have ne := fr u v i u0 u1 v0 v1 i0 i1
    have q : ∀ d, scl (T (cq_I g (x + 29) (4 * (6 * u + v) + i))) d → ¬ scl a d := fun d w z => sr.ne5 S ne w z
    exact sr.ex e (q _ (Or.inl rfl)) (q _ (Or.inr (Or.inl rfl))) (q _ (Or.inr (Or.inr (Or.inl rfl)))) (q _ (Or.inr (Or.inr (Or.inr (Or.inl rfl))))) (q _ (Or.inr (Or.inr (Or.inr (Or.inr rfl))))) (fun _ _ _ => ⟨rfl, rfl⟩)
  · obtain ⟨f1, f2⟩ := F.fl l l0 l1
    rw [e.A F.s1 rfl (nP F.s1 (by decide))]
    exact ⟨f1, f2.ex e (nP f2.s0 (by decide)) (nP f2.s1 (by decide)) rfl (fun _ _ _ => rfl)⟩
/-- a SESSION goes into its row -/
theorem fx_put {u v s : Int} {a : Nat} (F : FX c x n pe ro pa lb tp rd en op ob T Lf m g) (hu : 0 ≤ u ∧ u < n) (hv : 0 ≤ v ∧ v < n) (hs : s = m_slotN g x (6 * u + v)) (Q : NQ x (6 * u + v) s g g') (S : SR x a s m g') (eg : ∀ o j, 1 ≤ o → o ≤ 65 → o ∉ tL → ¬ (o = 30 ∧ j = 6 * u + v) → ¬ (o = 29 ∧ 4 * (6 * u + v) ≤ j ∧ j < 4 * (6 * u + v) + 4) → ¬ inS s o j → cq_I g' (x + o) j = cq_I g (x + o) j ∧ cq_J g' (x + o) j = cq_J g (x + o) j) (gx : ∀ j, cq_I g' x j = cq_I g x j) (fr : ∀ u' v' i, 0 ≤ u' → u' < n → 0 ≤ v' → v' < n → 0 ≤ i → i < cq_I g (x + 30) (6 * u' + v') → T (cq_I g (x + 29) (4 * (6 * u' + v') + i)) ≠ a) (e : h' = rwF m (ro u v) a) : FX c x n pe ro pa lb tp rd en op ob (fun q => if q = s then a else T q) Lf h' g' := by
  have fo := F.fo u v hu.1 hu.2 hv.1 hv.2
  obtain ⟨q1, q2, q3⟩ := slot_q fo.r4 fo.sl
  rw [← hs] at q1 q2 q3
  have ex : evx (fun d => d = ro u v ∨ d = ro u v + 1) m h' := by
    rw [e]
    unfold rwF
    exact (evx.refl.sI (Or.inl rfl)).rA (Or.inr rfl)
  have eI1 : cq_I h' (ro u v) 1 = rw1 (cq_I m (ro u v) 1) := by
    rw [e]
    unfold rwF
    rw [rr_IA, mm_sI, if_pos ⟨rfl, rfl⟩]
  have eA1 : ∀ i, cq_A h' (ro u v + 1) i = shU (cq_A m (ro u v + 1)) (rw1 (cq_I m (ro u v) 1) - 1) (some a) i := fun i => by
    rw [e]
    unfold rwF
    rw [rr_A, if_pos rfl]
  have np : ∀ {d q : Nat}, cq_s m d = q → q ≠ 5 → q ≠ 182 → ¬ (d = ro u v ∨ d = ro u v + 1) := fun {d q} w w1 w2 z => z.elim (ns w fo.s0 w1) (ns w fo.s1 w2)
  have SRn : SR x a s h' g' := S.ex ex (np S.s0 (by decide) (by decide)) (np S.s1 (by decide) (by decide)) (np S.s2 (by decide) (by decide)) (np S.s3 (by decide) (by decide)) (np S.s4 (by decide) (by decide)) (fun _ _ _ => ⟨rfl, rfl⟩)
  have old : ∀ i, 0 ≤ i → i < cq_I g (x + 30) (6 * u + v) → cq_I g (x + 29) (4 * (6 * u + v) + i) ≠ s → SR x (T (cq_I g (x + 29) (4 * (6 * u + v) + i))) (cq_I g (x + 29) (4 * (6 * u + v) + i)) h' g' := by
    intro i i0 i1 ne
    have f := fo.ss i i0 i1
    refine f.ex ex (np f.s0 (by decide) (by decide)) (np f.s1 (by decide) (by decide)) (np f.s2 (by decide) (by decide)) (np f.s3 (by decide) (by decide)) (np f.s4 (by decide) (by decide)) (fun o j z => ?_)
    obtain ⟨o1, o2, o3⟩ := inS_r z
    refine eg o j o1 o2 o3 ?_ ?_ ?_ <;> (try unfold inS at z) <;> (try unfold inS) <;> omega
  obtain ⟨FO', cs⟩ := fo_new fo Q hs (fun d w => (ex.1 d w).1) eI1 eA1 SRn old
  refine F.upO hu hv ex (fun o j h1 h2 h3 w => ?_) (fun d w => w.elim Or.inl (fun z => Or.inr (Or.inl z))) (fun j _ => gx j) (fun q w => if_neg (fun z => w (by omega))) FO' (fun i j i0 i1 j0 j1 ne => ?_) (fun i u' v' j i0 i1 a1 a2 a3 a4 ne j0 j1 => ?_)
  · refine eg o j h1 h2 h3 ?_ ?_ ?_ <;> (intro z; apply w; unfold inO; (try unfold inS at z); omega)
  · rcases cs i i0 i1 with ⟨e1, e2⟩ | ⟨e1, e2, e3, e4⟩
    · rcases cs j j0 j1 with ⟨d1, d2⟩ | ⟨d1, d2, d3, d4⟩
      · omega
      · rw [e2, d2, if_pos rfl, if_neg d3]
        exact (fr u v (j - 1) hu.1 hu.2 hv.1 hv.2 (by omega) d4).symm
    · rcases cs j j0 j1 with ⟨d1, d2⟩ | ⟨d1, d2, d3, d4⟩
      · rw [e2, d2, if_pos rfl, if_neg e3]
        exact fr u v (i - 1) hu.1 hu.2 hv.1 hv.2 (by omega) e4
      · rw [e2, d2, if_neg e3, if_neg d3]
        exact F.ti u v u v (i - 1) (j - 1) hu.1 hu.2 hv.1 hv.2 hu.1 hu.2 hv.1 hv.2 (by omega) e4 (by omega) d4 (fun z => ne (by omega))
  · rcases cs i i0 i1 with ⟨e1, e2⟩ | ⟨e1, e2, e3, e4⟩
    · rw [e2, if_pos rfl]
      exact (fr u' v' j a1 a2 a3 a4 j0 j1).symm
    · rw [e2, if_neg e3]
      exact F.ti u v u' v' (i - 1) j hu.1 hu.2 hv.1 hv.2 a1 a2 a3 a4 (by omega) e4 j0 j1 (fun z => ne ⟨z.1.symm, z.2.1.symm⟩)
/-- a SESSION more was made -/
theorem fx_made (F : FX c x n pe ro pa lb tp rd en op ob T Lf h g) (e85 : cq_I g' x 85 = cq_I g x 85 + 1) (ex : ∀ j, j ≠ 85 → cq_I g' x j = cq_I g x j) (eI : ∀ o j, 1 ≤ o → o ≤ 65 → o ∉ tL → cq_I g' (x + o) j = cq_I g (x + o) j) (eJ : ∀ o j, 1 ≤ o → o ≤ 65 → o ∉ tL → cq_J g' (x + o) j = cq_J g (x + o) j) (e : h' = cq_sI h c 5 (cq_I h c 5 + 1)) : FX c x n pe ro pa lb tp rd en op ob T Lf h' g' := by
  have fs := F.fs
  have exx : evx (fun a => a = c) h h' := by rw [e]; exact evx.sI (P := fun a => a = c) evx.refl rfl
  have cI : ∀ j, j ≠ 5 → cq_I h' c j = cq_I h c j := fun j w => by rw [e, mm_sI, if_neg (fun z => w z.2)]
  have c4 : cq_I h' c 5 = cq_I h c 5 + 1 := by rw [e, mm_sI, if_pos ⟨rfl, rfl⟩]
  have eA : cq_A h' = cq_A h := by rw [e]; rfl
  refine F.upS exx (fun o _ => False) (fun o j h1 h2 h3 _ => ⟨eI o j h1 h2 h3, eJ o j h1 h2 h3⟩) (fun a w => by rw [w, fs.s0]; rfl) (fun o j w => w.elim) (by rw [eA]) (by rw [eA]) (ex 0 (by decide)) (ex 72 (by decide)) ?_
  refine ⟨exx.s fs.s0 (by decide), exx.s fs.s1 (by decide), exx.s fs.s2 (by decide), by rw [eA]; exact fs.a8, by rw [eA]; exact fs.a10, by rw [cI 2 (by decide), ex 72 (by decide)]; exact fs.lc, by rw [cI 3 (by decide), ex 73 (by decide)]; exact fs.cc, by rw [cI 4 (by decide), ex 63 (by decide)]; exact fs.bc, by rw [c4, e85, fs.mc], by rw [cI 6 (by decide), ex 84 (by decide)]; exact fs.oc, by rw [cI 7 (by decide), ex 86 (by decide)]; exact fs.kc, by rw [cI 9 (by decide), ex 68 (by decide)]; exact fs.tc, by rw [cI 11 (by decide), ex 75 (by decide)]; exact fs.rc, fun k k0 k1 => ?_, fun k k0 k1 => ?_, fun k k0 k1 => by rw [ex 68 (by decide)] at k1; rw [eI 61 k (by decide) (by decide) (by decide)]; exact fs.tb k k0 k1⟩
  · rw [ex 68 (by decide)] at k1
    rw [exx.I fs.s1 rfl (ns fs.s1 fs.s0 (by decide)), eI 61 k (by decide) (by decide) (by decide)]
    exact fs.tp_ k k0 k1
  · rw [ex 75 (by decide)] at k1
    rw [exx.I fs.s2 rfl (ns fs.s2 fs.s0 (by decide)), eI 65 k (by decide) (by decide) (by decide)]
    exact fs.rd_ k k0 k1
end
/-! a SESSION in no row, behind a TURN: what is other -/
section
variable {c x : Nat} {h g h' : cx_Q} {P : Nat → Prop}
theorem tu_ex {a p t q q2 : Nat} {z0 n0 i17 i16 z1 n1 k17 d i0' : Int} {o13 eo R1 R2 eo2 v6 X2 : Int64} {o : Option Nat} {r1 r2 : Int → Int64} (S : sc5 h a) (e : ev (tsW (coD (coR (kpW (trW (kpW (cq_sI h a 5 0) (a + 1) (a + 2) (a + 3) (a + 4) z0 n0 o13 i17 r1) a q i16 eo R1 o) (a + 1) (a + 2) (a + 3) (a + 4) z1 n1 eo2 i0' r2) a v6 k17) p t d) a t q2 R2 X2) h') : evx (scl a) (coD h p t d) h' := by
  have es' : cq_s (tsW (coD (coR (kpW (trW (kpW (cq_sI h a 5 0) (a + 1) (a + 2) (a + 3) (a + 4) z0 n0 o13 i17 r1) a q i16 eo R1 o) (a + 1) (a + 2) (a + 3) (a + 4) z1 n1 eo2 i0' r2) a v6 k17) p t d) a t q2 R2 X2) = cq_s h := by
    rw [tsW_s, coD_s, coR_s, kpW_qs, trW_s, kpW_qs]
    exact Eq.trans rfl rfl
  have ez : cq_z (tsW (coD (coR (kpW (trW (kpW (cq_sI h a 5 0) (a + 1) (a + 2) (a + 3) (a + 4) z0 n0 o13 i17 r1) a q i16 eo R1 o) (a + 1) (a + 2) (a + 3) (a + 4) z1 n1 eo2 i0' r2) a v6 k17) p t d) a t q2 R2 X2) = cq_z h := by
    rw [tsW_z, coD_z, coR_z, kpW_z, trW_z, kpW_z]
    exact Eq.trans rfl rfl
  have oI : ∀ b, ¬ scl a b → cq_I (tsW (coD (coR (kpW (trW (kpW (cq_sI h a 5 0) (a + 1) (a + 2) (a + 3) (a + 4) z0 n0 o13 i17 r1) a q i16 eo R1 o) (a + 1) (a + 2) (a + 3) (a + 4) z1 n1 eo2 i0' r2) a v6 k17) p t d) a t q2 R2 X2) b = cq_I (coD h p t d) b ∧ cq_A (tsW (coD (coR (kpW (trW (kpW (cq_sI h a 5 0) (a + 1) (a + 2) (a + 3) (a + 4) z0 n0 o13 i17 r1) a q i16 eo R1 o) (a + 1) (a + 2) (a + 3) (a + 4) z1 n1 eo2 i0' r2) a v6 k17) p t d) a t q2 R2 X2) b = cq_A (coD h p t d) b ∧ cq_J (tsW (coD (coR (kpW (trW (kpW (cq_sI h a 5 0) (a + 1) (a + 2) (a + 3) (a + 4) z0 n0 o13 i17 r1) a q i16 eo R1 o) (a + 1) (a + 2) (a + 3) (a + 4) z1 n1 eo2 i0' r2) a v6 k17) p t d) a t q2 R2 X2) b = cq_J (coD h p t d) b := by
    intro b w
    have w0 : b ≠ a := fun z => w (Or.inl z)
    have w1 : b ≠ a + 1 := fun z => w (Or.inr (Or.inl z))
    have w2 : b ≠ a + 2 := fun z => w (Or.inr (Or.inr (Or.inl z)))
    have w3 : b ≠ a + 3 := fun z => w (Or.inr (Or.inr (Or.inr (Or.inl z))))
    have w4 : b ≠ a + 4 := fun z => w (Or.inr (Or.inr (Or.inr (Or.inr z))))
    have e5 : cq_I (cq_sI h a 5 0) b = cq_I h b := by
      funext j
      rw [mm_sI, if_neg (fun z => w0 z.1)]
    rw [(tsW_o w0).1, (tsW_o w0).2.1, (tsW_o w0).2.2]
    have cc := coD_c (p := p) (t := t) (i := d) (d := b) (m := coR (kpW (trW (kpW (cq_sI h a 5 0) (a + 1) (a + 2) (a + 3) (a + 4) z0 n0 o13 i17 r1) a q i16 eo R1 o) (a + 1) (a + 2) (a + 3) (a + 4) z1 n1 eo2 i0' r2) a v6 k17) (m' := h) (by rw [(coR_o w0).1, kpW_I w1 w3, (trW_o w0).1, kpW_I w1 w3, e5]) (by rw [coR_A, kpW_qA, (trW_o w0).2.2, kpW_qA]; exact Eq.trans rfl rfl)
    refine ⟨cc.1, cc.2, ?_⟩
    rw [coD_J, coD_J, (coR_o w0).2, kpW_J w2 w4, (trW_o w0).2.1, kpW_J w2 w4]
    exact Eq.trans rfl rfl
  generalize tsW (coD (coR (kpW (trW (kpW (cq_sI h a 5 0) (a + 1) (a + 2) (a + 3) (a + 4) z0 n0 o13 i17 r1) a q i16 eo R1 o) (a + 1) (a + 2) (a + 3) (a + 4) z1 n1 eo2 i0' r2) a v6 k17) p t d) a t q2 R2 X2 = M at e es' ez oI
  have cs : cq_s (coD h p t d) = cq_s h := coD_s
  have cz : cq_z (coD h p t d) = cq_z h := coD_z
  refine evx.trans (h1 := M) ⟨fun b _ => ⟨by rw [es', cs], by rw [ez, cz]⟩, fun b w => ?_, fun b w z => ⟨(oI b z).2.2, fun _ => (oI b z).1, fun _ => (oI b z).2.1⟩⟩ e.x
  refine (oI b (fun z => ?_)).2.2
  have := S.cl z
  rw [cs] at w
  omega
/-- the envelope and the key at hand -/
def EK (x en b op : Nat) (l : Int) (k : Int64) (g h : cx_Q) : Prop := ER x en b l h g ∧ cq_J h op 7 = k ∧ cq_s h op = 3
theorem EK.st {en b op : Nat} {l : Int} {k : Int64} (R : EK x en b op l k g h) (e : evx P h h') (hP : ∀ a, P a → cq_s h a ≠ 0 ∧ cq_s h a ≠ 100 ∧ cq_s h a ≠ 3) : EK x en b op l k g h' := by
  obtain ⟨R, k7, so⟩ := R
  exact ⟨R.ex e (fun z => (hP _ z).1 R.s0) (fun z => (hP _ z).2.1 R.sb), by rw [e.J so (by decide) (fun z => (hP _ z).2.2 so)]; exact k7, e.s so (by decide)⟩
end
section
variable {Y : cx_Y} {K : Option cx_V → cx_Q → Prop} {c : Nat} {n L Z : Int} {E : Nat → Option Int} {h0 : cx_Q} {h : cx_Q}
theorem e_X10_commonWith (hY : cY Y) {o : Option Nat} {v w : Int64} (ho : ∀ b, o = some b → cq_s h b = 6) (hw : ∀ b, o = some b → f_common (cq_J h b 0) v = w) (h0 : o = none → w = Int64.ofInt 0) (hK : K (some (.inr (.inl w))) h) : cw Y mi_X10_commonWith K 0 [some (.inr (.inr o)), some (.inr (.inl v)), none] [] h 0 0 := by
  have j16 : ∀ u, u = w → cw Y mi_X10_commonWith K 16 [some (.inr (.inr o)), some (.inr (.inl v)), none] [.inr (.inl u)] h 0 0 := by
    intro u q
    refine bx_X10_commonWith_16 hY (pf2_ok hY) ?_
    simp only [wp_iconst, wp_bipush, wp_sipush, wp_ldc, wp_ldc2_w, wp_lconst0, wp_lconst1, wp_aconst_null, wp_iload_0, wp_istore_0, wp_iload_1, wp_istore_1, wp_iload_2, wp_istore_2, wp_iload_3, wp_istore_3, wp_iload, wp_istore, wp_lload_0, wp_lstore_0, wp_lload_1, wp_lstore_1, wp_lload_2, wp_lstore_2, wp_lload_3, wp_lstore_3, wp_lload, wp_lstore, wp_aload_0, wp_astore_0, wp_aload_1, wp_astore_1, wp_aload_2, wp_astore_2, wp_aload_3, wp_astore_3, wp_aload, wp_astore, wp_iinc, wp_iadd, wp_isub, wp_imul, wp_iand, wp_ior, wp_ixor, wp_ishl, wp_ishr, wp_iushr, wp_irem, wp_ladd, wp_lsub, wp_lmul, wp_land, wp_lor, wp_lxor, wp_lshl, wp_lshr, wp_lushr, wp_lrem, wp_lcmp, wp_i2l, wp_l2i, wp_dupI, wp_dupA, wp_dup2J, wp_dup2IA, wp_popI, wp_popA, wp_pop2, wp_goto, wp_if_eq, wp_icmp_eq, wp_if_ne, wp_icmp_ne, wp_if_lt, wp_icmp_lt, wp_if_ge, wp_icmp_ge, wp_if_gt, wp_icmp_gt, wp_if_le, wp_icmp_le, wp_ifnull, wp_ifnonnull, wp_acmp_eq, wp_acmp_ne, wp_tableswitch, wp_get0, wp_put0, wp_get1, wp_put1, wp_get2, wp_put2, wp_get3, wp_put3, wp_new, wp_newarray, wp_anewarray, wp_alen, wp_iaload, wp_laload, wp_baload, wp_aaload, wp_iastore, wp_lastore, wp_bastore, wp_aastore, wp_return, wp_ireturnI, wp_ireturnZ, wp_lreturn, wp_areturnO, wp_areturnA, wp_max, wp_min, wp_obj, wp_virt, wp_nil, ld_I0, ld_Is, ld_J0, ld_Js, ld_A0, ld_As, ha_0, ha_s, cx_put1, cx_put2, cx_dl, cx_tgt, true_and, and_true, Nat.reduceAdd, Nat.reduceSub, Int.reduceAdd, Int.reduceNeg, Int.reduceToNat, Int.reduceSub, Int.cast_ofNat_Int, List.take_succ_cons, List.take_zero, List.drop_succ_cons, List.drop_zero, List.take_nil, List.drop_nil, Option.toList_some, Option.toList_none, List.cons_append, List.nil_append, wp_spec, ne_eq, Nat.reduceEqDiff, not_false_eq_true, true_or, or_true]
    rw [q]
    exact hK
  cases o with
  | none =>
    refine bx_X10_commonWith_0 hY (pf2_ok hY) ?_
    simp only [wp_iconst, wp_bipush, wp_sipush, wp_ldc, wp_ldc2_w, wp_lconst0, wp_lconst1, wp_aconst_null, wp_iload_0, wp_istore_0, wp_iload_1, wp_istore_1, wp_iload_2, wp_istore_2, wp_iload_3, wp_istore_3, wp_iload, wp_istore, wp_lload_0, wp_lstore_0, wp_lload_1, wp_lstore_1, wp_lload_2, wp_lstore_2, wp_lload_3, wp_lstore_3, wp_lload, wp_lstore, wp_aload_0, wp_astore_0, wp_aload_1, wp_astore_1, wp_aload_2, wp_astore_2, wp_aload_3, wp_astore_3, wp_aload, wp_astore, wp_iinc, wp_iadd, wp_isub, wp_imul, wp_iand, wp_ior, wp_ixor, wp_ishl, wp_ishr, wp_iushr, wp_irem, wp_ladd, wp_lsub, wp_lmul, wp_land, wp_lor, wp_lxor, wp_lshl, wp_lshr, wp_lushr, wp_lrem, wp_lcmp, wp_i2l, wp_l2i, wp_dupI, wp_dupA, wp_dup2J, wp_dup2IA, wp_popI, wp_popA, wp_pop2, wp_goto, wp_if_eq, wp_icmp_eq, wp_if_ne, wp_icmp_ne, wp_if_lt, wp_icmp_lt, wp_if_ge, wp_icmp_ge, wp_if_gt, wp_icmp_gt, wp_if_le, wp_icmp_le, wp_ifnull, wp_ifnonnull, wp_acmp_eq, wp_acmp_ne, wp_tableswitch, wp_get0, wp_put0, wp_get1, wp_put1, wp_get2, wp_put2, wp_get3, wp_put3, wp_new, wp_newarray, wp_anewarray, wp_alen, wp_iaload, wp_laload, wp_baload, wp_aaload, wp_iastore, wp_lastore, wp_bastore, wp_aastore, wp_return, wp_ireturnI, wp_ireturnZ, wp_lreturn, wp_areturnO, wp_areturnA, wp_max, wp_min, wp_obj, wp_virt, wp_nil, ld_I0, ld_Is, ld_J0, ld_Js, ld_A0, ld_As, ha_0, ha_s, cx_put1, cx_put2, cx_dl, cx_tgt, true_and, and_true, Nat.reduceAdd, Nat.reduceSub, Int.reduceAdd, Int.reduceNeg, Int.reduceToNat, Int.reduceSub, Int.cast_ofNat_Int, List.take_succ_cons, List.take_zero, List.drop_succ_cons, List.drop_zero, List.take_nil, List.drop_nil, Option.toList_some, Option.toList_none, List.cons_append, List.nil_append, wp_spec, ne_eq, Nat.reduceEqDiff, not_false_eq_true, true_or, or_true]
    exact ⟨fun i q => (nomatch q), fun _ => j16 _ (h0 rfl).symm⟩
  | some b =>
    have sb := ho b rfl
    refine bx_X10_commonWith_0 hY (pf2_ok hY) ?_
    simp only [wp_iconst, wp_bipush, wp_sipush, wp_ldc, wp_ldc2_w, wp_lconst0, wp_lconst1, wp_aconst_null, wp_iload_0, wp_istore_0, wp_iload_1, wp_istore_1, wp_iload_2, wp_istore_2, wp_iload_3, wp_istore_3, wp_iload, wp_istore, wp_lload_0, wp_lstore_0, wp_lload_1, wp_lstore_1, wp_lload_2, wp_lstore_2, wp_lload_3, wp_lstore_3, wp_lload, wp_lstore, wp_aload_0, wp_astore_0, wp_aload_1, wp_astore_1, wp_aload_2, wp_astore_2, wp_aload_3, wp_astore_3, wp_aload, wp_astore, wp_iinc, wp_iadd, wp_isub, wp_imul, wp_iand, wp_ior, wp_ixor, wp_ishl, wp_ishr, wp_iushr, wp_irem, wp_ladd, wp_lsub, wp_lmul, wp_land, wp_lor, wp_lxor, wp_lshl, wp_lshr, wp_lushr, wp_lrem, wp_lcmp, wp_i2l, wp_l2i, wp_dupI, wp_dupA, wp_dup2J, wp_dup2IA, wp_popI, wp_popA, wp_pop2, wp_goto, wp_if_eq, wp_icmp_eq, wp_if_ne, wp_icmp_ne, wp_if_lt, wp_icmp_lt, wp_if_ge, wp_icmp_ge, wp_if_gt, wp_icmp_gt, wp_if_le, wp_icmp_le, wp_ifnull, wp_ifnonnull, wp_acmp_eq, wp_acmp_ne, wp_tableswitch, wp_get0, wp_put0, wp_get1, wp_put1, wp_get2, wp_put2, wp_get3, wp_put3, wp_new, wp_newarray, wp_anewarray, wp_alen, wp_iaload, wp_laload, wp_baload, wp_aaload, wp_iastore, wp_lastore, wp_bastore, wp_aastore, wp_return, wp_ireturnI, wp_ireturnZ, wp_lreturn, wp_areturnO, wp_areturnA, wp_max, wp_min, wp_obj, wp_virt, wp_nil, ld_I0, ld_Is, ld_J0, ld_Js, ld_A0, ld_As, ha_0, ha_s, cx_put1, cx_put2, cx_dl, cx_tgt, true_and, and_true, Nat.reduceAdd, Nat.reduceSub, Int.reduceAdd, Int.reduceNeg, Int.reduceToNat, Int.reduceSub, Int.cast_ofNat_Int, List.take_succ_cons, List.take_zero, List.drop_succ_cons, List.drop_zero, List.take_nil, List.drop_nil, Option.toList_some, Option.toList_none, List.cons_append, List.nil_append, wp_spec, ne_eq, Nat.reduceEqDiff, not_false_eq_true, true_or, or_true]
    refine ⟨fun i q => ?_, fun q => (nomatch q)⟩
    refine bx_X10_commonWith_8 hY (pf2_ok hY) ?_
    simp only [wp_iconst, wp_bipush, wp_sipush, wp_ldc, wp_ldc2_w, wp_lconst0, wp_lconst1, wp_aconst_null, wp_iload_0, wp_istore_0, wp_iload_1, wp_istore_1, wp_iload_2, wp_istore_2, wp_iload_3, wp_istore_3, wp_iload, wp_istore, wp_lload_0, wp_lstore_0, wp_lload_1, wp_lstore_1, wp_lload_2, wp_lstore_2, wp_lload_3, wp_lstore_3, wp_lload, wp_lstore, wp_aload_0, wp_astore_0, wp_aload_1, wp_astore_1, wp_aload_2, wp_astore_2, wp_aload_3, wp_astore_3, wp_aload, wp_astore, wp_iinc, wp_iadd, wp_isub, wp_imul, wp_iand, wp_ior, wp_ixor, wp_ishl, wp_ishr, wp_iushr, wp_irem, wp_ladd, wp_lsub, wp_lmul, wp_land, wp_lor, wp_lxor, wp_lshl, wp_lshr, wp_lushr, wp_lrem, wp_lcmp, wp_i2l, wp_l2i, wp_dupI, wp_dupA, wp_dup2J, wp_dup2IA, wp_popI, wp_popA, wp_pop2, wp_goto, wp_if_eq, wp_icmp_eq, wp_if_ne, wp_icmp_ne, wp_if_lt, wp_icmp_lt, wp_if_ge, wp_icmp_ge, wp_if_gt, wp_icmp_gt, wp_if_le, wp_icmp_le, wp_ifnull, wp_ifnonnull, wp_acmp_eq, wp_acmp_ne, wp_tableswitch, wp_get0, wp_put0, wp_get1, wp_put1, wp_get2, wp_put2, wp_get3, wp_put3, wp_new, wp_newarray, wp_anewarray, wp_alen, wp_iaload, wp_laload, wp_baload, wp_aaload, wp_iastore, wp_lastore, wp_bastore, wp_aastore, wp_return, wp_ireturnI, wp_ireturnZ, wp_lreturn, wp_areturnO, wp_areturnA, wp_max, wp_min, wp_obj, wp_virt, wp_nil, ld_I0, ld_Is, ld_J0, ld_Js, ld_A0, ld_As, ha_0, ha_s, cx_put1, cx_put2, cx_dl, cx_tgt, true_and, and_true, Nat.reduceAdd, Nat.reduceSub, Int.reduceAdd, Int.reduceNeg, Int.reduceToNat, Int.reduceSub, Int.cast_ofNat_Int, List.take_succ_cons, List.take_zero, List.drop_succ_cons, List.drop_zero, List.take_nil, List.drop_nil, Option.toList_some, Option.toList_none, List.cons_append, List.nil_append, wp_spec, ne_eq, Nat.reduceEqDiff, not_false_eq_true, true_or, or_true, wf_X3_mix, wf_X3_key, wf_X3_times, wf_X3_timesModuloQ, wf_X3_power, wf_X3_rest, wf_X3_secretOf, wf_X3_sealSum, wf_X3_sum, wf_X3_letterKey, wf_X3_nextOf, wf_X3_isOpen, wf_X3_veil, wf_X3_sealIsRight, cx_sz, cx_c2, cond_true, cond_false, Nat.reduceLeDiff, sb]
    refine j16 _ ?_
    rw [g_power_f]
    exact hw b rfl
/-- a SESSION that the other began, just made: SR0 -/
theorem sr_new {x d r : Nat} {u w s ln : Int} {e root : Int64} {g G m : cx_Q} (H : CI c n L Z E h0 [] h) (Q : GQ x u w s ln e root g G) (hm : CI c n L Z E h0 [] m) (sd : cq_s h d = 6) (k1 : ev (seW (cq_nw h 7 0) h.1 (h.1 + 1) d r 0 root e) m) (w1 : cq_s m (h.1 + 1) = 1) (w2 : cq_I m (h.1 + 1) 4 = 0) (w3 : cq_A m (h.1 + 1) 0 = some (h.1 + 1 + 1)) (w4 : cq_A m (h.1 + 1) 1 = some (h.1 + 1 + 2)) (w5 : cq_A m (h.1 + 1) 2 = some (h.1 + 1 + 3)) : SR0 x h.1 s m G ∧ ev h m ∧ cq_A m h.1 12 = some d := by
  have hal := H.al h.1 (Nat.le_refl _)
  obtain ⟨s2, _, nI, nJ, nA⟩ := nw_n (h := h) (s := 7) (z := 0)
  have k2 : ev h (cq_nw h 7 0) := ev.refl.nw hal
  have es : cq_s (seW (cq_nw h 7 0) h.1 (h.1 + 1) d r 0 root e) = cq_s (cq_nw h 7 0) := Eq.trans rfl rfl
  have k21 : ev h m := by
    refine ev.trans ?_ k1
    unfold seW
    exact (((((((k2.fA hal).fI hal).fI hal).fJ hal).fJ hal).fJ hal).fA hal).fA hal
  have ss1 : cq_s m h.1 = 7 := k1.s (by rw [es]; exact s2) (by decide)
  have a1 : ∀ j, cq_I m h.1 j = 0 := fun j => by
    rw [k1.I (k0 := 7) (by rw [es]; exact s2) rfl]
    unfold seW
    simp only [mm_sI, mm_sJ, mm_sA, mm_IJ, mm_IA, mm_JI, mm_JA, mm_AI, mm_AJ, mm_ssI, mm_ssJ, mm_ssA, mm_zI, mm_zJ, mm_zA, mm_nI, mm_nJ, mm_nA, Nat.left_eq_add, Nat.add_eq_left, Nat.add_left_cancel_iff, Nat.reduceEqDiff, Int.reduceEq, false_and, and_false, if_false, if_true, and_self, true_and, true_or, or_true, false_or, or_false]
    rw [nI]
    split
    · rfl
    · split <;> rfl
  have a2 : ∀ j, cq_J m h.1 j = if j = 2 then e else if j = 6 then root else if j = 1 then root else 0 := fun j => by
    rw [k1.J (k0 := 7) (by rw [es]; exact s2) (by decide)]
    unfold seW
    simp only [mm_sI, mm_sJ, mm_sA, mm_IJ, mm_IA, mm_JI, mm_JA, mm_AI, mm_AJ, mm_ssI, mm_ssJ, mm_ssA, mm_zI, mm_zJ, mm_zA, mm_nI, mm_nJ, mm_nA, Nat.left_eq_add, Nat.add_eq_left, Nat.add_left_cancel_iff, Nat.reduceEqDiff, Int.reduceEq, false_and, and_false, if_false, if_true, and_self, true_and, true_or, or_true, false_or, or_false]
    rw [nJ]
  have a3 : ∀ j, cq_A m h.1 j = if j = 7 then some r else if j = 12 then some d else if j = 19 then some (h.1 + 1) else none := fun j => by
    rw [k1.A (k0 := 7) (by rw [es]; exact s2) rfl]
    unfold seW
    simp only [mm_sI, mm_sJ, mm_sA, mm_IJ, mm_IA, mm_JI, mm_JA, mm_AI, mm_AJ, mm_ssI, mm_ssJ, mm_ssA, mm_zI, mm_zJ, mm_zA, mm_nI, mm_nJ, mm_nA, Nat.left_eq_add, Nat.add_eq_left, Nat.add_left_cancel_iff, Nat.reduceEqDiff, Int.reduceEq, false_and, and_false, if_false, if_true, and_self, true_and, true_or, or_true, false_or, or_false]
    rw [nA]
  have t2 : cq_s m (h.1 + 2) = 171 := hm.ta w1 (own_9 (by decide)) w3
  have t3 : cq_s m (h.1 + 3) = 172 := hm.ta w1 (own_9 (by decide)) w4
  have t4 : cq_s m (h.1 + 4) = 173 := hm.ta w1 (own_9 (by decide)) w5
  refine ⟨⟨ss1, w1, t2, t3, t4, by rw [a3, if_neg (by decide), if_neg (by decide), if_pos rfl], w3, w4, w5, by rw [a1, Q.i44], by rw [a2, if_pos rfl, Q.j45], by rw [a2, if_neg (by decide), if_pos rfl, Q.j31], ⟨fun _ => Q.i35, fun _ => by rw [a3, if_neg (by decide), if_neg (by decide), if_neg (by decide)]⟩, fun z => absurd Q.i35 z, by rw [a2, if_neg (by decide), if_neg (by decide), if_neg (by decide), Q.j38]; rfl, by rw [a1, Q.i39], by rw [a1, Q.i40], by rw [a1, Q.i41], by rw [w2, Q.i53], by rw [Q.i53]; omega, fun k k0 k1 => by rw [Q.i53] at k1; omega⟩, k21, by rw [a3, if_neg (by decide), if_pos rfl]⟩
end
