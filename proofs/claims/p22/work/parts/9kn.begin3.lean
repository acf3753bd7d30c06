/-! class and reference side by side: begin, whole -/
section
variable {Y : cx_Y} {K : Option cx_V → cx_Q → Prop} {c x : Nat} {n L Z : Int} {E : Nat → Option Int} {h0 : cx_Q} {h g g' : cx_Q} {pe : Int → Nat} {ro : Int → Int → Nat} {pa lb tp rd en op ob : Nat} {T Lf : Int → Nat}
theorem le100 {a b : Int} (h : a = b) (hb : b < 100) (h0 : 0 ≤ a) : 0 ≤ a + 1 ∧ a + 1 ≤ 100 := by omega
theorem draw_31 {u : Int} : cq_J (m_draw g x u) x 31 = dV (cq_J g (x + 1) u) (cq_I g (x + 12) u) ∧ cq_J (m_draw g x u) x 32 = dO (cq_J g (x + 1) u) (cq_I g (x + 12) u) := by
  unfold m_draw dO dV
  simp only [mm_sI, mm_sJ, mm_sA, mm_IJ, mm_IA, mm_JI, mm_JA, mm_AI, mm_AJ, mm_ssI, mm_ssJ, mm_ssA, mm_zI, mm_zJ, mm_zA, mm_nI, mm_nJ, mm_nA, Nat.left_eq_add, Nat.add_eq_left, Nat.add_left_cancel_iff, Nat.reduceEqDiff, Int.reduceEq, false_and, and_false, if_false, if_true, and_self, true_and, true_or, or_true, false_or, or_false]
  try exact ⟨trivial, trivial⟩
/-- all users are people of the object -/
def uE (pe : Int → Nat) (n : Int) (h0 : cx_Q) : Prop := ∀ p, cq_s h0 p = 4 → ∃ u, 0 ≤ u ∧ u < n ∧ pe u = p
theorem FX.uP (F : FX c x n pe ro pa lb tp rd en op ob T Lf h g) (hP : uE pe n h0) : uP pa n h0 h := fun p q => by
  obtain ⟨u, u0, u1, e⟩ := hP p q
  exact ⟨u, u0, u1, by rw [← e]; exact F.pa_ u u0 u1⟩
/-- a SESSION that was BEGUN: its cell, its SECRETS and its turns -/
def BX (c : Nat) (pe : Int → Nat) (T T' : Int → Nat) (h h' : cx_Q) (u v k sl : Int) (lo sd : Int64) (dr : Int) : Prop := ∃ a t r f s nt idu idv o6 o7, (T' = fun q => if q = sl then a else T q) ∧ (cq_s h a = 99 ∧ cq_s h' a = 7) ∧ (cq_s h t = 99 ∧ cq_s h' t = 6 ∧ cq_J h' t 1 = dO sd dr) ∧ (cq_s h r = 99 ∧ cq_s h' r = 6 ∧ cq_J h' r 1 = dO sd (dr + 1)) ∧ (cq_A h c 14 = some nt ∧ cq_A h (pe u) 3 = some idu ∧ cq_A h (pe v) 3 = some idv) ∧ soT h lo o7 ∧ ((o6 = none ↔ k = 0) ∧ (k ≠ 0 → o6 = cq_A h (pe v + 2) k)) ∧ (fpT h h' nt f (some idu) (some idv) (some t) o7 o6 ∧ cq_s h f = 99) ∧ (tq h h' f (some r) o7 s ∧ cq_s h s = 99) ∧ (cq_A h' a 7 = some s ∧ cq_A h' a 9 = some s ∧ cq_A h' a 11 = none ∧ cq_A h' a 12 = some r ∧ cq_A h' a 14 = o7) ∧ cq_s h' (a + 1) = 1 ∧ cq_A h' (a + 1) 3 = some (a + 5)
theorem s99 {g g' : cx_Q} (w : et g g') {d : Nat} (q : cq_s g' d = 99) : cq_s g d = 99 := by
  by_cases z : cq_s g d = 99
  · exact z
  · have := (w.1 d z).1
    rw [q] at this
    exact this.symm
theorem et.rw {m : cx_Q} {r a : Nat} (hs : cq_s m (r + 1) = 182) : et m (rwF m r a) := by
  refine ⟨fun _ _ => ⟨rfl, rfl⟩, fun d j w _ => ?_, fun d w => ?_⟩
  · have nd : ¬ d = r + 1 := fun e => by rw [e, hs] at w; exact absurd w (by decide)
    unfold rwF
    simp only [rr_A, mm_sI, mm_sJ, mm_sA, mm_IJ, mm_IA, mm_JI, mm_JA, mm_AI, mm_AJ, mm_ssI, mm_ssJ, mm_ssA, mm_zI, mm_zJ, mm_zA, mm_nI, mm_nJ, mm_nA, nd, Nat.left_eq_add, Nat.add_eq_left, Nat.add_left_cancel_iff, Nat.reduceEqDiff, Int.reduceEq, false_and, and_false, if_false, if_true, and_self, true_and, true_or, or_true, false_or, or_false]
  · have nd : ¬ d = r + 1 := fun e => by rw [e, hs] at w; exact absurd w (by decide)
    unfold rwF
    simp only [rr_A, mm_sI, mm_sJ, mm_sA, mm_IJ, mm_IA, mm_JI, mm_JA, mm_AI, mm_AJ, mm_ssI, mm_ssJ, mm_ssA, mm_zI, mm_zJ, mm_zA, mm_nI, mm_nJ, mm_nA, nd, Nat.left_eq_add, Nat.add_eq_left, Nat.add_left_cancel_iff, Nat.reduceEqDiff, Int.reduceEq, false_and, and_false, if_false, if_true, and_self, true_and, true_or, or_true, false_or, or_false]
theorem rwF_A {m : cx_Q} {r a d : Nat} (nd : ¬ d = r + 1) : cq_A (rwF m r a) d = cq_A m d := by
  unfold rwF
  simp only [rr_A, mm_sI, mm_sJ, mm_sA, mm_IJ, mm_IA, mm_JI, mm_JA, mm_AI, mm_AJ, mm_ssI, mm_ssJ, mm_ssA, mm_zI, mm_zJ, mm_zA, mm_nI, mm_nJ, mm_nA, nd, Nat.left_eq_add, Nat.add_eq_left, Nat.add_left_cancel_iff, Nat.reduceEqDiff, Int.reduceEq, false_and, and_false, if_false, if_true, and_self, true_and, true_or, or_true, false_or, or_false]
theorem f_X10_beginSession (hY : cY Y) {u v : Int} (H : CI c n L Z E h0 [] h) (hZ : Z ≤ 800000) (F : FX c x n pe ro pa lb tp rd en op ob T Lf h g) (hu : 0 ≤ u ∧ u < n) (hv : 0 ≤ v ∧ v < n) (hU : cq_I g (x + 11) u ≠ 0) (hV : cq_I g (x + 11) v ≠ 0) (hC : E c = none) (hP : uE pe n h0) (h63 : cq_I g x 63 < 100) (hN : ¬ m_seal g x v → ∀ h', CI c n L (Z + 2) E h0 [] h' → FX c x n pe ro pa lb tp rd en op ob T Lf h' (m_bn0 g x v) → K (some (.inl (-10))) h') (hK : m_seal g x v → ∀ h' T', CI c n L (Z + 2) E h0 [] h' → FX c x n pe ro pa lb tp rd en op ob T' Lf h' (m_begin g x u v) → BX c pe T T' h h' u v (m_leastOnce g x v) (m_slotN (m_draw (cq_sI (m_bn0 g x v) x 63 (cq_I g x 63 + 1)) x u) x (6 * u + v)) (cq_J g (x + 20) v) (cq_J g (x + 1) u) (cq_I g (x + 12) u) → K (some (.inl 1)) h') : cw Y mi_X10_beginSession K 0 [some (.inr (.inr (some c))), some (.inl u), some (.inl v), none, none, none, none, none, none, none, none, none, none, none] [] h 15 303 := by
  have hc := H.cs
  have i4 := F.fs.bc
  have fu := F.fu u hu.1 hu.2
  have fv := F.fu v hv.1 hv.2
  have sp := fu.s0
  have sq := fv.s0
  have ep := F.a0
  have spa := F.s0
  have zpa : cq_z h pa = n := H.tz spa
  have e := F.pa_ u hu.1 hu.2
  have e' := F.pa_ v hv.1 hv.2
  have least := fv.least
  -- behind the taking of a ONCE key
  have cont : ∀ (k : Int) (h1 : cx_Q), CI c n L Z E h0 [] h1 → (h1 = if cq_I h (pe v) 12 < cq_I h (pe v) 11 then cq_sI h (pe v) 12 (cq_I h (pe v) 12 + 1) else h) → k = m_leastOnce g x v → (k = 0 ∨ (1 ≤ k ∧ k ≤ cq_I g (x + 23) v)) → cw Y mi_X10_beginSession K 32 [some (.inr (.inr (some c))), some (.inl u), some (.inl v), some (.inr (.inr (some (pe u)))), some (.inr (.inr (some (pe v)))), none, none, none, none, none, none, none, none, none] [.inl k] h1 15 303 := by
    intro k h1 G e1 ek kr
    have Q0 := bn0_q (x := x) (g := g) (v := v)
    have F1 := fx_take Q0 F hv e1
    have hs1 : cq_s h1 = cq_s h := by rw [e1]; split <;> rfl
    have hA1 : cq_A h1 = cq_A h := by rw [e1]; split <;> rfl
    have hJ1 : cq_J h1 = cq_J h := by rw [e1]; split <;> rfl
    clear e1
    have x63 : cq_I (m_bn0 g x v) x 63 = cq_I g x 63 := Q0.x_ 63
    have J0 := Q0.J_
    have I0 : ∀ o j, 1 ≤ o → o ≠ 27 → cq_I (m_bn0 g x v) (x + o) j = cq_I g (x + o) j := fun o j h1 h2 => Q0.I_ o j h1 (fun z => h2 z.1)
    have sealE : m_seal g x v = m_seal (m_bn0 g x v) x v := by unfold m_seal; rw [J0, J0, J0, J0]
    have eB : m_begin g x u v = m_bn2 (m_draw (cq_sI (m_bn0 g x v) x 63 (cq_I g x 63 + 1)) x u) x u v (m_leastOnce g x v) (m_bnR (m_draw (cq_sI (m_bn0 g x v) x 63 (cq_I g x 63 + 1)) x u) x u v (m_leastOnce g x v) (cq_J (m_bn0 g x v) (x + 20) v)) (cq_J (m_bn0 g x v) (x + 20) v) (cq_J (m_draw (cq_sI (m_bn0 g x v) x 63 (cq_I g x 63 + 1)) x u) x 32) := by
      rw [J0]
      rfl
    have ek' := ek
    rw [← ek] at eB
    have i23 := I0 23 v (by decide) (by decide)
    have i11u := I0 11 u (by decide) (by decide)
    have i11v := I0 11 v (by decide) (by decide)
    rw [← i23] at kr
    rw [← i11u] at hU
    rw [← i11v] at hV
    rw [sealE] at hN hK
    rw [eB, ← J0 20 v, ← J0 1 u, ← I0 12 u (by decide) (by decide), ← ek] at hK
    clear Q0 J0 I0 sealE eB i23 i11u i11v ek ek'
    generalize m_bn0 g x v = g0 at F1 x63 hN hK kr hU hV
    have gc1 := G.cs
    have f1u := F1.fu u hu.1 hu.2
    have f1v := F1.fu v hv.1 hv.2
    have q1 := f1v.s0
    have p1 := f1u.s0
    obtain ⟨dv, edv, sdv, jdv0, jdv1, bv1, bv2, bv3⟩ := f1v.n1 hV
    have sl : (g_power (Int64.ofInt 3) (cq_J h1 (pe v) 7) = g_times (cq_J h1 (pe v) 6) (g_power (cq_J h1 dv 1) (g_sealSum (cq_J h1 (pe v) 6) (cq_J h1 (pe v) 5)))) ↔ m_seal g0 x v := by
      rw [f1v.so, f1v.sp, f1v.lo, jdv1]
      rw [g_seal_f f1v.sb ⟨bv2, bv3⟩]
      unfold f_sealRight m_seal
      exact Iff.rfl
    refine bx_X10_beginSession_32 hY (pf2_ok hY) ?_
    simp only [wp_iconst, wp_bipush, wp_sipush, wp_ldc, wp_ldc2_w, wp_lconst0, wp_lconst1, wp_aconst_null, wp_iload_0, wp_istore_0, wp_iload_1, wp_istore_1, wp_iload_2, wp_istore_2, wp_iload_3, wp_istore_3, wp_iload, wp_istore, wp_lload_0, wp_lstore_0, wp_lload_1, wp_lstore_1, wp_lload_2, wp_lstore_2, wp_lload_3, wp_lstore_3, wp_lload, wp_lstore, wp_aload_0, wp_astore_0, wp_aload_1, wp_astore_1, wp_aload_2, wp_astore_2, wp_aload_3, wp_astore_3, wp_aload, wp_astore, wp_iinc, wp_iadd, wp_isub, wp_imul, wp_iand, wp_ior, wp_ixor, wp_ishl, wp_ishr, wp_iushr, wp_irem, wp_ladd, wp_lsub, wp_lmul, wp_land, wp_lor, wp_lxor, wp_lshl, wp_lshr, wp_lushr, wp_lrem, wp_lcmp, wp_i2l, wp_l2i, wp_dupI, wp_dupA, wp_dup2J, wp_dup2IA, wp_popI, wp_popA, wp_pop2, wp_goto, wp_if_eq, wp_icmp_eq, wp_if_ne, wp_icmp_ne, wp_if_lt, wp_icmp_lt, wp_if_ge, wp_icmp_ge, wp_if_gt, wp_icmp_gt, wp_if_le, wp_icmp_le, wp_ifnull, wp_ifnonnull, wp_acmp_eq, wp_acmp_ne, wp_tableswitch, wp_get0, wp_put0, wp_get1, wp_put1, wp_get2, wp_put2, wp_get3, wp_put3, wp_new, wp_newarray, wp_anewarray, wp_alen, wp_iaload, wp_laload, wp_baload, wp_aaload, wp_iastore, wp_lastore, wp_bastore, wp_aastore, wp_return, wp_ireturnI, wp_ireturnZ, wp_lreturn, wp_areturnO, wp_areturnA, wp_max, wp_min, wp_obj, wp_virt, wp_nil, ld_I0, ld_Is, ld_J0, ld_Js, ld_A0, ld_As, ha_0, ha_s, cx_put1, cx_put2, cx_dl, cx_tgt, true_and, and_true, Nat.reduceAdd, Nat.reduceSub, Int.reduceAdd, Int.reduceNeg, Int.reduceToNat, Int.reduceSub, Int.cast_ofNat_Int, List.take_succ_cons, List.take_zero, List.drop_succ_cons, List.drop_zero, List.take_nil, List.drop_nil, Option.toList_some, Option.toList_none, List.cons_append, List.nil_append, wp_spec, ne_eq, Nat.reduceEqDiff, not_false_eq_true, true_or, or_true]
    refine cl_X5_sealIsRight (Nat.le_of_ble_eq_true rfl) q1 (by omega) (by omega) (e_X5_sealIsRight hY G q1 edv (fun z => ?_) (fun z => ?_))
    · refine bx_X10_beginSession_39 hY (pf2_ok hY) ?_
      simp only [wp_iconst, wp_bipush, wp_sipush, wp_ldc, wp_ldc2_w, wp_lconst0, wp_lconst1, wp_aconst_null, wp_iload_0, wp_istore_0, wp_iload_1, wp_istore_1, wp_iload_2, wp_istore_2, wp_iload_3, wp_istore_3, wp_iload, wp_istore, wp_lload_0, wp_lstore_0, wp_lload_1, wp_lstore_1, wp_lload_2, wp_lstore_2, wp_lload_3, wp_lstore_3, wp_lload, wp_lstore, wp_aload_0, wp_astore_0, wp_aload_1, wp_astore_1, wp_aload_2, wp_astore_2, wp_aload_3, wp_astore_3, wp_aload, wp_astore, wp_iinc, wp_iadd, wp_isub, wp_imul, wp_iand, wp_ior, wp_ixor, wp_ishl, wp_ishr, wp_iushr, wp_irem, wp_ladd, wp_lsub, wp_lmul, wp_land, wp_lor, wp_lxor, wp_lshl, wp_lshr, wp_lushr, wp_lrem, wp_lcmp, wp_i2l, wp_l2i, wp_dupI, wp_dupA, wp_dup2J, wp_dup2IA, wp_popI, wp_popA, wp_pop2, wp_goto, wp_if_eq, wp_icmp_eq, wp_if_ne, wp_icmp_ne, wp_if_lt, wp_icmp_lt, wp_if_ge, wp_icmp_ge, wp_if_gt, wp_icmp_gt, wp_if_le, wp_icmp_le, wp_ifnull, wp_ifnonnull, wp_acmp_eq, wp_acmp_ne, wp_tableswitch, wp_get0, wp_put0, wp_get1, wp_put1, wp_get2, wp_put2, wp_get3, wp_put3, wp_new, wp_newarray, wp_anewarray, wp_alen, wp_iaload, wp_laload, wp_baload, wp_aaload, wp_iastore, wp_lastore, wp_bastore, wp_aastore, wp_return, wp_ireturnI, wp_ireturnZ, wp_lreturn, wp_areturnO, wp_areturnA, wp_max, wp_min, wp_obj, wp_virt, wp_nil, ld_I0, ld_Is, ld_J0, ld_Js, ld_A0, ld_As, ha_0, ha_s, cx_put1, cx_put2, cx_dl, cx_tgt, true_and, and_true, Nat.reduceAdd, Nat.reduceSub, Int.reduceAdd, Int.reduceNeg, Int.reduceToNat, Int.reduceSub, Int.cast_ofNat_Int, List.take_succ_cons, List.take_zero, List.drop_succ_cons, List.drop_zero, List.take_nil, List.drop_nil, Option.toList_some, Option.toList_none, List.cons_append, List.nil_append, wp_spec, ne_eq, Nat.reduceEqDiff, not_false_eq_true, true_or, or_true, Nat.left_eq_add, Nat.add_eq_left, Nat.add_left_cancel_iff, Nat.reduceEqDiff, Int.reduceEq, false_and, and_false, if_false, if_true, and_self, true_and, true_or, or_true, false_or, or_false]
      exact ⟨fun w => absurd trivial w, fun _ => hN (fun w => z (sl.mpr w)) h1 (G.up (by omega)) F1⟩
    have seal' := sl.mp z
    have hK' := hK seal'
    clear hK hN sl z seal'
    refine bx_X10_beginSession_39 hY (pf2_ok hY) ?_
    simp only [wp_iconst, wp_bipush, wp_sipush, wp_ldc, wp_ldc2_w, wp_lconst0, wp_lconst1, wp_aconst_null, wp_iload_0, wp_istore_0, wp_iload_1, wp_istore_1, wp_iload_2, wp_istore_2, wp_iload_3, wp_istore_3, wp_iload, wp_istore, wp_lload_0, wp_lstore_0, wp_lload_1, wp_lstore_1, wp_lload_2, wp_lstore_2, wp_lload_3, wp_lstore_3, wp_lload, wp_lstore, wp_aload_0, wp_astore_0, wp_aload_1, wp_astore_1, wp_aload_2, wp_astore_2, wp_aload_3, wp_astore_3, wp_aload, wp_astore, wp_iinc, wp_iadd, wp_isub, wp_imul, wp_iand, wp_ior, wp_ixor, wp_ishl, wp_ishr, wp_iushr, wp_irem, wp_ladd, wp_lsub, wp_lmul, wp_land, wp_lor, wp_lxor, wp_lshl, wp_lshr, wp_lushr, wp_lrem, wp_lcmp, wp_i2l, wp_l2i, wp_dupI, wp_dupA, wp_dup2J, wp_dup2IA, wp_popI, wp_popA, wp_pop2, wp_goto, wp_if_eq, wp_icmp_eq, wp_if_ne, wp_icmp_ne, wp_if_lt, wp_icmp_lt, wp_if_ge, wp_icmp_ge, wp_if_gt, wp_icmp_gt, wp_if_le, wp_icmp_le, wp_ifnull, wp_ifnonnull, wp_acmp_eq, wp_acmp_ne, wp_tableswitch, wp_get0, wp_put0, wp_get1, wp_put1, wp_get2, wp_put2, wp_get3, wp_put3, wp_new, wp_newarray, wp_anewarray, wp_alen, wp_iaload, wp_laload, wp_baload, wp_aaload, wp_iastore, wp_lastore, wp_bastore, wp_aastore, wp_return, wp_ireturnI, wp_ireturnZ, wp_lreturn, wp_areturnO, wp_areturnA, wp_max, wp_min, wp_obj, wp_virt, wp_nil, ld_I0, ld_Is, ld_J0, ld_Js, ld_A0, ld_As, ha_0, ha_s, cx_put1, cx_put2, cx_dl, cx_tgt, true_and, and_true, Nat.reduceAdd, Nat.reduceSub, Int.reduceAdd, Int.reduceNeg, Int.reduceToNat, Int.reduceSub, Int.cast_ofNat_Int, List.take_succ_cons, List.take_zero, List.drop_succ_cons, List.drop_zero, List.take_nil, List.drop_nil, Option.toList_some, Option.toList_none, List.cons_append, List.nil_append, wp_spec, ne_eq, Nat.reduceEqDiff, not_false_eq_true, true_or, or_true, Nat.left_eq_add, Nat.add_eq_left, Nat.add_left_cancel_iff, Nat.reduceEqDiff, Int.reduceEq, false_and, and_false, if_false, if_true, and_self, true_and, true_or, or_true, false_or, or_false]
    refine ⟨fun _ => ?_, fun w => absurd (by decide) w⟩
    -- the ONCE key
    have o6 : ∃ o : Option Nat, (∀ b, o = some b → cq_s h1 b = 6 ∧ cq_J h1 b 1 = cq_J g0 (x + 25) (61 * v + k)) ∧ (o = none ↔ k = 0) ∧ (¬ (1 ≤ k ∧ k ≤ cq_I h1 (pe v) 11) → o = none) ∧ (1 ≤ k → k ≤ cq_I h1 (pe v) 11 → o = cq_A h1 (pe v + 2) k) := by
      have on := f1v.on
      rcases kr with z | z
      · exact ⟨none, fun b q => (nomatch q), ⟨fun _ => z, fun _ => rfl⟩, fun _ => rfl, fun w => by omega⟩
      · obtain ⟨d, y1, y2, y3, y4⟩ := f1v.ok k z.1 z.2
        exact ⟨some d, fun b q => by cases q; exact ⟨y2, y4⟩, ⟨fun q => (nomatch q), fun q => by omega⟩, fun w => absurd ⟨z.1, by rw [on]; exact z.2⟩ w, fun _ _ => y1.symm⟩
    obtain ⟨o6, ho6, o6n, o6a, o6b⟩ := o6
    refine bx_X10_beginSession_45 hY (pf2_ok hY) ?_
    simp only [wp_iconst, wp_bipush, wp_sipush, wp_ldc, wp_ldc2_w, wp_lconst0, wp_lconst1, wp_aconst_null, wp_iload_0, wp_istore_0, wp_iload_1, wp_istore_1, wp_iload_2, wp_istore_2, wp_iload_3, wp_istore_3, wp_iload, wp_istore, wp_lload_0, wp_lstore_0, wp_lload_1, wp_lstore_1, wp_lload_2, wp_lstore_2, wp_lload_3, wp_lstore_3, wp_lload, wp_lstore, wp_aload_0, wp_astore_0, wp_aload_1, wp_astore_1, wp_aload_2, wp_astore_2, wp_aload_3, wp_astore_3, wp_aload, wp_astore, wp_iinc, wp_iadd, wp_isub, wp_imul, wp_iand, wp_ior, wp_ixor, wp_ishl, wp_ishr, wp_iushr, wp_irem, wp_ladd, wp_lsub, wp_lmul, wp_land, wp_lor, wp_lxor, wp_lshl, wp_lshr, wp_lushr, wp_lrem, wp_lcmp, wp_i2l, wp_l2i, wp_dupI, wp_dupA, wp_dup2J, wp_dup2IA, wp_popI, wp_popA, wp_pop2, wp_goto, wp_if_eq, wp_icmp_eq, wp_if_ne, wp_icmp_ne, wp_if_lt, wp_icmp_lt, wp_if_ge, wp_icmp_ge, wp_if_gt, wp_icmp_gt, wp_if_le, wp_icmp_le, wp_ifnull, wp_ifnonnull, wp_acmp_eq, wp_acmp_ne, wp_tableswitch, wp_get0, wp_put0, wp_get1, wp_put1, wp_get2, wp_put2, wp_get3, wp_put3, wp_new, wp_newarray, wp_anewarray, wp_alen, wp_iaload, wp_laload, wp_baload, wp_aaload, wp_iastore, wp_lastore, wp_bastore, wp_aastore, wp_return, wp_ireturnI, wp_ireturnZ, wp_lreturn, wp_areturnO, wp_areturnA, wp_max, wp_min, wp_obj, wp_virt, wp_nil, ld_I0, ld_Is, ld_J0, ld_Js, ld_A0, ld_As, ha_0, ha_s, cx_put1, cx_put2, cx_dl, cx_tgt, true_and, and_true, Nat.reduceAdd, Nat.reduceSub, Int.reduceAdd, Int.reduceNeg, Int.reduceToNat, Int.reduceSub, Int.cast_ofNat_Int, List.take_succ_cons, List.take_zero, List.drop_succ_cons, List.drop_zero, List.take_nil, List.drop_nil, Option.toList_some, Option.toList_none, List.cons_append, List.nil_append, wp_spec, ne_eq, Nat.reduceEqDiff, not_false_eq_true, true_or, or_true]
    have c52 : cw Y mi_X10_beginSession K 52 [some (.inr (.inr (some c))), some (.inl u), some (.inl v), some (.inr (.inr (some (pe u)))), some (.inr (.inr (some (pe v)))), some (.inl k), none, none, none, none, none, none, none, none] [.inr (.inr o6)] h1 15 303 := by
      refine bx_X10_beginSession_52 hY (pf2_ok hY) ?_
      simp only [wp_iconst, wp_bipush, wp_sipush, wp_ldc, wp_ldc2_w, wp_lconst0, wp_lconst1, wp_aconst_null, wp_iload_0, wp_istore_0, wp_iload_1, wp_istore_1, wp_iload_2, wp_istore_2, wp_iload_3, wp_istore_3, wp_iload, wp_istore, wp_lload_0, wp_lstore_0, wp_lload_1, wp_lstore_1, wp_lload_2, wp_lstore_2, wp_lload_3, wp_lstore_3, wp_lload, wp_lstore, wp_aload_0, wp_astore_0, wp_aload_1, wp_astore_1, wp_aload_2, wp_astore_2, wp_aload_3, wp_astore_3, wp_aload, wp_astore, wp_iinc, wp_iadd, wp_isub, wp_imul, wp_iand, wp_ior, wp_ixor, wp_ishl, wp_ishr, wp_iushr, wp_irem, wp_ladd, wp_lsub, wp_lmul, wp_land, wp_lor, wp_lxor, wp_lshl, wp_lshr, wp_lushr, wp_lrem, wp_lcmp, wp_i2l, wp_l2i, wp_dupI, wp_dupA, wp_dup2J, wp_dup2IA, wp_popI, wp_popA, wp_pop2, wp_goto, wp_if_eq, wp_icmp_eq, wp_if_ne, wp_icmp_ne, wp_if_lt, wp_icmp_lt, wp_if_ge, wp_icmp_ge, wp_if_gt, wp_icmp_gt, wp_if_le, wp_icmp_le, wp_ifnull, wp_ifnonnull, wp_acmp_eq, wp_acmp_ne, wp_tableswitch, wp_get0, wp_put0, wp_get1, wp_put1, wp_get2, wp_put2, wp_get3, wp_put3, wp_new, wp_newarray, wp_anewarray, wp_alen, wp_iaload, wp_laload, wp_baload, wp_aaload, wp_iastore, wp_lastore, wp_bastore, wp_aastore, wp_return, wp_ireturnI, wp_ireturnZ, wp_lreturn, wp_areturnO, wp_areturnA, wp_max, wp_min, wp_obj, wp_virt, wp_nil, ld_I0, ld_Is, ld_J0, ld_Js, ld_A0, ld_As, ha_0, ha_s, cx_put1, cx_put2, cx_dl, cx_tgt, true_and, and_true, Nat.reduceAdd, Nat.reduceSub, Int.reduceAdd, Int.reduceNeg, Int.reduceToNat, Int.reduceSub, Int.cast_ofNat_Int, List.take_succ_cons, List.take_zero, List.drop_succ_cons, List.drop_zero, List.take_nil, List.drop_nil, Option.toList_some, Option.toList_none, List.cons_append, List.nil_append, wp_spec, ne_eq, Nat.reduceEqDiff, not_false_eq_true, true_or, or_true, q1]
      refine cl_X10_secretOf (Nat.le_of_ble_eq_true rfl) gc1 (by omega) (by omega) (s_X10_secretOf hY G ⟨by have := F1.n26; omega, F1.n26.2⟩ F1.a0 hC (F1.uP hP) (fun o7 so7 => ?_))
      have ho7 := so7.s
      refine bx_X10_beginSession_63 hY (pf2_ok hY) ?_
      simp only [wp_iconst, wp_bipush, wp_sipush, wp_ldc, wp_ldc2_w, wp_lconst0, wp_lconst1, wp_aconst_null, wp_iload_0, wp_istore_0, wp_iload_1, wp_istore_1, wp_iload_2, wp_istore_2, wp_iload_3, wp_istore_3, wp_iload, wp_istore, wp_lload_0, wp_lstore_0, wp_lload_1, wp_lstore_1, wp_lload_2, wp_lstore_2, wp_lload_3, wp_lstore_3, wp_lload, wp_lstore, wp_aload_0, wp_astore_0, wp_aload_1, wp_astore_1, wp_aload_2, wp_astore_2, wp_aload_3, wp_astore_3, wp_aload, wp_astore, wp_iinc, wp_iadd, wp_isub, wp_imul, wp_iand, wp_ior, wp_ixor, wp_ishl, wp_ishr, wp_iushr, wp_irem, wp_ladd, wp_lsub, wp_lmul, wp_land, wp_lor, wp_lxor, wp_lshl, wp_lshr, wp_lushr, wp_lrem, wp_lcmp, wp_i2l, wp_l2i, wp_dupI, wp_dupA, wp_dup2J, wp_dup2IA, wp_popI, wp_popA, wp_pop2, wp_goto, wp_if_eq, wp_icmp_eq, wp_if_ne, wp_icmp_ne, wp_if_lt, wp_icmp_lt, wp_if_ge, wp_icmp_ge, wp_if_gt, wp_icmp_gt, wp_if_le, wp_icmp_le, wp_ifnull, wp_ifnonnull, wp_acmp_eq, wp_acmp_ne, wp_tableswitch, wp_get0, wp_put0, wp_get1, wp_put1, wp_get2, wp_put2, wp_get3, wp_put3, wp_new, wp_newarray, wp_anewarray, wp_alen, wp_iaload, wp_laload, wp_baload, wp_aaload, wp_iastore, wp_lastore, wp_bastore, wp_aastore, wp_return, wp_ireturnI, wp_ireturnZ, wp_lreturn, wp_areturnO, wp_areturnA, wp_max, wp_min, wp_obj, wp_virt, wp_nil, ld_I0, ld_Is, ld_J0, ld_Js, ld_A0, ld_As, ha_0, ha_s, cx_put1, cx_put2, cx_dl, cx_tgt, true_and, and_true, Nat.reduceAdd, Nat.reduceSub, Int.reduceAdd, Int.reduceNeg, Int.reduceToNat, Int.reduceSub, Int.cast_ofNat_Int, List.take_succ_cons, List.take_zero, List.drop_succ_cons, List.drop_zero, List.take_nil, List.drop_nil, Option.toList_some, Option.toList_none, List.cons_append, List.nil_append, wp_spec, ne_eq, Nat.reduceEqDiff, not_false_eq_true, true_or, or_true]
      refine cl_X5_drawSecret (Nat.le_of_ble_eq_true rfl) p1 (by omega) (by omega) (e_X5_draw2 hY G p1 (by omega) (fun h2 G2 k2 st v1 v2 ns2 => ?_))
      rw [f1u.dr] at k2
      rw [f1u.dr, f1u.sd] at v1 v2
      have k2' : ev (coD h1 (pe u) h1.1 (cq_I g0 (x + 12) u)) h2 := k2
      clear k2
      have D1 := draw_q (x := x) (u := u) (g := g0)
      have F2 := fx_draw D1 F1 hu k2'
      have ev12 : ∀ d q, cq_s h1 d = q → q ≠ 99 → q ≠ 4 → cq_s h2 d = q ∧ cq_J h2 d = cq_J h1 d := fun d q w w1 w2 => ⟨k2'.s (by rw [coD_s]; exact w) w1, by rw [k2'.J (k0 := q) (by rw [coD_s]; exact w) w1, coD_J]⟩
      have gJ1 : ∀ o j, 1 ≤ o → cq_J (m_draw g0 x u) (x + o) j = cq_J g0 (x + o) j := D1.J_
      have gI1 : ∀ o j, 1 ≤ o → o ≠ 12 → cq_I (m_draw g0 x u) (x + o) j = cq_I g0 (x + o) j := fun o j h1 h2 => D1.I_ o j h1 (fun z => h2 z.1)
      have f2u := F2.fu u hu.1 hu.2
      have f2v := F2.fu v hv.1 hv.2
      have p2 := f2u.s0
      have q2 := f2v.s0
      obtain ⟨du2, edu2, sdu2, jdu20, jdu21, _, _, _⟩ := f2u.n1 (by rw [gI1 11 u (by decide) (by decide)]; exact hU)
      obtain ⟨dv2, edv2, sdv2, jdv20, jdv21, _, _, _⟩ := f2v.n1 (by rw [gI1 11 v (by decide) (by decide)]; exact hV)
      rw [gJ1 13 u (by decide)] at jdu20
      rw [gJ1 14 v (by decide)] at jdv21
      have lo2 : cq_J h2 (pe v) 5 = cq_J g0 (x + 20) v := by rw [f2v.lo, gJ1 20 v (by decide)]
      refine bx_X10_beginSession_69 hY (pf2_ok hY) ?_
      simp only [wp_iconst, wp_bipush, wp_sipush, wp_ldc, wp_ldc2_w, wp_lconst0, wp_lconst1, wp_aconst_null, wp_iload_0, wp_istore_0, wp_iload_1, wp_istore_1, wp_iload_2, wp_istore_2, wp_iload_3, wp_istore_3, wp_iload, wp_istore, wp_lload_0, wp_lstore_0, wp_lload_1, wp_lstore_1, wp_lload_2, wp_lstore_2, wp_lload_3, wp_lstore_3, wp_lload, wp_lstore, wp_aload_0, wp_astore_0, wp_aload_1, wp_astore_1, wp_aload_2, wp_astore_2, wp_aload_3, wp_astore_3, wp_aload, wp_astore, wp_iinc, wp_iadd, wp_isub, wp_imul, wp_iand, wp_ior, wp_ixor, wp_ishl, wp_ishr, wp_iushr, wp_irem, wp_ladd, wp_lsub, wp_lmul, wp_land, wp_lor, wp_lxor, wp_lshl, wp_lshr, wp_lushr, wp_lrem, wp_lcmp, wp_i2l, wp_l2i, wp_dupI, wp_dupA, wp_dup2J, wp_dup2IA, wp_popI, wp_popA, wp_pop2, wp_goto, wp_if_eq, wp_icmp_eq, wp_if_ne, wp_icmp_ne, wp_if_lt, wp_icmp_lt, wp_if_ge, wp_icmp_ge, wp_if_gt, wp_icmp_gt, wp_if_le, wp_icmp_le, wp_ifnull, wp_ifnonnull, wp_acmp_eq, wp_acmp_ne, wp_tableswitch, wp_get0, wp_put0, wp_get1, wp_put1, wp_get2, wp_put2, wp_get3, wp_put3, wp_new, wp_newarray, wp_anewarray, wp_alen, wp_iaload, wp_laload, wp_baload, wp_aaload, wp_iastore, wp_lastore, wp_bastore, wp_aastore, wp_return, wp_ireturnI, wp_ireturnZ, wp_lreturn, wp_areturnO, wp_areturnA, wp_max, wp_min, wp_obj, wp_virt, wp_nil, ld_I0, ld_Is, ld_J0, ld_Js, ld_A0, ld_As, ha_0, ha_s, cx_put1, cx_put2, cx_dl, cx_tgt, true_and, and_true, Nat.reduceAdd, Nat.reduceSub, Int.reduceAdd, Int.reduceNeg, Int.reduceToNat, Int.reduceSub, Int.cast_ofNat_Int, List.take_succ_cons, List.take_zero, List.drop_succ_cons, List.drop_zero, List.take_nil, List.drop_nil, Option.toList_some, Option.toList_none, List.cons_append, List.nil_append, wp_spec, ne_eq, Nat.reduceEqDiff, not_false_eq_true, true_or, or_true, wf_X3_mix, wf_X3_key, wf_X3_times, wf_X3_timesModuloQ, wf_X3_power, wf_X3_rest, wf_X3_secretOf, wf_X3_sealSum, wf_X3_sum, wf_X3_letterKey, wf_X3_nextOf, wf_X3_isOpen, wf_X3_veil, wf_X3_sealIsRight, cx_sz, cx_c2, cond_true, cond_false, Nat.reduceLeDiff, p2, q2, edu2, sdu2, edv2, sdv2, st, jdu20, jdv21, lo2, v1]
      refine cl_X10_openOf (Nat.le_of_ble_eq_true rfl) (by omega) (by omega) (e_X10_openOf hY (w := if k = 0 then Int64.ofInt 0 else cq_J g0 (x + 25) (61 * v + k)) (fun b w => (ev12 b 6 (ho6 b w).1 (by decide) (by decide)).1) (fun b w => ?_) (fun w => by rw [if_pos (o6n.mp w)]) ?_)
      · rw [if_neg (fun z => by rw [o6n.mpr z] at w; cases w), (ev12 b 6 (ho6 b w).1 (by decide) (by decide)).2]
        exact (ho6 b w).2
      refine bx_X10_beginSession_120 hY (pf2_ok hY) ?_
      simp only [wp_iconst, wp_bipush, wp_sipush, wp_ldc, wp_ldc2_w, wp_lconst0, wp_lconst1, wp_aconst_null, wp_iload_0, wp_istore_0, wp_iload_1, wp_istore_1, wp_iload_2, wp_istore_2, wp_iload_3, wp_istore_3, wp_iload, wp_istore, wp_lload_0, wp_lstore_0, wp_lload_1, wp_lstore_1, wp_lload_2, wp_lstore_2, wp_lload_3, wp_lstore_3, wp_lload, wp_lstore, wp_aload_0, wp_astore_0, wp_aload_1, wp_astore_1, wp_aload_2, wp_astore_2, wp_aload_3, wp_astore_3, wp_aload, wp_astore, wp_iinc, wp_iadd, wp_isub, wp_imul, wp_iand, wp_ior, wp_ixor, wp_ishl, wp_ishr, wp_iushr, wp_irem, wp_ladd, wp_lsub, wp_lmul, wp_land, wp_lor, wp_lxor, wp_lshl, wp_lshr, wp_lushr, wp_lrem, wp_lcmp, wp_i2l, wp_l2i, wp_dupI, wp_dupA, wp_dup2J, wp_dup2IA, wp_popI, wp_popA, wp_pop2, wp_goto, wp_if_eq, wp_icmp_eq, wp_if_ne, wp_icmp_ne, wp_if_lt, wp_icmp_lt, wp_if_ge, wp_icmp_ge, wp_if_gt, wp_icmp_gt, wp_if_le, wp_icmp_le, wp_ifnull, wp_ifnonnull, wp_acmp_eq, wp_acmp_ne, wp_tableswitch, wp_get0, wp_put0, wp_get1, wp_put1, wp_get2, wp_put2, wp_get3, wp_put3, wp_new, wp_newarray, wp_anewarray, wp_alen, wp_iaload, wp_laload, wp_baload, wp_aaload, wp_iastore, wp_lastore, wp_bastore, wp_aastore, wp_return, wp_ireturnI, wp_ireturnZ, wp_lreturn, wp_areturnO, wp_areturnA, wp_max, wp_min, wp_obj, wp_virt, wp_nil, ld_I0, ld_Is, ld_J0, ld_Js, ld_A0, ld_As, ha_0, ha_s, cx_put1, cx_put2, cx_dl, cx_tgt, true_and, and_true, Nat.reduceAdd, Nat.reduceSub, Int.reduceAdd, Int.reduceNeg, Int.reduceToNat, Int.reduceSub, Int.cast_ofNat_Int, List.take_succ_cons, List.take_zero, List.drop_succ_cons, List.drop_zero, List.take_nil, List.drop_nil, Option.toList_some, Option.toList_none, List.cons_append, List.nil_append, wp_spec, ne_eq, Nat.reduceEqDiff, not_false_eq_true, true_or, or_true, wf_X3_mix, wf_X3_key, wf_X3_times, wf_X3_timesModuloQ, wf_X3_power, wf_X3_rest, wf_X3_secretOf, wf_X3_sealSum, wf_X3_sum, wf_X3_letterKey, wf_X3_nextOf, wf_X3_isOpen, wf_X3_veil, wf_X3_sealIsRight, cx_sz, cx_c2, cond_true, cond_false, Nat.reduceLeDiff, st, v1]
      rw [g_power_f, g_power_f, g_power_f, g_power_f]
      have eR : f_sum (f_common (cq_J g0 (x + 13) u) (cq_J g0 (x + 20) v)) (f_common (dV (cq_J g0 (x + 1) u) (cq_I g0 (x + 12) u)) (cq_J g0 (x + 14) v)) (f_common (dV (cq_J g0 (x + 1) u) (cq_I g0 (x + 12) u)) (cq_J g0 (x + 20) v)) (f_common (dV (cq_J g0 (x + 1) u) (cq_I g0 (x + 12) u)) (if k = 0 then Int64.ofInt 0 else cq_J g0 (x + 25) (61 * v + k))) = m_bnR (m_draw (cq_sI g0 x 63 (cq_I g x 63 + 1)) x u) x u v k (cq_J g0 (x + 20) v) := by
        have DD := draw_q (x := x) (u := u) (g := cq_sI g0 x 63 (cq_I g x 63 + 1))
        have j31 := (draw_31 (x := x) (u := u) (g := cq_sI g0 x 63 (cq_I g x 63 + 1))).1
        have i12 : cq_I (cq_sI g0 x 63 (cq_I g x 63 + 1)) (x + 12) u = cq_I g0 (x + 12) u := by rw [mm_sI, if_neg (fun z => by omega)]
        rw [i12, mm_JI] at j31
        unfold m_bnR
        rw [DD.J_ 13 u (by decide), DD.J_ 14 v (by decide), DD.J_ 25 _ (by decide), j31, mm_JI]
        by_cases z : k = 0
        · rw [if_pos z, if_pos z]
          have z0 : f_common (dV (cq_J g0 (x + 1) u) (cq_I g0 (x + 12) u)) (Int64.ofInt 0) = Int64.ofInt 0 := if_pos (Or.inl (by decide))
          rw [z0]
        · rw [if_neg z, if_neg z]
      rw [eR]
      clear eR
      refine cl_X5_drawSecret (Nat.le_of_ble_eq_true rfl) p2 (by omega) (by omega) (e_X5_draw2 hY G2 p2 (by omega) (fun h3 G3 k3 st3 w1 w2 ns3 => ?_))
      rw [f2u.dr] at k3
      rw [f2u.dr, f2u.sd, D1.i12, gJ1 1 u (by decide)] at w1 w2
      have k3' : ev (coD h2 (pe u) h2.1 (cq_I (m_draw g0 x u) (x + 12) u)) h3 := k3
      clear k3
      have D2 := draw_q (x := x) (u := u) (g := m_draw g0 x u)
      have F3 := fx_draw D2 F2 hu k3'
      have ev23 : ∀ d q, cq_s h2 d = q → q ≠ 99 → q ≠ 4 → cq_s h3 d = q ∧ cq_J h3 d = cq_J h2 d := fun d q w w1 w2 => ⟨k3'.s (by rw [coD_s]; exact w) w1, by rw [k3'.J (k0 := q) (by rw [coD_s]; exact w) w1, coD_J]⟩
      have t3 := ev23 h1.1 6 st (by decide) (by decide)
      have gc3 := G3.cs
      have f3u := F3.fu u hu.1 hu.2
      have f3v := F3.fu v hv.1 hv.2
      have p3 := f3u.s0
      have q3 := f3v.s0
      have gI2 : ∀ o j, 1 ≤ o → o ≠ 12 → cq_I (m_draw (m_draw g0 x u) x u) (x + o) j = cq_I g0 (x + o) j := fun o j h1 h2 => by rw [D2.I_ o j h1 (fun z => h2 z.1), gI1 o j h1 h2]
      have gJ2 : ∀ o j, 1 ≤ o → cq_J (m_draw (m_draw g0 x u) x u) (x + o) j = cq_J g0 (x + o) j := fun o j h1 => by rw [D2.J_ o j h1, gJ1 o j h1]
      obtain ⟨du3, edu3, sdu3, _⟩ := f3u.n1 (by rw [gI2 11 u (by decide) (by decide)]; exact hU)
      obtain ⟨dv3, edv3, sdv3, _⟩ := f3v.n1 (by rw [gI2 11 v (by decide) (by decide)]; exact hV)
      obtain ⟨nt, ent, snt⟩ := G3.g9_14 gc3 List.not_mem_nil
      refine bx_X10_beginSession_137 hY (pf2_ok hY) ?_
      simp only [wp_iconst, wp_bipush, wp_sipush, wp_ldc, wp_ldc2_w, wp_lconst0, wp_lconst1, wp_aconst_null, wp_iload_0, wp_istore_0, wp_iload_1, wp_istore_1, wp_iload_2, wp_istore_2, wp_iload_3, wp_istore_3, wp_iload, wp_istore, wp_lload_0, wp_lstore_0, wp_lload_1, wp_lstore_1, wp_lload_2, wp_lstore_2, wp_lload_3, wp_lstore_3, wp_lload, wp_lstore, wp_aload_0, wp_astore_0, wp_aload_1, wp_astore_1, wp_aload_2, wp_astore_2, wp_aload_3, wp_astore_3, wp_aload, wp_astore, wp_iinc, wp_iadd, wp_isub, wp_imul, wp_iand, wp_ior, wp_ixor, wp_ishl, wp_ishr, wp_iushr, wp_irem, wp_ladd, wp_lsub, wp_lmul, wp_land, wp_lor, wp_lxor, wp_lshl, wp_lshr, wp_lushr, wp_lrem, wp_lcmp, wp_i2l, wp_l2i, wp_dupI, wp_dupA, wp_dup2J, wp_dup2IA, wp_popI, wp_popA, wp_pop2, wp_goto, wp_if_eq, wp_icmp_eq, wp_if_ne, wp_icmp_ne, wp_if_lt, wp_icmp_lt, wp_if_ge, wp_icmp_ge, wp_if_gt, wp_icmp_gt, wp_if_le, wp_icmp_le, wp_ifnull, wp_ifnonnull, wp_acmp_eq, wp_acmp_ne, wp_tableswitch, wp_get0, wp_put0, wp_get1, wp_put1, wp_get2, wp_put2, wp_get3, wp_put3, wp_new, wp_newarray, wp_anewarray, wp_alen, wp_iaload, wp_laload, wp_baload, wp_aaload, wp_iastore, wp_lastore, wp_bastore, wp_aastore, wp_return, wp_ireturnI, wp_ireturnZ, wp_lreturn, wp_areturnO, wp_areturnA, wp_max, wp_min, wp_obj, wp_virt, wp_nil, ld_I0, ld_Is, ld_J0, ld_Js, ld_A0, ld_As, ha_0, ha_s, cx_put1, cx_put2, cx_dl, cx_tgt, true_and, and_true, Nat.reduceAdd, Nat.reduceSub, Int.reduceAdd, Int.reduceNeg, Int.reduceToNat, Int.reduceSub, Int.cast_ofNat_Int, List.take_succ_cons, List.take_zero, List.drop_succ_cons, List.drop_zero, List.take_nil, List.drop_nil, Option.toList_some, Option.toList_none, List.cons_append, List.nil_append, wp_spec, ne_eq, Nat.reduceEqDiff, not_false_eq_true, true_or, or_true, gc3, ent, p3, q3, edu3, edv3]
      refine cl_X10_firstPairs (Nat.le_of_ble_eq_true rfl) (by omega) (by omega) (e_X10_firstPairs hY G3 (fun b w => by cases w; exact sdu3) (fun b w => by cases w; exact sdv3) (fun b w => by cases w; exact t3.1) (fun b w => (ev23 b 6 (ev12 b 6 (ho7 b w) (by decide) (by decide)).1 (by decide) (by decide)).1) (fun b w => (ev23 b 6 (ev12 b 6 (ho6 b w).1 (by decide) (by decide)).1 (by decide) (by decide)).1) (fun h4 G4 k4 P4 ns4 nf4 => ?_))
      have s4 := P4.1
      have snt4 : cq_s h4 nt = 8 := k4.s snt (by decide)
      refine bx_X10_beginSession_161 hY (pf2_ok hY) ?_
      try simp only [wp_iconst, wp_bipush, wp_sipush, wp_ldc, wp_ldc2_w, wp_lconst0, wp_lconst1, wp_aconst_null, wp_iload_0, wp_istore_0, wp_iload_1, wp_istore_1, wp_iload_2, wp_istore_2, wp_iload_3, wp_istore_3, wp_iload, wp_istore, wp_lload_0, wp_lstore_0, wp_lload_1, wp_lstore_1, wp_lload_2, wp_lstore_2, wp_lload_3, wp_lstore_3, wp_lload, wp_lstore, wp_aload_0, wp_astore_0, wp_aload_1, wp_astore_1, wp_aload_2, wp_astore_2, wp_aload_3, wp_astore_3, wp_aload, wp_astore, wp_iinc, wp_iadd, wp_isub, wp_imul, wp_iand, wp_ior, wp_ixor, wp_ishl, wp_ishr, wp_iushr, wp_irem, wp_ladd, wp_lsub, wp_lmul, wp_land, wp_lor, wp_lxor, wp_lshl, wp_lshr, wp_lushr, wp_lrem, wp_lcmp, wp_i2l, wp_l2i, wp_dupI, wp_dupA, wp_dup2J, wp_dup2IA, wp_popI, wp_popA, wp_pop2, wp_goto, wp_if_eq, wp_icmp_eq, wp_if_ne, wp_icmp_ne, wp_if_lt, wp_icmp_lt, wp_if_ge, wp_icmp_ge, wp_if_gt, wp_icmp_gt, wp_if_le, wp_icmp_le, wp_ifnull, wp_ifnonnull, wp_acmp_eq, wp_acmp_ne, wp_tableswitch, wp_get0, wp_put0, wp_get1, wp_put1, wp_get2, wp_put2, wp_get3, wp_put3, wp_new, wp_newarray, wp_anewarray, wp_alen, wp_iaload, wp_laload, wp_baload, wp_aaload, wp_iastore, wp_lastore, wp_bastore, wp_aastore, wp_return, wp_ireturnI, wp_ireturnZ, wp_lreturn, wp_areturnO, wp_areturnA, wp_max, wp_min, wp_obj, wp_virt, wp_nil, ld_I0, ld_Is, ld_J0, ld_Js, ld_A0, ld_As, ha_0, ha_s, cx_put1, cx_put2, cx_dl, cx_tgt, true_and, and_true, Nat.reduceAdd, Nat.reduceSub, Int.reduceAdd, Int.reduceNeg, Int.reduceToNat, Int.reduceSub, Int.cast_ofNat_Int, List.take_succ_cons, List.take_zero, List.drop_succ_cons, List.drop_zero, List.take_nil, List.drop_nil, Option.toList_some, Option.toList_none, List.cons_append, List.nil_append, wp_spec, ne_eq, Nat.reduceEqDiff, not_false_eq_true, true_or, or_true]
      refine cl_X9_turnOf (Nat.le_of_ble_eq_true rfl) snt4 (by omega) (by omega) (e_X9_turnOf hY G4 snt4 s4 (fun f h5 G5 k5 TT => ?_))
      have s5 := TT.1
      have k45 := k4.trans k5
      have F5 := F3.ev k45
      have f5u := F5.fu u hu.1 hu.2
      have f5v := F5.fu v hv.1 hv.2
      have w12 : et h1 h2 := (et.coD p1).trans k2'.et
      have w23 : et h2 h3 := (et.coD p2).trans k3'.et
      have nt_ : noP (fun z => z ≠ 2) h4 h1.1 := (((noP_al G).dr G w12 ns2 (by rw [st]; decide)).dr G2 w23 ns3 (by rw [st3]; decide)).dr G3 k4.et ns4 (by rw [s4]; decide)
      have nr_ : noP (fun z => z = 2) h4 h2.1 := ((noP_al G2).dr G2 w23 ns3 (by rw [st3]; decide)).dr G3 k4.et ns4 (by rw [s4]; decide)
      have ff := TT.f (G4.al _ (Nat.le_refl _)) k5 P4 (fun r' y1 y2 => G4.ta (j := 1) y2 (own_9 (by decide)) y1)
      have fn4 := ff.new k5.et (fun r' y1 y2 => G4.ta (j := 1) y1 (own_9 (by decide)) y2) nt_
      have w14 : et h1 h4 := (w12.trans w23).trans k4.et
      have w15 : et h1 h5 := w14.trans k5.et
      have fn : cq_s h f = 99 := by rw [← hs1]; exact s99 w14 fn4
      have ff' : fpT h h5 nt f _ _ _ _ _ := ff.hh (by rw [fn, fn4])
      have nr5 : noP (fun z => z = 2) h5 h2.1 := nr_.to G4 TT k5.et (fun z => by
        have z5 := (k5.et.1 h3.1 (by rw [s4]; decide)).2
        rw [z5] at z
        rcases P4.2.2.2.2 with y | y
        · rw [y.2] at z; exact absurd z (by decide)
        · rw [y.2.1] at z; exact absurd z (by decide))
      have cA : ∀ j, cq_A h3 c j = cq_A h c j := fun j => by
        have nc : ¬ c = pe u := fun e => by have := G.cs; rw [e, p1] at this; exact absurd this (by decide)
        rw [k3'.A (k0 := 9) (by rw [coD_s]; exact G2.cs) rfl]
        unfold coD
        rw [mm_sA, if_neg (fun e => nc e.1), mm_AI, k2'.A (k0 := 9) (by rw [coD_s]; exact G.cs) rfl]
        unfold coD
        rw [mm_sA, if_neg (fun e => nc e.1), mm_AI, hA1]
      have pA : ∀ {d : Nat}, cq_s h1 d = 4 → cq_A h3 d 3 = cq_A h d 3 := fun {d} sd => by
        have sd2 : cq_s h2 d = 4 := k2'.s (by rw [coD_s]; exact sd) (by decide)
        rw [k3'.A (k0 := 4) (by rw [coD_s]; exact sd2) rfl]
        unfold coD
        rw [mm_sA, if_neg (fun e => absurd e.2 (by decide)), mm_AI, k2'.A (k0 := 4) (by rw [coD_s]; exact sd) rfl]
        unfold coD
        rw [mm_sA, if_neg (fun e => absurd e.2 (by decide)), mm_AI, hA1]
      have e2 : Z + 1 + 1 = Z + 2 := by omega
      rw [e2] at G5
      have t5 : cq_s h5 h1.1 = 6 := k45.s t3.1 (by decide)
      have r5 : cq_s h5 h2.1 = 6 := k45.s st3 (by decide)
      have jt5 : cq_J h5 h1.1 1 = dO (cq_J g0 (x + 1) u) (cq_I g0 (x + 12) u) := by rw [k45.J t3.1 (by decide), t3.2]; exact v2
      have jr50 : cq_J h5 h2.1 0 = dV (cq_J g0 (x + 1) u) (cq_I g0 (x + 12) u + 1) := by rw [k45.J st3 (by decide)]; exact w1
      have jr51 : cq_J h5 h2.1 1 = dO (cq_J g0 (x + 1) u) (cq_I g0 (x + 12) u + 1) := by rw [k45.J st3 (by decide)]; exact w2
      have lo5 : cq_J h5 (pe v) 5 = cq_J g0 (x + 20) v := by rw [f5v.lo, gJ2 20 v (by decide)]
      have ln5 : cq_I h5 (pe v) 4 = cq_I g0 (x + 16) v := by rw [f5v.ln, gI2 16 v (by decide) (by decide)]
      have bc5 := F5.fs.bc
      obtain ⟨x1, x2, x3, x4, x5⟩ := dd63 (x := x) (g0 := g0) (u := u) (V := cq_I g x 63 + 1)
      have r13 := F5.r13 u hu.1 hu.2
      refine cw_room (by omega) (by omega) (bs_x hY G5 hv f5u.s0 f5v.s0 t5 r5 s5 (fun b w => k45.s (ev23 b 6 (ev12 b 6 (ho7 b w) (by decide) (by decide)).1 (by decide) (by decide)).1 (by decide)) nr5 (by rw [bc5, x4, x63]; exact h63) r13.1 (F5.ra u v hu.1 hu.2 hv.1 hv.2) (fun m Gm km N QQ h' C eh => ?_))
      obtain ⟨qq, q7, q9, q14, qt, qn⟩ := QQ
      have wm : et h5 m := km.et
      rw [ln5, lo5, jr50, jt5] at N
      have Fm := F5.ev km
      have F6 := fx_begun (h' := cq_sI m c 4 (cq_I m c 4 + 1)) (g' := m_draw (m_draw (cq_sI g0 x 63 (cq_I g x 63 + 1)) x u) x u) Fm (by rw [x3, x4, x63]) x5 (fun o j h1 _ _ => x1 o j h1) (fun o j h1 _ _ => x2 o j h1) rfl
      -- the reference's memory behind the first draw
      have DD := draw_q (x := x) (u := u) (g := m_draw (cq_sI g0 x 63 (cq_I g x 63 + 1)) x u)
      have DC := draw_q (x := x) (u := u) (g := cq_sI g0 x 63 (cq_I g x 63 + 1))
      have c12 : cq_I (m_draw (cq_sI g0 x 63 (cq_I g x 63 + 1)) x u) (x + 12) u = cq_I g0 (x + 12) u + 1 := by rw [DC.i12, mm_sI, if_neg (fun z => by omega)]
      have c1 : cq_J (m_draw (cq_sI g0 x 63 (cq_I g x 63 + 1)) x u) (x + 1) u = cq_J g0 (x + 1) u := by rw [DC.J_ 1 u (by decide), mm_JI]
      have c16 : cq_I (m_draw (m_draw (cq_sI g0 x 63 (cq_I g x 63 + 1)) x u) x u) (x + 16) v = cq_I g0 (x + 16) v := by rw [x1 16 v (by decide), gI2 16 v (by decide) (by decide)]
      have c30 : ∀ j, cq_I (m_draw (cq_sI g0 x 63 (cq_I g x 63 + 1)) x u) (x + 30) j = cq_I g0 (x + 30) j := fun j => by rw [DC.I_ 30 j (by decide) (by omega), mm_sI, if_neg (fun z => by omega)]
      have r4 := (F1.fo u v hu.1 hu.2 hv.1 hv.2).r4
      have B := bn2_q (x := x) (g := m_draw (cq_sI g0 x 63 (cq_I g x 63 + 1)) x u) (u := u) (v := v) (k := k) (R := m_bnR (m_draw (cq_sI g0 x 63 (cq_I g x 63 + 1)) x u) x u v k (cq_J g0 (x + 20) v)) (ot := cq_J g0 (x + 20) v) (eO := cq_J (m_draw (cq_sI g0 x 63 (cq_I g x 63 + 1)) x u) x 32) (by rw [c30]; exact r4)
      have eO : cq_J (m_draw (cq_sI g0 x 63 (cq_I g x 63 + 1)) x u) x 32 = dO (cq_J g0 (x + 1) u) (cq_I g0 (x + 12) u) := by
        rw [(draw_31 (x := x) (u := u) (g := cq_sI g0 x 63 (cq_I g x 63 + 1))).2, mm_JI, mm_sI, if_neg (fun z => by omega)]
      rw [eO] at B hK'
      have hc' := Gm.cs
      have nch : ¬ h5.1 = c := fun z => by have := G5.lt G5.cs (by decide); omega
      have nch1 : ¬ h5.1 + 1 = c := fun z => by have := G5.lt G5.cs (by decide); omega
      -- the object's own counter tells nothing of the new SESSION
      have N' : NS h5.1 h2.1 (cq_I (m_draw (m_draw (cq_sI g0 x 63 (cq_I g x 63 + 1)) x u) x u) (x + 16) v) k (m_bnR (m_draw (cq_sI g0 x 63 (cq_I g x 63 + 1)) x u) x u v k (cq_J g0 (x + 20) v)) (f_common (dV (cq_J (m_draw (cq_sI g0 x 63 (cq_I g x 63 + 1)) x u) (x + 1) u) (cq_I (m_draw (cq_sI g0 x 63 (cq_I g x 63 + 1)) x u) (x + 12) u)) (cq_J g0 (x + 20) v)) (cq_J g0 (x + 20) v) (dO (cq_J g0 (x + 1) u) (cq_I g0 (x + 12) u)) (cq_sI m c 4 (cq_I m c 4 + 1)) := by
        rw [c16, c12, c1]
        have cI : ∀ {d : Nat} {j : Int}, ¬ d = c → cq_I (cq_sI m c 4 (cq_I m c 4 + 1)) d j = cq_I m d j := fun w => by rw [mm_sI, if_neg (fun z => w z.1)]
        exact ⟨N.s0, N.s1, N.a19, N.k0, N.k1, N.k2, by rw [cI nch]; exact N.i0, N.j2, by rw [cI nch]; exact N.i3, by rw [cI nch]; exact N.i4, by rw [cI nch]; exact N.i5, N.j6, N.j8, N.a9, N.a11, N.j10, N.a12, N.j13, by rw [cI nch]; exact N.i15, by rw [cI nch]; exact N.i16, by rw [cI nch]; exact N.i17, by rw [cI nch]; exact N.i18, by rw [cI nch1]; exact N.i4', N.k3⟩
      have i4m : cq_I m c 4 = cq_I h5 c 4 := by rw [km.I G5.cs rfl]
      have i4b := Gm.i9_4 hc'
      have jrm : cq_J m h2.1 = cq_J h5 h2.1 := km.J r5 (by decide)
      have G6 : CI c n L (Z + 2) E h0 [] (cq_sI m c 4 (cq_I m c 4 + 1)) := Gm.sI hc' (own_9 (by decide)) (le100 (by rw [i4m, bc5, x4, x63]) h63 i4b.1) rfl
      have s52 : cq_s m (ro u v + 1) = 182 := (Fm.fo u v hu.1 hu.2 hv.1 hv.2).s1
      have wh : et m h' := by
        rw [eh]
        have y := et.rw (a := h5.1) s52
        exact ⟨y.1, y.2.1, y.2.2⟩
      have sm : cq_s h' = cq_s m := by rw [eh]; rfl
      have Jm : cq_J h' = cq_J m := by rw [eh]; rfl
      have n5r : ¬ h5.1 = ro u v + 1 := fun e => by
        have := (F5.fo u v hu.1 hu.2 hv.1 hv.2).s1
        rw [← e, G5.al _ (Nat.le_refl _)] at this
        exact absurd this (by decide)
      have Am : cq_A h' h5.1 = cq_A m h5.1 := by rw [eh]; exact rwF_A n5r
      have n5r1 : ¬ h5.1 + 1 = ro u v + 1 := fun e => by
        have := (F5.fo u v hu.1 hu.2 hv.1 hv.2).s1
        rw [← e, G5.al _ (Nat.le_succ _)] at this
        exact absurd this (by decide)
      have Am1 : cq_A h' (h5.1 + 1) = cq_A m (h5.1 + 1) := by rw [eh]; exact rwF_A n5r1
      have bx : BX c pe T (fun q => if q = m_slotN (m_draw (cq_sI g0 x 63 (cq_I g x 63 + 1)) x u) x (6 * u + v) then h5.1 else T q) h h' u v k (m_slotN (m_draw (cq_sI g0 x 63 (cq_I g x 63 + 1)) x u) x (6 * u + v)) (cq_J g0 (x + 20) v) (cq_J g0 (x + 1) u) (cq_I g0 (x + 12) u) := by
        refine ⟨h5.1, h1.1, h2.1, f, qq, nt, du3, dv3, o6, o7, rfl, ⟨?_, ?_⟩, ⟨?_, ?_, ?_⟩, ⟨?_, ?_, ?_⟩, ⟨?_, ?_, ?_⟩, ?_, ⟨o6n, fun z => ?_⟩, ⟨(ff'.w wm).w wh, fn⟩, ⟨?_, ?_⟩, ⟨?_, ?_, ?_, ?_, ?_⟩, by rw [sm]; exact N.s1, by rw [Am1]; exact N.k3⟩
        · rw [← hs1]; exact s99 w15 (G5.al _ (Nat.le_refl _))
        · rw [sm]; exact N.s0
        · rw [← hs1]; exact G.al _ (Nat.le_refl _)
        · rw [sm]; exact km.s t5 (by decide)
        · rw [Jm, km.J t5 (by decide)]; exact jt5
        · rw [← hs1]; exact s99 w12 (G2.al _ (Nat.le_refl _))
        · rw [sm]; exact km.s r5 (by decide)
        · rw [Jm, km.J r5 (by decide)]; exact jr51
        · rw [← cA]; exact ent
        · rw [← pA p1]; exact edu3
        · rw [← pA q1]; exact edv3
        · rw [f1v.lo] at so7
          unfold soT at so7 ⊢
          rw [hs1, hJ1] at so7
          exact so7
        · rw [← hA1]
          have on := f1v.on
          exact o6b (by omega) (by omega)
        · exact (qt.h (by rw [qn]; exact (by rw [← hs1]; exact s99 w15 qn : cq_s h qq = 99).symm)).w wh
        · rw [← hs1]; exact s99 w15 qn
        · rw [Am]; exact q7
        · rw [Am]; exact q9
        · rw [Am]; exact N.a11
        · rw [Am]; exact N.a12
        · rw [Am]; exact q14
      refine hK' h' _ C (fx_enter (h' := h') F6 G6 hu hv DD B N' (fun u' v' i a1 a2 a3 a4 i0 i1 z => ?_) (show cq_s (cq_sI m c 4 (cq_I m c 4 + 1)) h2.1 = 6 from km.s r5 (by decide)) (by rw [mm_JI, jrm, c1, c12]; exact jr50) (by rw [mm_JI, jrm, c1, c12]; exact jr51) ?_) bx
      · have i29 : cq_I (m_draw (m_draw (cq_sI g0 x 63 (cq_I g x 63 + 1)) x u) x u) (x + 29) (4 * (6 * u' + v') + i) = cq_I (m_draw (m_draw g0 x u) x u) (x + 29) (4 * (6 * u' + v') + i) := x1 29 _ (by decide)
        rw [x1 30 _ (by decide)] at i1
        rw [i29] at z
        have := ((F5.fo u' v' a1 a2 a3 a4).ss i i0 i1).s0
        rw [z, G5.al h5.1 (Nat.le_refl _)] at this
        exact absurd this (by decide)
      · rw [eh]
        unfold rwF
        have ncr : ¬ ro u v = c := ns (F5.fo u v hu.1 hu.2 hv.1 hv.2).s0 G5.cs (by decide)
        rw [← i4m]
        have e1 : cq_I (cq_sI m c 4 (cq_I m c 4 + 1)) (ro u v) 1 = cq_I m (ro u v) 1 := by rw [mm_sI, if_neg (fun z => ncr z.1)]
        rw [e1]
        refine qext rfl rfl rfl (fun q r => ?_) (fun q r => rfl) (fun q r => rfl)
        simp only [mm_sI, rr_IA]
        by_cases y : q = c ∧ r = 4
        · rw [if_pos y, if_neg (fun z => ncr (z.1.symm.trans y.1)), if_pos y]
        · rw [if_neg y]
          by_cases y2 : q = ro u v ∧ r = 1
          · rw [if_pos y2, if_pos y2]
          · rw [if_neg y2, if_neg y2, if_neg y]
    refine cl_X5_onceKey (Nat.le_of_ble_eq_true rfl) q1 (by omega) (by omega) (e_X5_onceKey hY G q1 f1v.a9 (fun w => ?_) (fun w1 w2 => ?_))
    · rw [← o6a w]; exact c52
    · rw [← o6b w1 w2]; exact c52
  refine bx_X10_beginSession_0 hY (pf2_ok hY) ?_
  simp only [wp_iconst, wp_bipush, wp_sipush, wp_ldc, wp_ldc2_w, wp_lconst0, wp_lconst1, wp_aconst_null, wp_iload_0, wp_istore_0, wp_iload_1, wp_istore_1, wp_iload_2, wp_istore_2, wp_iload_3, wp_istore_3, wp_iload, wp_istore, wp_lload_0, wp_lstore_0, wp_lload_1, wp_lstore_1, wp_lload_2, wp_lstore_2, wp_lload_3, wp_lstore_3, wp_lload, wp_lstore, wp_aload_0, wp_astore_0, wp_aload_1, wp_astore_1, wp_aload_2, wp_astore_2, wp_aload_3, wp_astore_3, wp_aload, wp_astore, wp_iinc, wp_iadd, wp_isub, wp_imul, wp_iand, wp_ior, wp_ixor, wp_ishl, wp_ishr, wp_iushr, wp_irem, wp_ladd, wp_lsub, wp_lmul, wp_land, wp_lor, wp_lxor, wp_lshl, wp_lshr, wp_lushr, wp_lrem, wp_lcmp, wp_i2l, wp_l2i, wp_dupI, wp_dupA, wp_dup2J, wp_dup2IA, wp_popI, wp_popA, wp_pop2, wp_goto, wp_if_eq, wp_icmp_eq, wp_if_ne, wp_icmp_ne, wp_if_lt, wp_icmp_lt, wp_if_ge, wp_icmp_ge, wp_if_gt, wp_icmp_gt, wp_if_le, wp_icmp_le, wp_ifnull, wp_ifnonnull, wp_acmp_eq, wp_acmp_ne, wp_tableswitch, wp_get0, wp_put0, wp_get1, wp_put1, wp_get2, wp_put2, wp_get3, wp_put3, wp_new, wp_newarray, wp_anewarray, wp_alen, wp_iaload, wp_laload, wp_baload, wp_aaload, wp_iastore, wp_lastore, wp_bastore, wp_aastore, wp_return, wp_ireturnI, wp_ireturnZ, wp_lreturn, wp_areturnO, wp_areturnA, wp_max, wp_min, wp_obj, wp_virt, wp_nil, ld_I0, ld_Is, ld_J0, ld_Js, ld_A0, ld_As, ha_0, ha_s, cx_put1, cx_put2, cx_dl, cx_tgt, true_and, and_true, Nat.reduceAdd, Nat.reduceSub, Int.reduceAdd, Int.reduceNeg, Int.reduceToNat, Int.reduceSub, Int.cast_ofNat_Int, List.take_succ_cons, List.take_zero, List.drop_succ_cons, List.drop_zero, List.take_nil, List.drop_nil, Option.toList_some, Option.toList_none, List.cons_append, List.nil_append, wp_spec, ne_eq, Nat.reduceEqDiff, not_false_eq_true, true_or, or_true, hc]
  refine ⟨fun q100 => ?_, fun q => absurd q (by omega)⟩
  refine bx_X10_beginSession_12 hY (pf2_ok hY) ?_
  simp only [wp_iconst, wp_bipush, wp_sipush, wp_ldc, wp_ldc2_w, wp_lconst0, wp_lconst1, wp_aconst_null, wp_iload_0, wp_istore_0, wp_iload_1, wp_istore_1, wp_iload_2, wp_istore_2, wp_iload_3, wp_istore_3, wp_iload, wp_istore, wp_lload_0, wp_lstore_0, wp_lload_1, wp_lstore_1, wp_lload_2, wp_lstore_2, wp_lload_3, wp_lstore_3, wp_lload, wp_lstore, wp_aload_0, wp_astore_0, wp_aload_1, wp_astore_1, wp_aload_2, wp_astore_2, wp_aload_3, wp_astore_3, wp_aload, wp_astore, wp_iinc, wp_iadd, wp_isub, wp_imul, wp_iand, wp_ior, wp_ixor, wp_ishl, wp_ishr, wp_iushr, wp_irem, wp_ladd, wp_lsub, wp_lmul, wp_land, wp_lor, wp_lxor, wp_lshl, wp_lshr, wp_lushr, wp_lrem, wp_lcmp, wp_i2l, wp_l2i, wp_dupI, wp_dupA, wp_dup2J, wp_dup2IA, wp_popI, wp_popA, wp_pop2, wp_goto, wp_if_eq, wp_icmp_eq, wp_if_ne, wp_icmp_ne, wp_if_lt, wp_icmp_lt, wp_if_ge, wp_icmp_ge, wp_if_gt, wp_icmp_gt, wp_if_le, wp_icmp_le, wp_ifnull, wp_ifnonnull, wp_acmp_eq, wp_acmp_ne, wp_tableswitch, wp_get0, wp_put0, wp_get1, wp_put1, wp_get2, wp_put2, wp_get3, wp_put3, wp_new, wp_newarray, wp_anewarray, wp_alen, wp_iaload, wp_laload, wp_baload, wp_aaload, wp_iastore, wp_lastore, wp_bastore, wp_aastore, wp_return, wp_ireturnI, wp_ireturnZ, wp_lreturn, wp_areturnO, wp_areturnA, wp_max, wp_min, wp_obj, wp_virt, wp_nil, ld_I0, ld_Is, ld_J0, ld_Js, ld_A0, ld_As, ha_0, ha_s, cx_put1, cx_put2, cx_dl, cx_tgt, true_and, and_true, Nat.reduceAdd, Nat.reduceSub, Int.reduceAdd, Int.reduceNeg, Int.reduceToNat, Int.reduceSub, Int.cast_ofNat_Int, List.take_succ_cons, List.take_zero, List.drop_succ_cons, List.drop_zero, List.take_nil, List.drop_nil, Option.toList_some, Option.toList_none, List.cons_append, List.nil_append, wp_spec, ne_eq, Nat.reduceEqDiff, not_false_eq_true, true_or, or_true, hc, ep, spa, zpa, e, e', ra_105]
  refine ⟨by omega, by omega, ?_⟩
  have o60 := fv.o60
  have ot := fv.ot
  have on := fv.on
  refine cl_X5_takeOnce (Nat.le_of_ble_eq_true rfl) sq (by omega) (by omega) (e_X5_takeOnce hY H sq (fun w => ?_) (fun w m G em => ?_))
  · refine cont 0 h H (by rw [if_neg w]) (by rw [least]; unfold loC; rw [if_neg w]) (Or.inl rfl)
  · refine cont _ m G (by rw [if_pos w]; exact em) (by rw [least]; unfold loC; rw [if_pos w]) (Or.inr (by omega))
end
