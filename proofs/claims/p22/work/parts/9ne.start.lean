/-! the law, from its start, by value -/
section
variable {c x : Nat} {n w : Int} {pa lb tp rd en op ob : Nat} {q : Int → Nat} {g g' : cx_Q}
theorem CN.ex (F : CN c n w pa lb tp rd en op ob q g) (sc : cq_s g c = 9) (e : evx (fun _ => False) g g') (m : g.1 ≤ g'.1) (uq : uE q n g') (tn : ∃ nt, (cq_A g' c 14 = some nt ∧ cq_s g' nt = 8 ∧ cq_A g' nt 0 = none ∧ cq_I g' nt 4 ≠ 0) ∧ ∀ a, cq_s g' a = 8 → a ≠ nt → cq_I g' a 4 = 0 ∧ cq_I g' a 5 = 1000000 ∧ (cq_A g' a 0 ≠ none → ∀ j, cq_I g' (a + 1) j = 0)) : CN c n w pa lb tp rd en op ob q g' := by
  have eA := e.A sc rfl id
  refine ⟨by rw [e.I sc rfl id]; exact F.i0, ⟨by rw [eA]; exact F.a0.1, e.s F.a0.2 (by decide)⟩, ⟨by rw [eA]; exact F.a1.1, e.s F.a1.2 (by decide)⟩, ⟨by rw [eA]; exact F.a8.1, e.s F.a8.2 (by decide)⟩, ⟨by rw [eA]; exact F.a10.1, e.s F.a10.2 (by decide)⟩, ⟨by rw [eA]; exact F.a12.1, e.s F.a12.2 (by decide)⟩, ⟨by rw [eA]; exact F.a13.1, e.s F.a13.2 (by decide)⟩, ⟨by rw [e.A F.a13.2 rfl id]; exact F.ob_.1, e.s F.ob_.2 (by decide)⟩, ⟨fun u u0 u1 => ?_, F.us.2⟩, uq, tn⟩
  obtain ⟨r1, r2, r3⟩ := F.us.1 u u0 u1
  exact ⟨by rw [e.A F.a0.2 rfl id]; exact r1, r2.ex e id (fun _ z => z.elim), Nat.le_trans r3 m⟩
theorem fx_start (F : CN c n w pa lb tp rd en op ob q g) (sc : cq_s g c = 9) (hn : 2 ≤ n ∧ n ≤ 6) (R : ZR x n w 6 g) : FX c x n q (fun u v => q u + 7 + 2 * v.toNat) pa lb tp rd en op ob (fun _ => 0) (fun _ => 0) g g := by
  have x0 : ∀ j, j ≠ 0 → j ≠ 2 → cq_I g x j = 0 := fun j w1 w2 => by rw [R.x_, if_neg w1, if_neg w2]
  have I0 := R.I_
  have J0 := R.J_
  have pn := fun u u0 u1 => (F.us.1 u u0 u1).2.1
  refine ⟨⟨sc, F.a8.2, F.a10.2, F.a8.1, F.a10.1, by rw [F.i0, x0 72 (by decide) (by decide)], by rw [F.i0, x0 73 (by decide) (by decide)], by rw [F.i0, x0 63 (by decide) (by decide)], by rw [F.i0, x0 85 (by decide) (by decide)], by rw [F.i0, x0 84 (by decide) (by decide)], by rw [F.i0, x0 86 (by decide) (by decide)], by rw [F.i0, x0 68 (by decide) (by decide)], by rw [F.i0, x0 75 (by decide) (by decide)], fun k k0 k1 => ?_, fun k k0 k1 => ?_, fun k k0 k1 => ?_⟩, hn, by rw [R.x_, if_pos rfl], F.a0.1, F.a0.2, F.a1.1, F.a1.2, F.a12.1, F.a12.2, F.a13.1, F.a13.2, F.ob_.1, F.ob_.2, fun u u0 u1 => (F.us.1 u u0 u1).1, fun u u0 u1 => ⟨(pn u u0 u1).a13, (pn u u0 u1).s6⟩, fun u v u0 u1 v0 v1 => ((pn u u0 u1).rw_ v v0 v1).1, fun u u0 u1 => ?_, fun u v u0 u1 v0 v1 => ?_, by rw [x0 72 (by decide) (by decide)]; omega, fun l l0 l1 => ?_, fun l m l0 l1 l2 => ?_, fun u w u0 u1 w0 w1 ne => ?_, fun u v u' v' u0 u1 v0 v1 u0' u1' v0' v1' ne => ?_, fun u v u' v' i j u0 u1 v0 v1 u0' u1' v0' v1' i0 i1 => ?_⟩
  · rw [x0 68 (by decide) (by decide)] at k1; omega
  · rw [x0 75 (by decide) (by decide)] at k1; omega
  · rw [x0 68 (by decide) (by decide)] at k1; omega
  · have p := pn u u0 u1
    refine ⟨p.s0, p.s1, p.s2, p.s3, p.s4, p.s5, p.a8, p.a9, p.a10, p.a14, p.a15, by rw [p.Jv, R.sd u u0 (by omega)], by rw [p.I0, I0 12 u (by decide) (by decide)], fun _ => p.a3, fun z => absurd (I0 11 u (by decide) (by decide)) z, by rw [J0 21 u (by decide) (by decide)]; decide, by rw [p.I0, I0 16 u (by decide) (by decide)], by rw [I0 16 u (by decide) (by decide)]; decide, by rw [p.J0 5 (by decide), J0 20 u (by decide) (by decide)], by rw [p.J0 6 (by decide), J0 21 u (by decide) (by decide)], by rw [p.J0 7 (by decide), J0 22 u (by decide) (by decide)], fun k k0 k1 => ?_, by rw [p.I0, I0 23 u (by decide) (by decide)], by rw [I0 23 u (by decide) (by decide)]; decide, fun k k0 k1 => ?_, fun k k0 k1 => ?_, fun k k1 => p.i3 k, by rw [p.I0, I0 23 u (by decide) (by decide)]; decide, fun k k0 k1 => ?_, by rw [p.I0, I0 58 u (by decide) (by decide)], by rw [I0 58 u (by decide) (by decide)]; decide, fun k k0 k1 => ?_⟩
    · rw [I0 16 u (by decide) (by decide)] at k1; omega
    · rw [I0 23 u (by decide) (by decide)] at k1; omega
    · rw [I0 23 u (by decide) (by decide)] at k1; omega
    · rw [I0 23 u (by decide) (by decide)] at k1; omega
    · rw [I0 58 u (by decide) (by decide)] at k1; omega
  · obtain ⟨r1, r2, r3, r4⟩ := (pn u u0 u1).rw_ v v0 v1
    have e30 := I0 30 (6 * u + v) (by decide) (by decide)
    refine ⟨r2, r3, by rw [e30]; exact r4, by rw [e30]; decide, fun i i0 i1 => ?_, fun i i0 i1 => ?_, fun i j i0 i1 i2 => ?_, fun i i0 i1 => ?_⟩
    · rw [e30] at i1; omega
    · rw [e30] at i1; omega
    · rw [e30] at i2; omega
    · rw [e30] at i1; omega
  · rw [x0 72 (by decide) (by decide)] at l1; omega
  · rw [x0 72 (by decide) (by decide)] at l2; omega
  · rcases Int.lt_or_lt_of_ne ne with z | z
    · have := F.us.2 u w u0 z w1
      omega
    · have := F.us.2 w u w0 z u1
      omega
  · show q u + 7 + 2 * v.toNat ≠ q u' + 7 + 2 * v'.toNat
    by_cases e : u = u'
    · rw [e]
      omega
    · rcases Int.lt_or_lt_of_ne e with z | z
      · have := F.us.2 u u' u0 z u1'
        omega
      · have := F.us.2 u' u u0' z u1
        omega
  · rw [I0 30 (6 * u + v) (by decide) (by decide)] at i1; omega
theorem ts_start {E : Nat → Option Int} (hW : w_rg 3178) (b0 : -2147483648 ≤ w ∧ w < 2147483648) (F : CN c n w pa lb tp rd en op ob q g) (C : CT c E g [] g) (W : TW x g) (hn : 2 ≤ n ∧ n ≤ 6) (R : ZR x n w 6 g) : TS c x n q (fun _ => 0) (fun _ => 0) 0 g := by
  obtain ⟨nt, t0, tf⟩ := F.tn
  have I0 := R.I_
  have x10 : cq_I g x 10 = 0 := by rw [R.x_, if_neg (by decide), if_neg (by decide)]
  have x72 : cq_I g x 72 = 0 := by rw [R.x_, if_neg (by decide), if_neg (by decide)]
  have x2 : cq_I g x 2 = 1 := by rw [R.x_, if_neg (by decide), if_pos rfl]
  have no6 : ∀ d, cq_s g d ≠ 6 := fun d sd => by
    obtain ⟨p, m, sp, q1⟩ := C.2.2.2.2.2.2.2.2.2.2.2.1 d sd List.not_mem_nil
    obtain ⟨u, u0, u1, eu⟩ := F.uq p sp
    have ch := C.2.2.2.2.2.2.2.2.2.2.1 p sp
    obtain ⟨i, i1, _⟩ := inD_ch ch q1
    rw [← eu, (F.us.1 u u0 u1).2.1.I0] at i1
    exact absurd i1 (Nat.not_lt_zero _)
  have hk : ∀ {k : Int}, 0 ≤ k → k < cq_I g x 10 → False := fun {k} k0 k1 => by
    rw [x10] at k1
    omega
  have B : TB c x nt (fun _ => False) (fun _ => False) (fun _ => 0) (fun _ => 0) (fun _ => 0) (fun _ => 0) (2 * (0 : Int).toNat + 3) g g := by
    refine ⟨W, fun k k0 k1 => (hk k0 k1).elim, fun k _ k0 k1 _ _ _ => (hk k0 k1).elim, fun k _ k0 k1 _ _ _ => (hk k0 k1).elim, fun k k0 k1 => (hk k0 k1).elim, fun d _ s _ _ => absurd s (no6 d), fun d _ s _ => absurd s (no6 d), fun t e => absurd (show (0 : Nat) = 1 from e) (by decide), fun t e => (e rfl).elim, fun t q1 q2 => ?_, t0, fun _ z => z.elim, fun _ _ z => z.elim, fun _ z => z.elim, fun _ z => z.elim, fun _ _ z => z.elim, fun _ _ z => z.elim, fun a s _ na => tf a s na, fun _ _ _ _ z => z.elim, fun _ z => z.elim⟩
    rw [x2] at q2
    omega
  refine ⟨⟨nt, fun _ => False, fun _ => False, fun _ => 0, fun _ => 0, fun _ => 0, fun _ => 0, B, rfl, fun u u0 u1 _ => ⟨I0 16 u (by decide) (by decide), I0 23 u (by decide) (by decide), fun v _ _ => I0 30 (6 * u + v) (by decide) (by decide)⟩, fun u _ _ z => absurd (I0 11 u (by decide) (by decide)) z, fun u k _ _ k1 k2 => ?_, fun u k _ _ k1 k2 => ?_, fun u v i _ _ _ _ i0 i1 => ?_, fun l l0 l1 => ?_⟩, zAA_w hW hn.2 b0 (fun u u0 u1 => R.sd u u0 (by omega)), fun u u0 u1 => ?_, F.uq⟩
  · rw [I0 16 u (by decide) (by decide)] at k2
    omega
  · rw [I0 23 u (by decide) (by decide)] at k2
    omega
  · rw [I0 30 (6 * u + v) (by decide) (by decide)] at i1
    omega
  · rw [x72] at l1
    omega
  · have od : m_onceDir g x u = 0 := by
      unfold m_onceDir
      rw [I0 23 u (by decide) (by decide)]
      show m_oc (cq_I g (x + 27)) (61 * u) 0 1 0 = 0
      rw [m_oc]
    have e12 := I0 12 u (by decide) (by decide)
    exact ⟨fun _ => e12, by rw [e12, od]; decide, by rw [od]; decide⟩
end
section
variable {Y : cx_Y} {K : Option cx_V → cx_Q → Prop} {p : Nat} {N : Int} {h : cx_Q}
theorem fw_start (hY : cY Y) (hW : w_rg 3178) (hB : ∀ j, -2147483648 ≤ cq_I h p j ∧ cq_I h p j < 2147483648) (S : S0 p N h) (hN : 0 ≤ N ∧ N ≤ 386) (hK : ∀ h, K (some (.inl 1)) h) : cw Y mi_L_law K 0 [some (.inr (.inr (some p))), none, none, none] [] h 600000 7302249 := by
  have hp : cq_s h p = 98 ∧ cq_z h p = N := ⟨S.2.1, S.2.2.1⟩
  have np : p ≠ h.1 := by have := S.1; omega
  have hp1 : cq_s (cq_nw h 9 0) p = 98 ∧ cq_z (cq_nw h 9 0) p = N := ⟨(nw_o np).1.trans hp.1, (nw_o np).2.1.trans hp.2⟩
  have e1 : cq_I (cq_nw h 9 0) p = cq_I h p := (nw_o np).2.2.1
  have hi : ∀ j, cq_I (cq_nw h 9 0) h.1 j = 0 := fun j => by rw [nw_n.2.2.1]
  refine bx_L_law_0 hY (pf2_ok hY) ?_
  simp only [wp_iconst, wp_bipush, wp_sipush, wp_ldc, wp_ldc2_w, wp_lconst0, wp_lconst1, wp_aconst_null, wp_iload_0, wp_istore_0, wp_iload_1, wp_istore_1, wp_iload_2, wp_istore_2, wp_iload_3, wp_istore_3, wp_iload, wp_istore, wp_lload_0, wp_lstore_0, wp_lload_1, wp_lstore_1, wp_lload_2, wp_lstore_2, wp_lload_3, wp_lstore_3, wp_lload, wp_lstore, wp_aload_0, wp_astore_0, wp_aload_1, wp_astore_1, wp_aload_2, wp_astore_2, wp_aload_3, wp_astore_3, wp_aload, wp_astore, wp_iinc, wp_iadd, wp_isub, wp_imul, wp_iand, wp_ior, wp_ixor, wp_ishl, wp_ishr, wp_iushr, wp_irem, wp_ladd, wp_lsub, wp_lmul, wp_land, wp_lor, wp_lxor, wp_lshl, wp_lshr, wp_lushr, wp_lrem, wp_lcmp, wp_i2l, wp_l2i, wp_dupI, wp_dupA, wp_dup2J, wp_dup2IA, wp_popI, wp_popA, wp_pop2, wp_goto, wp_if_eq, wp_icmp_eq, wp_if_ne, wp_icmp_ne, wp_if_lt, wp_icmp_lt, wp_if_ge, wp_icmp_ge, wp_if_gt, wp_icmp_gt, wp_if_le, wp_icmp_le, wp_ifnull, wp_ifnonnull, wp_acmp_eq, wp_acmp_ne, wp_tableswitch, wp_get0, wp_put0, wp_get1, wp_put1, wp_get2, wp_put2, wp_get3, wp_put3, wp_new, wp_newarray, wp_anewarray, wp_alen, wp_iaload, wp_laload, wp_baload, wp_aaload, wp_iastore, wp_lastore, wp_bastore, wp_aastore, wp_return, wp_ireturnI, wp_ireturnZ, wp_lreturn, wp_areturnO, wp_areturnA, wp_max, wp_min, wp_obj, wp_virt, wp_nil, ld_I0, ld_Is, ld_J0, ld_Js, ld_A0, ld_As, ha_0, ha_s, cx_put1, cx_put2, cx_dl, cx_tgt, true_and, and_true, Nat.reduceAdd, Nat.reduceSub, Int.reduceAdd, Int.reduceNeg, Int.reduceToNat, Int.reduceSub, Int.cast_ofNat_Int, List.take_succ_cons, List.take_zero, List.drop_succ_cons, List.drop_zero, List.take_nil, List.drop_nil, Option.toList_some, Option.toList_none, List.cons_append, List.nil_append, wp_spec, ne_eq, Nat.reduceEqDiff, not_false_eq_true, true_or, or_true]
  (repeat' (with_reducible (first | refine And.intro ?_ ?_ | intro _)))
  all_goals (try omega)
  refine cl_L_cell (Nat.le_of_ble_eq_true rfl) (by decide) (by decide) (d_L_cell hY hp1 (by decide) ?_)
  rw [e1]
  refine bx_L_law_9 hY (pf2_ok hY) ?_
  simp only [wp_iconst, wp_bipush, wp_sipush, wp_ldc, wp_ldc2_w, wp_lconst0, wp_lconst1, wp_aconst_null, wp_iload_0, wp_istore_0, wp_iload_1, wp_istore_1, wp_iload_2, wp_istore_2, wp_iload_3, wp_istore_3, wp_iload, wp_istore, wp_lload_0, wp_lstore_0, wp_lload_1, wp_lstore_1, wp_lload_2, wp_lstore_2, wp_lload_3, wp_lstore_3, wp_lload, wp_lstore, wp_aload_0, wp_astore_0, wp_aload_1, wp_astore_1, wp_aload_2, wp_astore_2, wp_aload_3, wp_astore_3, wp_aload, wp_astore, wp_iinc, wp_iadd, wp_isub, wp_imul, wp_iand, wp_ior, wp_ixor, wp_ishl, wp_ishr, wp_iushr, wp_irem, wp_ladd, wp_lsub, wp_lmul, wp_land, wp_lor, wp_lxor, wp_lshl, wp_lshr, wp_lushr, wp_lrem, wp_lcmp, wp_i2l, wp_l2i, wp_dupI, wp_dupA, wp_dup2J, wp_dup2IA, wp_popI, wp_popA, wp_pop2, wp_goto, wp_if_eq, wp_icmp_eq, wp_if_ne, wp_icmp_ne, wp_if_lt, wp_icmp_lt, wp_if_ge, wp_icmp_ge, wp_if_gt, wp_icmp_gt, wp_if_le, wp_icmp_le, wp_ifnull, wp_ifnonnull, wp_acmp_eq, wp_acmp_ne, wp_tableswitch, wp_get0, wp_put0, wp_get1, wp_put1, wp_get2, wp_put2, wp_get3, wp_put3, wp_new, wp_newarray, wp_anewarray, wp_alen, wp_iaload, wp_laload, wp_baload, wp_aaload, wp_iastore, wp_lastore, wp_bastore, wp_aastore, wp_return, wp_ireturnI, wp_ireturnZ, wp_lreturn, wp_areturnO, wp_areturnA, wp_max, wp_min, wp_obj, wp_virt, wp_nil, ld_I0, ld_Is, ld_J0, ld_Js, ld_A0, ld_As, ha_0, ha_s, cx_put1, cx_put2, cx_dl, cx_tgt, true_and, and_true, Nat.reduceAdd, Nat.reduceSub, Int.reduceAdd, Int.reduceNeg, Int.reduceToNat, Int.reduceSub, Int.cast_ofNat_Int, List.take_succ_cons, List.take_zero, List.drop_succ_cons, List.drop_zero, List.take_nil, List.drop_nil, Option.toList_some, Option.toList_none, List.cons_append, List.nil_append, wp_spec, ne_eq, Nat.reduceEqDiff, not_false_eq_true, true_or, or_true]
  refine cl_L_cell (Nat.le_of_ble_eq_true rfl) (by decide) (by decide) (d_L_cell hY hp1 (by decide) ?_)
  rw [e1]
  refine bx_L_law_14 hY (pf2_ok hY) ?_
  simp only [wp_iconst, wp_bipush, wp_sipush, wp_ldc, wp_ldc2_w, wp_lconst0, wp_lconst1, wp_aconst_null, wp_iload_0, wp_istore_0, wp_iload_1, wp_istore_1, wp_iload_2, wp_istore_2, wp_iload_3, wp_istore_3, wp_iload, wp_istore, wp_lload_0, wp_lstore_0, wp_lload_1, wp_lstore_1, wp_lload_2, wp_lstore_2, wp_lload_3, wp_lstore_3, wp_lload, wp_lstore, wp_aload_0, wp_astore_0, wp_aload_1, wp_astore_1, wp_aload_2, wp_astore_2, wp_aload_3, wp_astore_3, wp_aload, wp_astore, wp_iinc, wp_iadd, wp_isub, wp_imul, wp_iand, wp_ior, wp_ixor, wp_ishl, wp_ishr, wp_iushr, wp_irem, wp_ladd, wp_lsub, wp_lmul, wp_land, wp_lor, wp_lxor, wp_lshl, wp_lshr, wp_lushr, wp_lrem, wp_lcmp, wp_i2l, wp_l2i, wp_dupI, wp_dupA, wp_dup2J, wp_dup2IA, wp_popI, wp_popA, wp_pop2, wp_goto, wp_if_eq, wp_icmp_eq, wp_if_ne, wp_icmp_ne, wp_if_lt, wp_icmp_lt, wp_if_ge, wp_icmp_ge, wp_if_gt, wp_icmp_gt, wp_if_le, wp_icmp_le, wp_ifnull, wp_ifnonnull, wp_acmp_eq, wp_acmp_ne, wp_tableswitch, wp_get0, wp_put0, wp_get1, wp_put1, wp_get2, wp_put2, wp_get3, wp_put3, wp_new, wp_newarray, wp_anewarray, wp_alen, wp_iaload, wp_laload, wp_baload, wp_aaload, wp_iastore, wp_lastore, wp_bastore, wp_aastore, wp_return, wp_ireturnI, wp_ireturnZ, wp_lreturn, wp_areturnO, wp_areturnA, wp_max, wp_min, wp_obj, wp_virt, wp_nil, ld_I0, ld_Is, ld_J0, ld_Js, ld_A0, ld_As, ha_0, ha_s, cx_put1, cx_put2, cx_dl, cx_tgt, true_and, and_true, Nat.reduceAdd, Nat.reduceSub, Int.reduceAdd, Int.reduceNeg, Int.reduceToNat, Int.reduceSub, Int.cast_ofNat_Int, List.take_succ_cons, List.take_zero, List.drop_succ_cons, List.drop_zero, List.take_nil, List.drop_nil, Option.toList_some, Option.toList_none, List.cons_append, List.nil_append, wp_spec, ne_eq, Nat.reduceEqDiff, not_false_eq_true, true_or, or_true]
  obtain ⟨a, ha⟩ : ∃ a, a = if 0 < N then cq_I h p 0 else 0 := ⟨_, rfl⟩
  obtain ⟨b, hb⟩ : ∃ b, b = if 1 < N then cq_I h p 1 else 0 := ⟨_, rfl⟩
  obtain ⟨n, hn⟩ : ∃ n, cn a = n := ⟨_, rfl⟩
  rw [← ha, ← hb]
  have H := S.CI (n := n) (E := E0)
  have h98 : ∀ a, cq_s h a = 98 ∨ cq_s h a = 99 := fun a => by
    by_cases z : a = p
    · rw [z]
      exact Or.inl S.2.1
    · exact Or.inr (S.2.2.2 a z)
  have hc0 : cq_s h h.1 = 99 := S.2.2.2 h.1 (fun z => np z.symm)
  have b0 : -2147483648 ≤ b ∧ b < 2147483648 := by
    rw [hb]
    split
    · exact hB 1
    · decide
  have hn6 : 2 ≤ n ∧ n ≤ 6 := by
    rw [← hn]
    unfold cn
    split
    · omega
    · split <;> omega
  refine cl_X10_init (Nat.le_of_ble_eq_true rfl) (by decide) (by decide) (e_X10_init hY hn H h98 hc0 hi ?_)
  intro g pa lb tp rd en op ob q G C
  have fp := G.fr.2 p (by rw [hp.1]; exact iR98)
  have hp2 : cq_s g p = 98 ∧ cq_z g p = N := ⟨fp.2.1.trans hp.1, fp.2.2.1.trans hp.2⟩
  have e2 : cq_I g p = cq_I h p := fp.2.2.2.1
  have hal := G.al g.1 (Nat.le_refl _)
  have np2 : p ≠ g.1 := fun e => by rw [← e, hp2.1] at hal; exact absurd hal (by decide)
  have hp3 : cq_s (cq_nw g 10 0) p = 98 ∧ cq_z (cq_nw g 10 0) p = N := ⟨(nw_o np2).1.trans hp2.1, (nw_o np2).2.1.trans hp2.2⟩
  have e3 : cq_I (cq_nw g 10 0) p = cq_I h p := (nw_o np2).2.2.1.trans e2
  refine bx_L_law_17 hY (pf2_ok hY) ?_
  simp only [wp_iconst, wp_bipush, wp_sipush, wp_ldc, wp_ldc2_w, wp_lconst0, wp_lconst1, wp_aconst_null, wp_iload_0, wp_istore_0, wp_iload_1, wp_istore_1, wp_iload_2, wp_istore_2, wp_iload_3, wp_istore_3, wp_iload, wp_istore, wp_lload_0, wp_lstore_0, wp_lload_1, wp_lstore_1, wp_lload_2, wp_lstore_2, wp_lload_3, wp_lstore_3, wp_lload, wp_lstore, wp_aload_0, wp_astore_0, wp_aload_1, wp_astore_1, wp_aload_2, wp_astore_2, wp_aload_3, wp_astore_3, wp_aload, wp_astore, wp_iinc, wp_iadd, wp_isub, wp_imul, wp_iand, wp_ior, wp_ixor, wp_ishl, wp_ishr, wp_iushr, wp_irem, wp_ladd, wp_lsub, wp_lmul, wp_land, wp_lor, wp_lxor, wp_lshl, wp_lshr, wp_lushr, wp_lrem, wp_lcmp, wp_i2l, wp_l2i, wp_dupI, wp_dupA, wp_dup2J, wp_dup2IA, wp_popI, wp_popA, wp_pop2, wp_goto, wp_if_eq, wp_icmp_eq, wp_if_ne, wp_icmp_ne, wp_if_lt, wp_icmp_lt, wp_if_ge, wp_icmp_ge, wp_if_gt, wp_icmp_gt, wp_if_le, wp_icmp_le, wp_ifnull, wp_ifnonnull, wp_acmp_eq, wp_acmp_ne, wp_tableswitch, wp_get0, wp_put0, wp_get1, wp_put1, wp_get2, wp_put2, wp_get3, wp_put3, wp_new, wp_newarray, wp_anewarray, wp_alen, wp_iaload, wp_laload, wp_baload, wp_aaload, wp_iastore, wp_lastore, wp_bastore, wp_aastore, wp_return, wp_ireturnI, wp_ireturnZ, wp_lreturn, wp_areturnO, wp_areturnA, wp_max, wp_min, wp_obj, wp_virt, wp_nil, ld_I0, ld_Is, ld_J0, ld_Js, ld_A0, ld_As, ha_0, ha_s, cx_put1, cx_put2, cx_dl, cx_tgt, true_and, and_true, Nat.reduceAdd, Nat.reduceSub, Int.reduceAdd, Int.reduceNeg, Int.reduceToNat, Int.reduceSub, Int.cast_ofNat_Int, List.take_succ_cons, List.take_zero, List.drop_succ_cons, List.drop_zero, List.take_nil, List.drop_nil, Option.toList_some, Option.toList_none, List.cons_append, List.nil_append, wp_spec, ne_eq, Nat.reduceEqDiff, not_false_eq_true, true_or, or_true]
  (repeat' (with_reducible (first | refine And.intro ?_ ?_ | intro _)))
  all_goals (try omega)
  refine cl_L_cell (Nat.le_of_ble_eq_true rfl) (by decide) (by decide) (d_L_cell hY hp3 (by decide) ?_)
  rw [e3, ← ha]
  refine bx_L_law_27 hY (pf2_ok hY) ?_
  simp only [wp_iconst, wp_bipush, wp_sipush, wp_ldc, wp_ldc2_w, wp_lconst0, wp_lconst1, wp_aconst_null, wp_iload_0, wp_istore_0, wp_iload_1, wp_istore_1, wp_iload_2, wp_istore_2, wp_iload_3, wp_istore_3, wp_iload, wp_istore, wp_lload_0, wp_lstore_0, wp_lload_1, wp_lstore_1, wp_lload_2, wp_lstore_2, wp_lload_3, wp_lstore_3, wp_lload, wp_lstore, wp_aload_0, wp_astore_0, wp_aload_1, wp_astore_1, wp_aload_2, wp_astore_2, wp_aload_3, wp_astore_3, wp_aload, wp_astore, wp_iinc, wp_iadd, wp_isub, wp_imul, wp_iand, wp_ior, wp_ixor, wp_ishl, wp_ishr, wp_iushr, wp_irem, wp_ladd, wp_lsub, wp_lmul, wp_land, wp_lor, wp_lxor, wp_lshl, wp_lshr, wp_lushr, wp_lrem, wp_lcmp, wp_i2l, wp_l2i, wp_dupI, wp_dupA, wp_dup2J, wp_dup2IA, wp_popI, wp_popA, wp_pop2, wp_goto, wp_if_eq, wp_icmp_eq, wp_if_ne, wp_icmp_ne, wp_if_lt, wp_icmp_lt, wp_if_ge, wp_icmp_ge, wp_if_gt, wp_icmp_gt, wp_if_le, wp_icmp_le, wp_ifnull, wp_ifnonnull, wp_acmp_eq, wp_acmp_ne, wp_tableswitch, wp_get0, wp_put0, wp_get1, wp_put1, wp_get2, wp_put2, wp_get3, wp_put3, wp_new, wp_newarray, wp_anewarray, wp_alen, wp_iaload, wp_laload, wp_baload, wp_aaload, wp_iastore, wp_lastore, wp_bastore, wp_aastore, wp_return, wp_ireturnI, wp_ireturnZ, wp_lreturn, wp_areturnO, wp_areturnA, wp_max, wp_min, wp_obj, wp_virt, wp_nil, ld_I0, ld_Is, ld_J0, ld_Js, ld_A0, ld_As, ha_0, ha_s, cx_put1, cx_put2, cx_dl, cx_tgt, true_and, and_true, Nat.reduceAdd, Nat.reduceSub, Int.reduceAdd, Int.reduceNeg, Int.reduceToNat, Int.reduceSub, Int.cast_ofNat_Int, List.take_succ_cons, List.take_zero, List.drop_succ_cons, List.drop_zero, List.take_nil, List.drop_nil, Option.toList_some, Option.toList_none, List.cons_append, List.nil_append, wp_spec, ne_eq, Nat.reduceEqDiff, not_false_eq_true, true_or, or_true]
  refine cl_L_cell (Nat.le_of_ble_eq_true rfl) (by decide) (by decide) (d_L_cell hY hp3 (by decide) ?_)
  rw [e3, ← hb]
  refine bx_L_law_32 hY (pf2_ok hY) ?_
  simp only [wp_iconst, wp_bipush, wp_sipush, wp_ldc, wp_ldc2_w, wp_lconst0, wp_lconst1, wp_aconst_null, wp_iload_0, wp_istore_0, wp_iload_1, wp_istore_1, wp_iload_2, wp_istore_2, wp_iload_3, wp_istore_3, wp_iload, wp_istore, wp_lload_0, wp_lstore_0, wp_lload_1, wp_lstore_1, wp_lload_2, wp_lstore_2, wp_lload_3, wp_lstore_3, wp_lload, wp_lstore, wp_aload_0, wp_astore_0, wp_aload_1, wp_astore_1, wp_aload_2, wp_astore_2, wp_aload_3, wp_astore_3, wp_aload, wp_astore, wp_iinc, wp_iadd, wp_isub, wp_imul, wp_iand, wp_ior, wp_ixor, wp_ishl, wp_ishr, wp_iushr, wp_irem, wp_ladd, wp_lsub, wp_lmul, wp_land, wp_lor, wp_lxor, wp_lshl, wp_lshr, wp_lushr, wp_lrem, wp_lcmp, wp_i2l, wp_l2i, wp_dupI, wp_dupA, wp_dup2J, wp_dup2IA, wp_popI, wp_popA, wp_pop2, wp_goto, wp_if_eq, wp_icmp_eq, wp_if_ne, wp_icmp_ne, wp_if_lt, wp_icmp_lt, wp_if_ge, wp_icmp_ge, wp_if_gt, wp_icmp_gt, wp_if_le, wp_icmp_le, wp_ifnull, wp_ifnonnull, wp_acmp_eq, wp_acmp_ne, wp_tableswitch, wp_get0, wp_put0, wp_get1, wp_put1, wp_get2, wp_put2, wp_get3, wp_put3, wp_new, wp_newarray, wp_anewarray, wp_alen, wp_iaload, wp_laload, wp_baload, wp_aaload, wp_iastore, wp_lastore, wp_bastore, wp_aastore, wp_return, wp_ireturnI, wp_ireturnZ, wp_lreturn, wp_areturnO, wp_areturnA, wp_max, wp_min, wp_obj, wp_virt, wp_nil, ld_I0, ld_Is, ld_J0, ld_Js, ld_A0, ld_As, ha_0, ha_s, cx_put1, cx_put2, cx_dl, cx_tgt, true_and, and_true, Nat.reduceAdd, Nat.reduceSub, Int.reduceAdd, Int.reduceNeg, Int.reduceToNat, Int.reduceSub, Int.cast_ofNat_Int, List.take_succ_cons, List.take_zero, List.drop_succ_cons, List.drop_zero, List.take_nil, List.drop_nil, Option.toList_some, Option.toList_none, List.cons_append, List.nil_append, wp_spec, ne_eq, Nat.reduceEqDiff, not_false_eq_true, true_or, or_true]
  have N0 : NJ g.1 g 0 0 (cq_nw g 10 0) := by
    refine ⟨⟨rfl, nw_n.1, fun q q1 q2 => absurd q1 (by omega), fun a w => nw_o (by omega), fun a w1 w2 => ?_, ?_, fun a w => ?_⟩, fun a w1 w2 => ?_⟩
    · have w2 : a < g.1 + 1 := w2
      omega
    · rw [nw_n.2.2.1]
      funext j
      split <;> rfl
    · have w : g.1 + 1 ≤ a := w
      rw [(nw_o (by omega)).1]
      exact G.al a (by omega)
    · have w2 : a < g.1 + 1 := w2
      omega
  refine cl_X11_init (Nat.le_of_ble_eq_true rfl) (by decide) (by decide) (d_X11_init hY N0 ?_)
  intro h0 g2 R A Zr
  rw [hn] at R Zr
  obtain ⟨H2, z2⟩ := G.aL rfl R.1.rS A
  refine bx_L_law_35 hY (pf2_ok hY) ?_
  simp only [wp_iconst, wp_bipush, wp_sipush, wp_ldc, wp_ldc2_w, wp_lconst0, wp_lconst1, wp_aconst_null, wp_iload_0, wp_istore_0, wp_iload_1, wp_istore_1, wp_iload_2, wp_istore_2, wp_iload_3, wp_istore_3, wp_iload, wp_istore, wp_lload_0, wp_lstore_0, wp_lload_1, wp_lstore_1, wp_lload_2, wp_lstore_2, wp_lload_3, wp_lstore_3, wp_lload, wp_lstore, wp_aload_0, wp_astore_0, wp_aload_1, wp_astore_1, wp_aload_2, wp_astore_2, wp_aload_3, wp_astore_3, wp_aload, wp_astore, wp_iinc, wp_iadd, wp_isub, wp_imul, wp_iand, wp_ior, wp_ixor, wp_ishl, wp_ishr, wp_iushr, wp_irem, wp_ladd, wp_lsub, wp_lmul, wp_land, wp_lor, wp_lxor, wp_lshl, wp_lshr, wp_lushr, wp_lrem, wp_lcmp, wp_i2l, wp_l2i, wp_dupI, wp_dupA, wp_dup2J, wp_dup2IA, wp_popI, wp_popA, wp_pop2, wp_goto, wp_if_eq, wp_icmp_eq, wp_if_ne, wp_icmp_ne, wp_if_lt, wp_icmp_lt, wp_if_ge, wp_icmp_ge, wp_if_gt, wp_icmp_gt, wp_if_le, wp_icmp_le, wp_ifnull, wp_ifnonnull, wp_acmp_eq, wp_acmp_ne, wp_tableswitch, wp_get0, wp_put0, wp_get1, wp_put1, wp_get2, wp_put2, wp_get3, wp_put3, wp_new, wp_newarray, wp_anewarray, wp_alen, wp_iaload, wp_laload, wp_baload, wp_aaload, wp_iastore, wp_lastore, wp_bastore, wp_aastore, wp_return, wp_ireturnI, wp_ireturnZ, wp_lreturn, wp_areturnO, wp_areturnA, wp_max, wp_min, wp_obj, wp_virt, wp_nil, ld_I0, ld_Is, ld_J0, ld_Js, ld_A0, ld_As, ha_0, ha_s, cx_put1, cx_put2, cx_dl, cx_tgt, true_and, and_true, Nat.reduceAdd, Nat.reduceSub, Int.reduceAdd, Int.reduceNeg, Int.reduceToNat, Int.reduceSub, Int.cast_ofNat_Int, List.take_succ_cons, List.take_zero, List.drop_succ_cons, List.drop_zero, List.take_nil, List.drop_nil, Option.toList_some, Option.toList_none, List.cons_append, List.nil_append, wp_spec, ne_eq, Nat.reduceEqDiff, not_false_eq_true, true_or, or_true]
  have lt : ∀ d, cq_s g d ≠ 99 → d < g.1 := fun d w => by
    by_cases z : g.1 ≤ d
    · exact absurd (G.al d z) w
    · omega
  have ex : evx (fun _ => False) g g2 := ⟨fun d w => ⟨(A.2.1 d (lt d w)).1, (A.2.1 d (lt d w)).2.1⟩, fun d w => (A.2.1 d (lt d (by rw [w]; decide))).2.2.2.1, fun d w _ => ⟨(A.2.1 d (lt d w)).2.2.2.1, fun _ => (A.2.1 d (lt d w)).2.2.1, fun _ => (A.2.1 d (lt d w)).2.2.2.2⟩⟩
  have l1 := A.1
  have ol : ∀ a, (cq_s g2 a = 4 ∨ cq_s g2 a = 8) → a < g.1 := fun a y => by
    by_cases y1 : a < g.1
    · exact y1
    · by_cases y2 : g2.1 ≤ a
      · rw [A.2.2 a y2] at y
        omega
      · have := R.1.rS.isR (a := a) (by omega)
        unfold isR at this
        omega
  have C2 := C.ex G.cs ex (by omega) (fun d sd => by
      rw [(A.2.1 d (ol d (Or.inl sd))).1] at sd
      exact C.uq d sd) (by
      obtain ⟨nt, ⟨y1, y2, y3, y4⟩, yf⟩ := C.tn
      have ln := lt nt (by rw [y2]; decide)
      have lc := lt h.1 (by rw [G.cs]; decide)
      refine ⟨nt, ⟨?_, ?_, ?_, ?_⟩, fun d sd nd => ?_⟩
      · rw [(A.2.1 _ lc).2.2.2.2]
        exact y1
      · rw [(A.2.1 _ ln).1]
        exact y2
      · rw [(A.2.1 _ ln).2.2.2.2]
        exact y3
      · rw [(A.2.1 _ ln).2.2.1]
        exact y4
      · have ld := ol d (Or.inr sd)
        rw [(A.2.1 _ ld).1] at sd
        obtain ⟨f1, f2, f3⟩ := yf d sd nd
        refine ⟨?_, ?_, fun y j => ?_⟩
        · rw [(A.2.1 _ ld).2.2.1]
          exact f1
        · rw [(A.2.1 _ ld).2.2.1]
          exact f2
        · rw [(A.2.1 _ ld).2.2.2.2] at y
          rcases G.ct.2.2.2.2.2.2.1 d sd List.not_mem_nil with z | ⟨_, _, _, _, _, z, _⟩
          · exact absurd z y
          · rw [(A.2.1 _ (lt (d + 1) (by rw [z]; decide))).2.2.1]
            exact f3 y j)
  have X : LG p h.1 g.1 n N q (fun u v => q u + 7 + 2 * v.toNat) pa lb tp rd en op ob 0 g2 := by
    have lp : p < g.1 := lt p (by rw [hp2.1]; decide)
    have ap := A.2.1 p lp
    exact ⟨0, EI h.1, 0, _, _, 0, _, _, H2, by decide, R.fr H2.fr, hn6, ⟨by decide, by decide⟩, fun _ => ⟨Int.le_refl 0, (by decide : (0 : Int) ≤ 20)⟩, fun _ _ => rfl, ⟨ap.1.trans hp2.1, ap.2.1.trans hp2.2⟩, fx_start C2 H2.cs hn6 Zr, by rw [Zr.x_, if_neg (by decide), if_neg (by decide)]; decide, ts_start hW b0 C2 H2.ct R.2.tw hn6 Zr⟩
  exact cw_room (by decide) (by decide) (fw_loop hY hN hK 64 0 g2 (by decide) (by decide) X)
end
