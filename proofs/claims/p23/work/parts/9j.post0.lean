/-! the class's object is made -/
section
variable {Y : cx_Y} {K : Option cx_V → cx_Q → Prop} {c : Nat} {n L Z : Int} {h0 : cx_Q} {h : cx_Q}
theorem CI.pm {E : Nat → Option Int} {X X' : List Nat} (H : CI c n L Z E h0 X h) (w : ∀ a, a ∈ X → a ∈ X') : CI c n L Z E h0 X' h := ⟨H.1, H.2.1, H.2.2.1, H.2.2.2.1, H.2.2.2.2.1, H.l6, H.l8, fun b hb => H.nn b (fun q => hb (w b q)), fun b hb => H.rw b (fun q => hb (w b q)), H.2.2.2.2.2.2.2.2.2⟩
/-- nobody has registered -/
def E0 : Nat → Option Int := fun _ => none
theorem kA.of {a : Nat} {h' : cx_Q} (p : kp c h h') (q : ∀ b r, cq_s h b ≠ 99 → b ≠ a → cq_A h' b r = cq_A h b r) : kA c a h h' := ⟨p.1.1, q, p.1.2.1⟩
/-- an object was made beside: its cells are new -/
theorem PI.ob {F : List Int} {g g' : cx_Q} {b s : Nat} {X : List Nat} {E : Nat → Option Int} (Q : PI c n L Z E h0 X h c 9 F g) (hb : cq_s g b = 99) (sb : cq_s g' b = s) (G : CI c n L Z E h0 (c :: X) g') (k : kA c b g g') : PI c n L Z E h0 X h c 9 F g' ∧ cq_s g' b = s := by
  have bh : cq_s h b = 99 := by
    by_cases q : cq_s h b = 99
    · exact q
    · have := Q.2.1.1 b q
      rw [hb] at this
      exact this.symm
  have nc : c ≠ b := fun e => by rw [← e, Q.2.2.1] at hb; exact absurd hb (by decide)
  refine ⟨⟨G, Q.2.1.nx bh k, k.s Q.2.2.1 (by decide), fun j hj => ?_⟩, sb⟩
  rw [k.2.1 c j (by rw [Q.2.2.1]; decide) nc]
  exact Q.2.2.2 j hj
theorem PI.sf {F : List Int} {g : cx_Q} {b : Nat} {j : Int} {X : List Nat} {E : Nat → Option Int} (Q : PI c n L Z E h0 X h c 9 F g) (sb : cq_s g b = tyA 9 j) (sp : spA 9 j = false) : PI c n L Z E h0 X h c 9 (j :: F) (cq_sA g c j (some b)) := by
  refine ⟨Q.1.sA Q.2.2.1 (own_9 (by decide)) (fun d q => by cases q; exact sb) (fun q => (nomatch q)) sp, Q.2.1.trans sA_k, Q.2.2.1, fun r hr => ?_⟩
  rw [mm_sA]
  by_cases e : r = j
  · rw [if_pos ⟨rfl, e⟩]; exact Option.some_ne_none _
  · rw [if_neg (fun q => e q.2)]
    rcases List.mem_cons.mp hr with q | q
    · exact absurd q e
    · exact Q.2.2.2 r q
/-- users 0 to i less 1 are there -/
def peo (g : cx_Q) (b : Nat) (i : Int) : Prop := (∀ j, 0 ≤ j → j < i → ∃ p, cq_A g b j = some p ∧ cq_s g p = 4) ∧ ∀ j k, 0 ≤ j → j < k → k < i → cq_A g b j ≠ cq_A g b k
theorem po_loop (hY : cY Y) {b : Nat} {v w : Int} {F : List Int} (hn : 2 ≤ n ∧ n ≤ 6) (hb9 : cq_s h b = 99) : ∀ (r : Nat) (i : Int) (g : cx_Q), 0 ≤ i → i + r = n → PI c n L Z E0 h0 [b] h c 9 F g → cq_s g b = 105 → cq_A g c 0 = some b → peo g b i → (∀ g', PI c n L Z E0 h0 [b] h c 9 F g' → cq_s g' b = 105 → cq_A g' c 0 = some b → peo g' b n → cw Y mi_X10_init K 122 [some (.inr (.inr (some c))), some (.inl v), some (.inl w), some (.inl n), some (.inl n)] [] g' 0 0) → cw Y mi_X10_init K 89 [some (.inr (.inr (some c))), some (.inl v), some (.inl w), some (.inl n), some (.inl i)] [] g (19 * r) (402 * r)
  | 0, i, g, h1, h2, Q, sb, e0, P, hK => by
    have e : i = n := by omega
    subst e
    refine bx_X10_init_89 hY (pf2_ok hY) ?_
    simp only [wp_iconst, wp_bipush, wp_sipush, wp_ldc, wp_ldc2_w, wp_lconst0, wp_lconst1, wp_aconst_null, wp_iload_0, wp_istore_0, wp_iload_1, wp_istore_1, wp_iload_2, wp_istore_2, wp_iload_3, wp_istore_3, wp_iload, wp_istore, wp_lload_0, wp_lstore_0, wp_lload_1, wp_lstore_1, wp_lload_2, wp_lstore_2, wp_lload_3, wp_lstore_3, wp_lload, wp_lstore, wp_aload_0, wp_astore_0, wp_aload_1, wp_astore_1, wp_aload_2, wp_astore_2, wp_aload_3, wp_astore_3, wp_aload, wp_astore, wp_iinc, wp_iadd, wp_isub, wp_imul, wp_iand, wp_ior, wp_ixor, wp_ishl, wp_ishr, wp_iushr, wp_irem, wp_ladd, wp_lsub, wp_lmul, wp_land, wp_lor, wp_lxor, wp_lshl, wp_lshr, wp_lushr, wp_lrem, wp_lcmp, wp_i2l, wp_l2i, wp_dupI, wp_dupA, wp_dup2J, wp_dup2IA, wp_popI, wp_popA, wp_pop2, wp_goto, wp_if_eq, wp_icmp_eq, wp_if_ne, wp_icmp_ne, wp_if_lt, wp_icmp_lt, wp_if_ge, wp_icmp_ge, wp_if_gt, wp_icmp_gt, wp_if_le, wp_icmp_le, wp_ifnull, wp_ifnonnull, wp_acmp_eq, wp_acmp_ne, wp_tableswitch, wp_get0, wp_put0, wp_get1, wp_put1, wp_get2, wp_put2, wp_get3, wp_put3, wp_new, wp_newarray, wp_anewarray, wp_alen, wp_iaload, wp_laload, wp_baload, wp_aaload, wp_iastore, wp_lastore, wp_bastore, wp_aastore, wp_return, wp_ireturnI, wp_ireturnZ, wp_lreturn, wp_areturnO, wp_areturnA, wp_max, wp_min, wp_obj, wp_virt, wp_nil, ld_I0, ld_Is, ld_J0, ld_Js, ld_A0, ld_As, ha_0, ha_s, cx_put1, cx_put2, cx_dl, cx_tgt, true_and, and_true, Nat.reduceAdd, Nat.reduceSub, Int.reduceAdd, Int.reduceNeg, Int.reduceToNat, Int.reduceSub, Int.cast_ofNat_Int, List.take_succ_cons, List.take_zero, List.drop_succ_cons, List.drop_zero, List.take_nil, List.drop_nil, Option.toList_some, Option.toList_none, List.cons_append, List.nil_append, wp_spec, ne_eq, Nat.reduceEqDiff, not_false_eq_true, true_or, or_true, wf_X3_mix, wf_X3_key, wf_X3_times, wf_X3_timesModuloQ, wf_X3_power, wf_X3_rest, wf_X3_secretOf, wf_X3_sealSum, wf_X3_sum, wf_X3_letterKey, wf_X3_nextOf, wf_X3_isOpen, wf_X3_veil, wf_X3_sealIsRight, cx_sz, cx_c2, cond_true, cond_false, Nat.reduceLeDiff]
    exact ⟨fun _ => hK g Q sb e0 P, fun q => absurd q (by omega)⟩
  | r + 1, i, g, h1, h2, Q, sb, e0, P, hK => by
    have hc := Q.2.2.1
    have hal := Q.1.al g.1 (Nat.le_refl _)
    have nb : b ≠ g.1 := fun e => by rw [← e, sb] at hal; exact absurd hal (by decide)
    have nc : c ≠ g.1 := fun e => by rw [← e, hc] at hal; exact absurd hal (by decide)
    have cb : c ≠ b := fun e => by rw [e, sb] at hc; exact absurd hc (by decide)
    refine bx_X10_init_89 hY (pf2_ok hY) ?_
    simp only [wp_iconst, wp_bipush, wp_sipush, wp_ldc, wp_ldc2_w, wp_lconst0, wp_lconst1, wp_aconst_null, wp_iload_0, wp_istore_0, wp_iload_1, wp_istore_1, wp_iload_2, wp_istore_2, wp_iload_3, wp_istore_3, wp_iload, wp_istore, wp_lload_0, wp_lstore_0, wp_lload_1, wp_lstore_1, wp_lload_2, wp_lstore_2, wp_lload_3, wp_lstore_3, wp_lload, wp_lstore, wp_aload_0, wp_astore_0, wp_aload_1, wp_astore_1, wp_aload_2, wp_astore_2, wp_aload_3, wp_astore_3, wp_aload, wp_astore, wp_iinc, wp_iadd, wp_isub, wp_imul, wp_iand, wp_ior, wp_ixor, wp_ishl, wp_ishr, wp_iushr, wp_irem, wp_ladd, wp_lsub, wp_lmul, wp_land, wp_lor, wp_lxor, wp_lshl, wp_lshr, wp_lushr, wp_lrem, wp_lcmp, wp_i2l, wp_l2i, wp_dupI, wp_dupA, wp_dup2J, wp_dup2IA, wp_popI, wp_popA, wp_pop2, wp_goto, wp_if_eq, wp_icmp_eq, wp_if_ne, wp_icmp_ne, wp_if_lt, wp_icmp_lt, wp_if_ge, wp_icmp_ge, wp_if_gt, wp_icmp_gt, wp_if_le, wp_icmp_le, wp_ifnull, wp_ifnonnull, wp_acmp_eq, wp_acmp_ne, wp_tableswitch, wp_get0, wp_put0, wp_get1, wp_put1, wp_get2, wp_put2, wp_get3, wp_put3, wp_new, wp_newarray, wp_anewarray, wp_alen, wp_iaload, wp_laload, wp_baload, wp_aaload, wp_iastore, wp_lastore, wp_bastore, wp_aastore, wp_return, wp_ireturnI, wp_ireturnZ, wp_lreturn, wp_areturnO, wp_areturnA, wp_max, wp_min, wp_obj, wp_virt, wp_nil, ld_I0, ld_Is, ld_J0, ld_Js, ld_A0, ld_As, ha_0, ha_s, cx_put1, cx_put2, cx_dl, cx_tgt, true_and, and_true, Nat.reduceAdd, Nat.reduceSub, Int.reduceAdd, Int.reduceNeg, Int.reduceToNat, Int.reduceSub, Int.cast_ofNat_Int, List.take_succ_cons, List.take_zero, List.drop_succ_cons, List.drop_zero, List.take_nil, List.drop_nil, Option.toList_some, Option.toList_none, List.cons_append, List.nil_append, wp_spec, ne_eq, Nat.reduceEqDiff, not_false_eq_true, true_or, or_true, wf_X3_mix, wf_X3_key, wf_X3_times, wf_X3_timesModuloQ, wf_X3_power, wf_X3_rest, wf_X3_secretOf, wf_X3_sealSum, wf_X3_sum, wf_X3_letterKey, wf_X3_nextOf, wf_X3_isOpen, wf_X3_veil, wf_X3_sealIsRight, cx_sz, cx_c2, cond_true, cond_false, Nat.reduceLeDiff, hc, e0]
    refine ⟨fun q => absurd q (by omega), fun _ => ⟨⟨by omega, by omega⟩, ?_⟩⟩
    have G := Q.1.nw (s := 4) (z := 0) True.intro (fun _ => rfl)
    have k1 : kA c g.1 g (cq_nw g 4 0) := nw_k hal hc
    refine cl_X5_init (Nat.le_of_ble_eq_true rfl) (by omega) (by omega) (c_X5_init hY hn G nw_n.1 ?_)
    intro g2 G2 k2
    have k3 := k1.trans k2
    obtain ⟨Q2, s4⟩ := Q.ob (b := g.1) (s := 4) hal (k2.s nw_n.1 (by decide)) G2 k3
    have sb2 : cq_s g2 b = 105 := k3.s sb (by decide)
    have zb : cq_z g2 b = n := G2.tz sb2
    have ob : ∀ j, cq_A g2 b j = cq_A g b j := fun j => k3.2.1 b j (by rw [sb]; decide) nb
    have G3 : CI c n L Z E0 h0 (c :: [b]) (cq_sA g2 b i (some g.1)) := by
      refine G2.sA sb2 (by unfold own; omega) (fun d q => ?_) (fun q => (nomatch q)) ?_
      · cases q
        rw [s4]
        rfl
      · unfold spA
        simp
    refine bx_X10_init_115 hY (pf2_ok hY) ?_
    simp only [wp_iconst, wp_bipush, wp_sipush, wp_ldc, wp_ldc2_w, wp_lconst0, wp_lconst1, wp_aconst_null, wp_iload_0, wp_istore_0, wp_iload_1, wp_istore_1, wp_iload_2, wp_istore_2, wp_iload_3, wp_istore_3, wp_iload, wp_istore, wp_lload_0, wp_lstore_0, wp_lload_1, wp_lstore_1, wp_lload_2, wp_lstore_2, wp_lload_3, wp_lstore_3, wp_lload, wp_lstore, wp_aload_0, wp_astore_0, wp_aload_1, wp_astore_1, wp_aload_2, wp_astore_2, wp_aload_3, wp_astore_3, wp_aload, wp_astore, wp_iinc, wp_iadd, wp_isub, wp_imul, wp_iand, wp_ior, wp_ixor, wp_ishl, wp_ishr, wp_iushr, wp_irem, wp_ladd, wp_lsub, wp_lmul, wp_land, wp_lor, wp_lxor, wp_lshl, wp_lshr, wp_lushr, wp_lrem, wp_lcmp, wp_i2l, wp_l2i, wp_dupI, wp_dupA, wp_dup2J, wp_dup2IA, wp_popI, wp_popA, wp_pop2, wp_goto, wp_if_eq, wp_icmp_eq, wp_if_ne, wp_icmp_ne, wp_if_lt, wp_icmp_lt, wp_if_ge, wp_icmp_ge, wp_if_gt, wp_icmp_gt, wp_if_le, wp_icmp_le, wp_ifnull, wp_ifnonnull, wp_acmp_eq, wp_acmp_ne, wp_tableswitch, wp_get0, wp_put0, wp_get1, wp_put1, wp_get2, wp_put2, wp_get3, wp_put3, wp_new, wp_newarray, wp_anewarray, wp_alen, wp_iaload, wp_laload, wp_baload, wp_aaload, wp_iastore, wp_lastore, wp_bastore, wp_aastore, wp_return, wp_ireturnI, wp_ireturnZ, wp_lreturn, wp_areturnO, wp_areturnA, wp_max, wp_min, wp_obj, wp_virt, wp_nil, ld_I0, ld_Is, ld_J0, ld_Js, ld_A0, ld_As, ha_0, ha_s, cx_put1, cx_put2, cx_dl, cx_tgt, true_and, and_true, Nat.reduceAdd, Nat.reduceSub, Int.reduceAdd, Int.reduceNeg, Int.reduceToNat, Int.reduceSub, Int.cast_ofNat_Int, List.take_succ_cons, List.take_zero, List.drop_succ_cons, List.drop_zero, List.take_nil, List.drop_nil, Option.toList_some, Option.toList_none, List.cons_append, List.nil_append, wp_spec, ne_eq, Nat.reduceEqDiff, not_false_eq_true, true_or, or_true, wf_X3_mix, wf_X3_key, wf_X3_times, wf_X3_timesModuloQ, wf_X3_power, wf_X3_rest, wf_X3_secretOf, wf_X3_sealSum, wf_X3_sum, wf_X3_letterKey, wf_X3_nextOf, wf_X3_isOpen, wf_X3_veil, wf_X3_sealIsRight, cx_sz, cx_c2, cond_true, cond_false, Nat.reduceLeDiff, sb2, s4, zb, cx_rg, ra_105]
    (repeat' (with_reducible (first | refine And.intro ?_ ?_ | intro _)))
    all_goals (try omega)
    · exact s4
    rw [show 19 * (r + 1) - 1 - 18 = 19 * r by omega, show 402 * (r + 1) - 17 - 385 = 402 * r by omega]
    have e0' : cq_A g2 c 0 = some b := (k3.2.1 c 0 (by rw [hc]; decide) nc).trans e0
    refine po_loop hY hn hb9 r (i + 1) _ (by omega) (by omega) ⟨G3, ?_, Q2.2.2.1, fun j hj => ?_⟩ sb2 ?_ ?_ hK
    · exact Q2.2.1.nx hb9 sA_k
    · rw [mm_sA, if_neg (fun e => cb e.1)]
      exact Q2.2.2.2 j hj
    · rw [mm_sA, if_neg (fun e => cb e.1)]
      exact e0'
    · refine ⟨fun j q1 q2 => ?_, fun j k q1 q2 q3 => ?_⟩
      · rw [mm_sA]
        by_cases e : j = i
        · rw [if_pos ⟨rfl, e⟩]
          exact ⟨g.1, rfl, s4⟩
        · rw [if_neg (fun q => e q.2), ob]
          obtain ⟨p, w1, w2⟩ := P.1 j q1 (by omega)
          exact ⟨p, w1, k3.s w2 (by decide)⟩
      · rw [mm_sA, if_neg (fun e => by omega), mm_sA, ob]
        by_cases e : k = i
        · rw [if_pos ⟨rfl, e⟩]
          obtain ⟨p, w1, w2⟩ := P.1 j q1 (by omega)
          rw [w1]
          intro q
          cases q
          rw [hal] at w2
          exact absurd w2 (by decide)
        · rw [if_neg (fun q => e q.2), ob]
          exact P.2 j k q1 q2 (by omega)
theorem c_X10_init (hY : cY Y) {v w : Int} (hn : cn v = n) (H : CI c n L Z E0 h0 [c] h) (hi : cq_I h c 2 = 0) (hK : ∀ h', CI c n L Z E0 h0 [] h' → (∃ b, cq_A h' c 0 = some b ∧ peo h' b n) → K none h') : cw Y mi_X10_init K 0 [some (.inr (.inr (some c))), some (.inl v), some (.inl w), none, none] [] h 125 2699 := by
  have hn6 : 2 ≤ n ∧ n ≤ 6 := by
    rw [← hn]
    unfold cn
    split
    · omega
    · split <;> omega
  have Q0 : PI c n L Z E0 h0 [] h c 9 [] h := ⟨H, kA.refl, H.cs, fun j q => (nomatch q)⟩
  refine bx_X10_init_0 hY (pf2_ok hY) ?_
  refine in_0 (by decide) ?_
  refine st_a Q0 ⟨own_9 (by decide), by decide⟩ rfl (by decide) (by decide) rfl (Or.inr (Or.inl ⟨rfl, rfl, hi⟩)) (by decide) (by decide) fun g1 Q1 => ?_
  refine st_b Q1 ⟨own_9 (by decide), by decide⟩ rfl (by decide) (by decide) rfl (Or.inl rfl) (by decide) (by decide) fun g2 Q2 => ?_
  refine st_b Q2 ⟨own_9 (by decide), by decide⟩ rfl (by decide) (by decide) rfl (Or.inl rfl) (by decide) (by decide) fun g3 Q3 => ?_
  simp only [wp_iconst, wp_bipush, wp_sipush, wp_ldc, wp_ldc2_w, wp_lconst0, wp_lconst1, wp_aconst_null, wp_iload_0, wp_istore_0, wp_iload_1, wp_istore_1, wp_iload_2, wp_istore_2, wp_iload_3, wp_istore_3, wp_iload, wp_istore, wp_lload_0, wp_lstore_0, wp_lload_1, wp_lstore_1, wp_lload_2, wp_lstore_2, wp_lload_3, wp_lstore_3, wp_lload, wp_lstore, wp_aload_0, wp_astore_0, wp_aload_1, wp_astore_1, wp_aload_2, wp_astore_2, wp_aload_3, wp_astore_3, wp_aload, wp_astore, wp_iinc, wp_iadd, wp_isub, wp_imul, wp_iand, wp_ior, wp_ixor, wp_ishl, wp_ishr, wp_iushr, wp_irem, wp_ladd, wp_lsub, wp_lmul, wp_land, wp_lor, wp_lxor, wp_lshl, wp_lshr, wp_lushr, wp_lrem, wp_lcmp, wp_i2l, wp_l2i, wp_dupI, wp_dupA, wp_dup2J, wp_dup2IA, wp_popI, wp_popA, wp_pop2, wp_goto, wp_if_eq, wp_icmp_eq, wp_if_ne, wp_icmp_ne, wp_if_lt, wp_icmp_lt, wp_if_ge, wp_icmp_ge, wp_if_gt, wp_icmp_gt, wp_if_le, wp_icmp_le, wp_ifnull, wp_ifnonnull, wp_acmp_eq, wp_acmp_ne, wp_tableswitch, wp_get0, wp_put0, wp_get1, wp_put1, wp_get2, wp_put2, wp_get3, wp_put3, wp_new, wp_newarray, wp_anewarray, wp_alen, wp_iaload, wp_laload, wp_baload, wp_aaload, wp_iastore, wp_lastore, wp_bastore, wp_aastore, wp_return, wp_ireturnI, wp_ireturnZ, wp_lreturn, wp_areturnO, wp_areturnA, wp_max, wp_min, wp_obj, wp_virt, wp_nil, ld_I0, ld_Is, ld_J0, ld_Js, ld_A0, ld_As, ha_0, ha_s, cx_put1, cx_put2, cx_dl, cx_tgt, true_and, and_true, Nat.reduceAdd, Nat.reduceSub, Int.reduceAdd, Int.reduceNeg, Int.reduceToNat, Int.reduceSub, Int.cast_ofNat_Int, List.take_succ_cons, List.take_zero, List.drop_succ_cons, List.drop_zero, List.take_nil, List.drop_nil, Option.toList_some, Option.toList_none, List.cons_append, List.nil_append, wp_spec, ne_eq, Nat.reduceEqDiff, not_false_eq_true, true_or, or_true, wf_X3_mix, wf_X3_key, wf_X3_times, wf_X3_timesModuloQ, wf_X3_power, wf_X3_rest, wf_X3_secretOf, wf_X3_sealSum, wf_X3_sum, wf_X3_letterKey, wf_X3_nextOf, wf_X3_isOpen, wf_X3_veil, wf_X3_sealIsRight, cx_sz, cx_c2, cond_true, cond_false, Nat.reduceLeDiff]
  have hal := Q3.1.al g3.1 (Nat.le_refl _)
  (repeat' (with_reducible (first | refine And.intro ?_ ?_ | intro _)))
  all_goals (try omega)
  have G := Q3.1.nw (s := 0) (z := 0) True.intro (fun q => absurd q (by decide))
  have k1 : kA c g3.1 g3 (cq_nw g3 0 0) := nw_k hal Q3.1.cs
  refine cl_X0_init (Nat.le_of_ble_eq_true rfl) (by decide) (by decide) (c_X0_init hY G nw_n.1 ?_)
  intro g4 G4 k4
  obtain ⟨Q4, s4⟩ := Q3.ob (b := g3.1) (s := 0) hal (k4.s nw_n.1 (by decide)) G4 (k1.trans k4)
  have Q5 := Q4.sf (b := g3.1) (j := 12) s4 rfl
  have c4 := Q4.2.2.1
  generalize g3.1 = b1 at *
  refine bx_X10_init_37 hY (pf2_ok hY) ?_
  simp only [wp_iconst, wp_bipush, wp_sipush, wp_ldc, wp_ldc2_w, wp_lconst0, wp_lconst1, wp_aconst_null, wp_iload_0, wp_istore_0, wp_iload_1, wp_istore_1, wp_iload_2, wp_istore_2, wp_iload_3, wp_istore_3, wp_iload, wp_istore, wp_lload_0, wp_lstore_0, wp_lload_1, wp_lstore_1, wp_lload_2, wp_lstore_2, wp_lload_3, wp_lstore_3, wp_lload, wp_lstore, wp_aload_0, wp_astore_0, wp_aload_1, wp_astore_1, wp_aload_2, wp_astore_2, wp_aload_3, wp_astore_3, wp_aload, wp_astore, wp_iinc, wp_iadd, wp_isub, wp_imul, wp_iand, wp_ior, wp_ixor, wp_ishl, wp_ishr, wp_iushr, wp_irem, wp_ladd, wp_lsub, wp_lmul, wp_land, wp_lor, wp_lxor, wp_lshl, wp_lshr, wp_lushr, wp_lrem, wp_lcmp, wp_i2l, wp_l2i, wp_dupI, wp_dupA, wp_dup2J, wp_dup2IA, wp_popI, wp_popA, wp_pop2, wp_goto, wp_if_eq, wp_icmp_eq, wp_if_ne, wp_icmp_ne, wp_if_lt, wp_icmp_lt, wp_if_ge, wp_icmp_ge, wp_if_gt, wp_icmp_gt, wp_if_le, wp_icmp_le, wp_ifnull, wp_ifnonnull, wp_acmp_eq, wp_acmp_ne, wp_tableswitch, wp_get0, wp_put0, wp_get1, wp_put1, wp_get2, wp_put2, wp_get3, wp_put3, wp_new, wp_newarray, wp_anewarray, wp_alen, wp_iaload, wp_laload, wp_baload, wp_aaload, wp_iastore, wp_lastore, wp_bastore, wp_aastore, wp_return, wp_ireturnI, wp_ireturnZ, wp_lreturn, wp_areturnO, wp_areturnA, wp_max, wp_min, wp_obj, wp_virt, wp_nil, ld_I0, ld_Is, ld_J0, ld_Js, ld_A0, ld_As, ha_0, ha_s, cx_put1, cx_put2, cx_dl, cx_tgt, true_and, and_true, Nat.reduceAdd, Nat.reduceSub, Int.reduceAdd, Int.reduceNeg, Int.reduceToNat, Int.reduceSub, Int.cast_ofNat_Int, List.take_succ_cons, List.take_zero, List.drop_succ_cons, List.drop_zero, List.take_nil, List.drop_nil, Option.toList_some, Option.toList_none, List.cons_append, List.nil_append, wp_spec, ne_eq, Nat.reduceEqDiff, not_false_eq_true, true_or, or_true, wf_X3_mix, wf_X3_key, wf_X3_times, wf_X3_timesModuloQ, wf_X3_power, wf_X3_rest, wf_X3_secretOf, wf_X3_sealSum, wf_X3_sum, wf_X3_letterKey, wf_X3_nextOf, wf_X3_isOpen, wf_X3_veil, wf_X3_sealIsRight, cx_sz, cx_c2, cond_true, cond_false, Nat.reduceLeDiff, c4]
  generalize cq_sA g4 c 12 (some b1) = g5 at Q5 ⊢
  clear Q4 s4 G4 k4 k1 G hal c4
  have hal := Q5.1.al g5.1 (Nat.le_refl _)
  (repeat' (with_reducible (first | refine And.intro ?_ ?_ | intro _)))
  all_goals (try omega)
  have G := Q5.1.nw (s := 3) (z := 0) True.intro (fun q => absurd q (by decide))
  have k1 : kA c g5.1 g5 (cq_nw g5 3 0) := nw_k hal Q5.1.cs
  refine cl_X4_init (Nat.le_of_ble_eq_true rfl) (by decide) (by decide) (c_X4_init hY G nw_n.1 ?_)
  intro g6 G6 k6
  obtain ⟨Q6, s6⟩ := Q5.ob (b := g5.1) (s := 3) hal (k6.s nw_n.1 (by decide)) G6 (k1.trans k6)
  have Q7 := Q6.sf (b := g5.1) (j := 13) s6 rfl
  have c6 := Q6.2.2.1
  generalize g5.1 = b2 at *
  refine bx_X10_init_48 hY (pf2_ok hY) ?_
  simp only [wp_iconst, wp_bipush, wp_sipush, wp_ldc, wp_ldc2_w, wp_lconst0, wp_lconst1, wp_aconst_null, wp_iload_0, wp_istore_0, wp_iload_1, wp_istore_1, wp_iload_2, wp_istore_2, wp_iload_3, wp_istore_3, wp_iload, wp_istore, wp_lload_0, wp_lstore_0, wp_lload_1, wp_lstore_1, wp_lload_2, wp_lstore_2, wp_lload_3, wp_lstore_3, wp_lload, wp_lstore, wp_aload_0, wp_astore_0, wp_aload_1, wp_astore_1, wp_aload_2, wp_astore_2, wp_aload_3, wp_astore_3, wp_aload, wp_astore, wp_iinc, wp_iadd, wp_isub, wp_imul, wp_iand, wp_ior, wp_ixor, wp_ishl, wp_ishr, wp_iushr, wp_irem, wp_ladd, wp_lsub, wp_lmul, wp_land, wp_lor, wp_lxor, wp_lshl, wp_lshr, wp_lushr, wp_lrem, wp_lcmp, wp_i2l, wp_l2i, wp_dupI, wp_dupA, wp_dup2J, wp_dup2IA, wp_popI, wp_popA, wp_pop2, wp_goto, wp_if_eq, wp_icmp_eq, wp_if_ne, wp_icmp_ne, wp_if_lt, wp_icmp_lt, wp_if_ge, wp_icmp_ge, wp_if_gt, wp_icmp_gt, wp_if_le, wp_icmp_le, wp_ifnull, wp_ifnonnull, wp_acmp_eq, wp_acmp_ne, wp_tableswitch, wp_get0, wp_put0, wp_get1, wp_put1, wp_get2, wp_put2, wp_get3, wp_put3, wp_new, wp_newarray, wp_anewarray, wp_alen, wp_iaload, wp_laload, wp_baload, wp_aaload, wp_iastore, wp_lastore, wp_bastore, wp_aastore, wp_return, wp_ireturnI, wp_ireturnZ, wp_lreturn, wp_areturnO, wp_areturnA, wp_max, wp_min, wp_obj, wp_virt, wp_nil, ld_I0, ld_Is, ld_J0, ld_Js, ld_A0, ld_As, ha_0, ha_s, cx_put1, cx_put2, cx_dl, cx_tgt, true_and, and_true, Nat.reduceAdd, Nat.reduceSub, Int.reduceAdd, Int.reduceNeg, Int.reduceToNat, Int.reduceSub, Int.cast_ofNat_Int, List.take_succ_cons, List.take_zero, List.drop_succ_cons, List.drop_zero, List.take_nil, List.drop_nil, Option.toList_some, Option.toList_none, List.cons_append, List.nil_append, wp_spec, ne_eq, Nat.reduceEqDiff, not_false_eq_true, true_or, or_true, wf_X3_mix, wf_X3_key, wf_X3_times, wf_X3_timesModuloQ, wf_X3_power, wf_X3_rest, wf_X3_secretOf, wf_X3_sealSum, wf_X3_sum, wf_X3_letterKey, wf_X3_nextOf, wf_X3_isOpen, wf_X3_veil, wf_X3_sealIsRight, cx_sz, cx_c2, cond_true, cond_false, Nat.reduceLeDiff, c6]
  generalize cq_sA g6 c 13 (some b2) = g7 at Q7 ⊢
  clear Q6 s6 G6 k6 k1 G hal c6
  have hal := Q7.1.al g7.1 (Nat.le_refl _)
  have G := Q7.1.nw (s := 8) (z := 0) True.intro (fun q => absurd q (by decide))
  have k1 : kA c g7.1 g7 (cq_nw g7 8 0) := nw_k hal Q7.1.cs
  have G' := G.new (s := 101) (z := 0) ⟨by decide, by decide⟩ (by decide) (by decide) (um (by decide))
  have hal1 := G.al (cq_nw g7 8 0).1 (Nat.le_refl _)
  have k2 : kA c g7.1 (cq_nw g7 8 0) (cq_nw (cq_nw g7 8 0) 101 0) := nw_k hal1 G.cs
  have st : cq_s (cq_nw (cq_nw g7 8 0) 101 0) g7.1 = 8 := k2.s nw_n.1 (by decide)
  have sp : cq_s (cq_nw (cq_nw g7 8 0) 101 0) (cq_nw g7 8 0).1 = 101 := nw_n.1
  (repeat' (with_reducible (first | refine And.intro ?_ ?_ | intro _)))
  all_goals (try omega)
  refine cl_X9_init (Nat.le_of_ble_eq_true rfl) (by decide) (by decide) (c_X9_init hY G' st (fun b q => (nomatch q)) sp ?_)
  intro g8 G8 kp8 o8
  have k8 : kA c g7.1 (cq_nw (cq_nw g7 8 0) 101 0) g8 := kA.of kp8 o8
  obtain ⟨Q8, s8⟩ := Q7.ob (b := g7.1) (s := 8) hal (k8.s st (by decide)) G8 ((k1.trans k2).trans k8)
  have Q9 := Q8.sf (b := g7.1) (j := 14) s8 rfl
  have c8 := Q8.2.2.1
  have e14 : cq_A (cq_sA g8 c 14 (some g7.1)) c 14 = some g7.1 := by rw [mm_sA, if_pos ⟨rfl, rfl⟩]
  have s8' : cq_s (cq_sA g8 c 14 (some g7.1)) g7.1 = 8 := s8
  generalize g7.1 = b3 at *
  refine bx_X10_init_64 hY (pf2_ok hY) ?_
  simp only [wp_iconst, wp_bipush, wp_sipush, wp_ldc, wp_ldc2_w, wp_lconst0, wp_lconst1, wp_aconst_null, wp_iload_0, wp_istore_0, wp_iload_1, wp_istore_1, wp_iload_2, wp_istore_2, wp_iload_3, wp_istore_3, wp_iload, wp_istore, wp_lload_0, wp_lstore_0, wp_lload_1, wp_lstore_1, wp_lload_2, wp_lstore_2, wp_lload_3, wp_lstore_3, wp_lload, wp_lstore, wp_aload_0, wp_astore_0, wp_aload_1, wp_astore_1, wp_aload_2, wp_astore_2, wp_aload_3, wp_astore_3, wp_aload, wp_astore, wp_iinc, wp_iadd, wp_isub, wp_imul, wp_iand, wp_ior, wp_ixor, wp_ishl, wp_ishr, wp_iushr, wp_irem, wp_ladd, wp_lsub, wp_lmul, wp_land, wp_lor, wp_lxor, wp_lshl, wp_lshr, wp_lushr, wp_lrem, wp_lcmp, wp_i2l, wp_l2i, wp_dupI, wp_dupA, wp_dup2J, wp_dup2IA, wp_popI, wp_popA, wp_pop2, wp_goto, wp_if_eq, wp_icmp_eq, wp_if_ne, wp_icmp_ne, wp_if_lt, wp_icmp_lt, wp_if_ge, wp_icmp_ge, wp_if_gt, wp_icmp_gt, wp_if_le, wp_icmp_le, wp_ifnull, wp_ifnonnull, wp_acmp_eq, wp_acmp_ne, wp_tableswitch, wp_get0, wp_put0, wp_get1, wp_put1, wp_get2, wp_put2, wp_get3, wp_put3, wp_new, wp_newarray, wp_anewarray, wp_alen, wp_iaload, wp_laload, wp_baload, wp_aaload, wp_iastore, wp_lastore, wp_bastore, wp_aastore, wp_return, wp_ireturnI, wp_ireturnZ, wp_lreturn, wp_areturnO, wp_areturnA, wp_max, wp_min, wp_obj, wp_virt, wp_nil, ld_I0, ld_Is, ld_J0, ld_Js, ld_A0, ld_As, ha_0, ha_s, cx_put1, cx_put2, cx_dl, cx_tgt, true_and, and_true, Nat.reduceAdd, Nat.reduceSub, Int.reduceAdd, Int.reduceNeg, Int.reduceToNat, Int.reduceSub, Int.cast_ofNat_Int, List.take_succ_cons, List.take_zero, List.drop_succ_cons, List.drop_zero, List.take_nil, List.drop_nil, Option.toList_some, Option.toList_none, List.cons_append, List.nil_append, wp_spec, ne_eq, Nat.reduceEqDiff, not_false_eq_true, true_or, or_true, wf_X3_mix, wf_X3_key, wf_X3_times, wf_X3_timesModuloQ, wf_X3_power, wf_X3_rest, wf_X3_secretOf, wf_X3_sealSum, wf_X3_sum, wf_X3_letterKey, wf_X3_nextOf, wf_X3_isOpen, wf_X3_veil, wf_X3_sealIsRight, cx_sz, cx_c2, cond_true, cond_false, Nat.reduceLeDiff, c8]
  generalize cq_sA g8 c 14 (some b3) = g9 at Q9 e14 s8' ⊢
  clear Q8 s8 G8 kp8 o8 k8 k2 sp st hal1 G' k1 G hal c8
  have em : (if 2 < if v < 6 then v else 6 then if v < 6 then v else 6 else 2) = n := by
    rw [← hn]
    unfold cn
    split <;> split <;> omega
  rw [em]
  have hc := Q9.2.2.1
  have hal := Q9.1.al g9.1 (Nat.le_refl _)
  have nc : c ≠ g9.1 := fun e => by rw [← e, hc] at hal; exact absurd hal (by decide)
  have G := (Q9.1.nw (s := 105) (z := n) rfl (fun q => absurd q (by decide))).pm (X' := [c, g9.1]) (fun a q => by simp at q ⊢; omega)
  have sc : cq_s (cq_nw g9 105 n) c = 9 := (nw_o (s := 105) (z := n) nc).1.trans hc
  have k9 : kA c g9.1 g9 (cq_nw g9 105 n) := nw_k hal Q9.1.cs
  have hb9 : cq_s h g9.1 = 99 := by
    by_cases q : cq_s h g9.1 = 99
    · exact q
    · have := Q9.2.1.1 g9.1 q
      rw [hal] at this
      exact this.symm
  have sb : cq_s (cq_nw g9 105 n) g9.1 = 105 := nw_n.1
  have QA : PI c n L Z E0 h0 [g9.1] h c 9 _ (cq_nw g9 105 n) := ⟨G, Q9.2.1.nx hb9 k9, sc, fun j hj => by rw [k9.2.1 c j (by rw [hc]; decide) nc]; exact Q9.2.2.2 j hj⟩
  have QB := QA.sf (b := g9.1) (j := 0) sb rfl
  refine ⟨⟨by omega, by omega, by omega⟩, sc, ?_⟩
  have e0 : cq_A (cq_sA (cq_nw g9 105 n) c 0 (some g9.1)) c 0 = some g9.1 := by rw [mm_sA, if_pos ⟨rfl, rfl⟩]
  refine cw_room (by omega) (by omega) (po_loop hY hn6 hb9 n.toNat 0 _ (by decide) (by omega) QB sb e0 ⟨fun j q1 q2 => absurd q1 (by omega), fun j k q1 q2 q3 => absurd q1 (by omega)⟩ ?_)
  clear QB QA k9 sc G nc hal hc
  generalize g9.1 = b at *
  intro g QC sb eb P
  have sg := QC.2.2.1
  have zb : cq_z g b = n := QC.1.tz sb
  have G1 : CI c n L Z E0 h0 [c] g := (QC.1.pm (X' := [b, c]) (fun a q => by simp at q ⊢; omega)).mk sb (fun j q => by
    obtain ⟨p, w1, _⟩ := P.1 j (by unfold muA at q; omega) (by unfold muA at q; omega)
    rw [w1]; exact Option.some_ne_none _) (fun q => absurd q (by decide))
  have G2 : CI c n L Z E0 h0 [] g := G1.mk sg (fun j q => by
    refine QC.2.2.2 j ?_
    have : j = 0 ∨ j = 1 ∨ j = 8 ∨ j = 10 ∨ j = 12 ∨ j = 13 ∨ j = 14 := by unfold muA at q; omega
    rcases this with rfl | rfl | rfl | rfl | rfl | rfl | rfl <;> decide) (fun q => absurd q (by decide))
  obtain ⟨t, et⟩ := Option.ne_none_iff_exists'.mp (QC.2.2.2 14 (by decide))
  have st : cq_s g t = 8 := G2.ta sg (own_9 (by decide)) et
  refine bx_X10_init_122 hY (pf2_ok hY) ?_
  simp only [wp_iconst, wp_bipush, wp_sipush, wp_ldc, wp_ldc2_w, wp_lconst0, wp_lconst1, wp_aconst_null, wp_iload_0, wp_istore_0, wp_iload_1, wp_istore_1, wp_iload_2, wp_istore_2, wp_iload_3, wp_istore_3, wp_iload, wp_istore, wp_lload_0, wp_lstore_0, wp_lload_1, wp_lstore_1, wp_lload_2, wp_lstore_2, wp_lload_3, wp_lstore_3, wp_lload, wp_lstore, wp_aload_0, wp_astore_0, wp_aload_1, wp_astore_1, wp_aload_2, wp_astore_2, wp_aload_3, wp_astore_3, wp_aload, wp_astore, wp_iinc, wp_iadd, wp_isub, wp_imul, wp_iand, wp_ior, wp_ixor, wp_ishl, wp_ishr, wp_iushr, wp_irem, wp_ladd, wp_lsub, wp_lmul, wp_land, wp_lor, wp_lxor, wp_lshl, wp_lshr, wp_lushr, wp_lrem, wp_lcmp, wp_i2l, wp_l2i, wp_dupI, wp_dupA, wp_dup2J, wp_dup2IA, wp_popI, wp_popA, wp_pop2, wp_goto, wp_if_eq, wp_icmp_eq, wp_if_ne, wp_icmp_ne, wp_if_lt, wp_icmp_lt, wp_if_ge, wp_icmp_ge, wp_if_gt, wp_icmp_gt, wp_if_le, wp_icmp_le, wp_ifnull, wp_ifnonnull, wp_acmp_eq, wp_acmp_ne, wp_tableswitch, wp_get0, wp_put0, wp_get1, wp_put1, wp_get2, wp_put2, wp_get3, wp_put3, wp_new, wp_newarray, wp_anewarray, wp_alen, wp_iaload, wp_laload, wp_baload, wp_aaload, wp_iastore, wp_lastore, wp_bastore, wp_aastore, wp_return, wp_ireturnI, wp_ireturnZ, wp_lreturn, wp_areturnO, wp_areturnA, wp_max, wp_min, wp_obj, wp_virt, wp_nil, ld_I0, ld_Is, ld_J0, ld_Js, ld_A0, ld_As, ha_0, ha_s, cx_put1, cx_put2, cx_dl, cx_tgt, true_and, and_true, Nat.reduceAdd, Nat.reduceSub, Int.reduceAdd, Int.reduceNeg, Int.reduceToNat, Int.reduceSub, Int.cast_ofNat_Int, List.take_succ_cons, List.take_zero, List.drop_succ_cons, List.drop_zero, List.take_nil, List.drop_nil, Option.toList_some, Option.toList_none, List.cons_append, List.nil_append, wp_spec, ne_eq, Nat.reduceEqDiff, not_false_eq_true, true_or, or_true, wf_X3_mix, wf_X3_key, wf_X3_times, wf_X3_timesModuloQ, wf_X3_power, wf_X3_rest, wf_X3_secretOf, wf_X3_sealSum, wf_X3_sum, wf_X3_letterKey, wf_X3_nextOf, wf_X3_isOpen, wf_X3_veil, wf_X3_sealIsRight, cx_sz, cx_c2, cond_true, cond_false, Nat.reduceLeDiff, sg, et]
  refine cl_X9_giveRoot (Nat.le_of_ble_eq_true rfl) st (Nat.le_refl _) (Nat.le_refl _) (c_X9_giveRoot hY G2 st ?_)
  intro g' G' k'
  refine bx_X10_init_129 hY (pf2_ok hY) ?_
  simp only [wp_iconst, wp_bipush, wp_sipush, wp_ldc, wp_ldc2_w, wp_lconst0, wp_lconst1, wp_aconst_null, wp_iload_0, wp_istore_0, wp_iload_1, wp_istore_1, wp_iload_2, wp_istore_2, wp_iload_3, wp_istore_3, wp_iload, wp_istore, wp_lload_0, wp_lstore_0, wp_lload_1, wp_lstore_1, wp_lload_2, wp_lstore_2, wp_lload_3, wp_lstore_3, wp_lload, wp_lstore, wp_aload_0, wp_astore_0, wp_aload_1, wp_astore_1, wp_aload_2, wp_astore_2, wp_aload_3, wp_astore_3, wp_aload, wp_astore, wp_iinc, wp_iadd, wp_isub, wp_imul, wp_iand, wp_ior, wp_ixor, wp_ishl, wp_ishr, wp_iushr, wp_irem, wp_ladd, wp_lsub, wp_lmul, wp_land, wp_lor, wp_lxor, wp_lshl, wp_lshr, wp_lushr, wp_lrem, wp_lcmp, wp_i2l, wp_l2i, wp_dupI, wp_dupA, wp_dup2J, wp_dup2IA, wp_popI, wp_popA, wp_pop2, wp_goto, wp_if_eq, wp_icmp_eq, wp_if_ne, wp_icmp_ne, wp_if_lt, wp_icmp_lt, wp_if_ge, wp_icmp_ge, wp_if_gt, wp_icmp_gt, wp_if_le, wp_icmp_le, wp_ifnull, wp_ifnonnull, wp_acmp_eq, wp_acmp_ne, wp_tableswitch, wp_get0, wp_put0, wp_get1, wp_put1, wp_get2, wp_put2, wp_get3, wp_put3, wp_new, wp_newarray, wp_anewarray, wp_alen, wp_iaload, wp_laload, wp_baload, wp_aaload, wp_iastore, wp_lastore, wp_bastore, wp_aastore, wp_return, wp_ireturnI, wp_ireturnZ, wp_lreturn, wp_areturnO, wp_areturnA, wp_max, wp_min, wp_obj, wp_virt, wp_nil, ld_I0, ld_Is, ld_J0, ld_Js, ld_A0, ld_As, ha_0, ha_s, cx_put1, cx_put2, cx_dl, cx_tgt, true_and, and_true, Nat.reduceAdd, Nat.reduceSub, Int.reduceAdd, Int.reduceNeg, Int.reduceToNat, Int.reduceSub, Int.cast_ofNat_Int, List.take_succ_cons, List.take_zero, List.drop_succ_cons, List.drop_zero, List.take_nil, List.drop_nil, Option.toList_some, Option.toList_none, List.cons_append, List.nil_append, wp_spec, ne_eq, Nat.reduceEqDiff, not_false_eq_true, true_or, or_true, wf_X3_mix, wf_X3_key, wf_X3_times, wf_X3_timesModuloQ, wf_X3_power, wf_X3_rest, wf_X3_secretOf, wf_X3_sealSum, wf_X3_sum, wf_X3_letterKey, wf_X3_nextOf, wf_X3_isOpen, wf_X3_veil, wf_X3_sealIsRight, cx_sz, cx_c2, cond_true, cond_false, Nat.reduceLeDiff]
  have eA : cq_A g' b = cq_A g b := k'.1.2.2.2.2 b sb
  refine hK g' G' ⟨b, ?_, fun j q1 q2 => ?_, fun j k q1 q2 q3 => ?_⟩
  · rw [k'.1.2.2.1]
    exact eb
  · obtain ⟨p, w1, w2⟩ := P.1 j q1 q2
    exact ⟨p, by rw [eA]; exact w1, k'.s w2 (by decide)⟩
  · rw [eA]
    exact P.2 j k q1 q2 q3
end
