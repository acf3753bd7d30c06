/-! the class's object is made: exactly -/
abbrev CTo : Type := Int × Nat × Nat
/-- its fields that are there: field, cell, sort -/
def CM (c : Nat) (l : List CTo) (g : cx_Q) : Prop := (∀ j, cq_I g c j = 0) ∧ (∀ t ∈ l, cq_A g c t.1 = some t.2.1 ∧ cq_s g t.2.1 = t.2.2 ∧ t.2.2 ≠ 99)
theorem CM.i0 {c : Nat} {l : List CTo} {g : cx_Q} (F_ : CM c l g) : ∀ j, cq_I g c j = 0 := F_.1
theorem CM.f_ {c : Nat} {l : List CTo} {g : cx_Q} (F_ : CM c l g) : ∀ t ∈ l, cq_A g c t.1 = some t.2.1 ∧ cq_s g t.2.1 = t.2.2 ∧ t.2.2 ≠ 99 := F_.2
section
variable {c : Nat} {l : List CTo} {g g' : cx_Q} {P : Nat → Prop}
theorem CM.ex (M : CM c l g) (sc : cq_s g c = 9) (e : evx P g g') (nc : ¬ P c) : CM c l g' := by
  refine ⟨fun j => by rw [e.I sc rfl nc]; exact M.i0 j, fun t ht => ?_⟩
  obtain ⟨q1, q2, q3⟩ := M.f_ t ht
  exact ⟨by rw [e.A sc rfl nc]; exact q1, e.s q2 q3, q3⟩
theorem CM.ev (M : CM c l g) (sc : cq_s g c = 9) (e : ev g g') : CM c l g' := M.ex (P := fun _ => False) sc e.x id
theorem CM.sf {b s : Nat} {f : Int} (M : CM c l g) (sb : cq_s g b = s) (s9 : s ≠ 99) (nf : ∀ t ∈ l, t.1 ≠ f) : CM c ((f, b, s) :: l) (cq_sA g c f (some b)) := by
  refine ⟨M.i0, fun t ht => ?_⟩
  rcases List.mem_cons.mp ht with e | e
  · rw [e]
    exact ⟨by rw [mm_sA, if_pos ⟨rfl, rfl⟩], sb, s9⟩
  · obtain ⟨q1, q2, q3⟩ := M.f_ t e
    exact ⟨by rw [mm_sA, if_neg (fun y => nf t e y.2)]; exact q1, q2, q3⟩
theorem CM.ar {t : Nat} {z f : Int} (M : CM c l g) (sc : cq_s g c = 9) (al : cq_s g g.1 = 99) (t9 : t ≠ 99) (nf : ∀ y ∈ l, y.1 ≠ f) : CM c ((f, g.1, t) :: l) (cq_sA (cq_nw g t z) c f (some g.1)) := (M.ev sc (ev.refl.nw al)).sf nw_n.1 t9 nf
end
section
variable {Y : cx_Y} {K : Option cx_V → cx_Q → Prop} {c : Nat} {n L Z : Int} {h0 : cx_Q} {h : cx_Q}
/-- users that are there: b their row, q their cells, w the seed -/
def USR (b : Nat) (n w i : Int) (q : Int → Nat) (g : cx_Q) : Prop := (∀ u, 0 ≤ u → u < i → cq_A g b u = some (q u) ∧ PN (q u) n (Int64.ofInt w + Int64.ofInt u) g ∧ q u + 7 + 2 * n.toNat ≤ g.1) ∧ ∀ u u', 0 ≤ u → u < u' → u' < i → q u + 7 + 2 * n.toNat ≤ q u'
/-- of which cells users are made; what was there is as it was -/
def UQ (g0 : cx_Q) (b : Nat) (i : Int) (q : Int → Nat) (g : cx_Q) : Prop := (∀ p, cq_s g p = 4 → ∃ u, 0 ≤ u ∧ u < i ∧ q u = p) ∧ (∀ p, cq_s g p = 8 → p < g0.1) ∧ (∀ d, d < g0.1 → d ≠ b → cq_s g d = cq_s g0 d ∧ cq_I g d = cq_I g0 d ∧ cq_A g d = cq_A g0 d) ∧ g0.1 ≤ g.1
theorem ex_po (hY : cY Y) {g0 : cx_Q} {b : Nat} {v w : Int} (hn : 2 ≤ n ∧ n ≤ 6) : ∀ (r : Nat) (i : Int) (g : cx_Q) (q : Int → Nat), 0 ≤ i → i + r = n → CI c n L Z (EI c) h0 [c, b] g → cq_s g b = 105 → cq_A g c 0 = some b → USR b n w i q g → UQ g0 b i q g → (∀ g' q', CI c n L Z (EI c) h0 [c, b] g' → evx (fun d => d = b) g g' → USR b n w n q' g' → UQ g0 b n q' g' → cw Y mi_X10_init K 122 [some (.inr (.inr (some c))), some (.inl v), some (.inl w), some (.inl n), some (.inl n)] [] g' 0 0) → cw Y mi_X10_init K 89 [some (.inr (.inr (some c))), some (.inl v), some (.inl w), some (.inl n), some (.inl i)] [] g (19 * r) (402 * r)
  | 0, i, g, q, h1, h2, H, sb, e0, S, Uq, hK => by
    have e : i = n := by omega
    subst e
    refine bx_X10_init_89 hY (pf2_ok hY) ?_
    simp only [wp_iconst, wp_bipush, wp_sipush, wp_ldc, wp_ldc2_w, wp_lconst0, wp_lconst1, wp_aconst_null, wp_iload_0, wp_istore_0, wp_iload_1, wp_istore_1, wp_iload_2, wp_istore_2, wp_iload_3, wp_istore_3, wp_iload, wp_istore, wp_lload_0, wp_lstore_0, wp_lload_1, wp_lstore_1, wp_lload_2, wp_lstore_2, wp_lload_3, wp_lstore_3, wp_lload, wp_lstore, wp_aload_0, wp_astore_0, wp_aload_1, wp_astore_1, wp_aload_2, wp_astore_2, wp_aload_3, wp_astore_3, wp_aload, wp_astore, wp_iinc, wp_iadd, wp_isub, wp_imul, wp_iand, wp_ior, wp_ixor, wp_ishl, wp_ishr, wp_iushr, wp_irem, wp_ladd, wp_lsub, wp_lmul, wp_land, wp_lor, wp_lxor, wp_lshl, wp_lshr, wp_lushr, wp_lrem, wp_lcmp, wp_i2l, wp_l2i, wp_dupI, wp_dupA, wp_dup2J, wp_dup2IA, wp_popI, wp_popA, wp_pop2, wp_goto, wp_if_eq, wp_icmp_eq, wp_if_ne, wp_icmp_ne, wp_if_lt, wp_icmp_lt, wp_if_ge, wp_icmp_ge, wp_if_gt, wp_icmp_gt, wp_if_le, wp_icmp_le, wp_ifnull, wp_ifnonnull, wp_acmp_eq, wp_acmp_ne, wp_tableswitch, wp_get0, wp_put0, wp_get1, wp_put1, wp_get2, wp_put2, wp_get3, wp_put3, wp_new, wp_newarray, wp_anewarray, wp_alen, wp_iaload, wp_laload, wp_baload, wp_aaload, wp_iastore, wp_lastore, wp_bastore, wp_aastore, wp_return, wp_ireturnI, wp_ireturnZ, wp_lreturn, wp_areturnO, wp_areturnA, wp_max, wp_min, wp_obj, wp_virt, wp_nil, ld_I0, ld_Is, ld_J0, ld_Js, ld_A0, ld_As, ha_0, ha_s, cx_put1, cx_put2, cx_dl, cx_tgt, true_and, and_true, Nat.reduceAdd, Nat.reduceSub, Int.reduceAdd, Int.reduceNeg, Int.reduceToNat, Int.reduceSub, Int.cast_ofNat_Int, List.take_succ_cons, List.take_zero, List.drop_succ_cons, List.drop_zero, List.take_nil, List.drop_nil, Option.toList_some, Option.toList_none, List.cons_append, List.nil_append, wp_spec, ne_eq, Nat.reduceEqDiff, not_false_eq_true, true_or, or_true, wf_X3_mix, wf_X3_key, wf_X3_times, wf_X3_timesModuloQ, wf_X3_power, wf_X3_rest, wf_X3_secretOf, wf_X3_sealSum, wf_X3_sum, wf_X3_letterKey, wf_X3_nextOf, wf_X3_isOpen, wf_X3_veil, wf_X3_sealIsRight, cx_sz, cx_c2, cond_true, cond_false, Nat.reduceLeDiff]
    exact ⟨fun _ => hK g q H evx.refl S Uq, fun q => absurd q (by omega)⟩
  | r + 1, i, g, q, h1, h2, H, sb, e0, S, Uq, hK => by
    have hc := H.cs
    have hal := H.al g.1 (Nat.le_refl _)
    have nb : b ≠ g.1 := fun e => by rw [← e, sb] at hal; exact absurd hal (by decide)
    have nc : c ≠ g.1 := fun e => by rw [← e, hc] at hal; exact absurd hal (by decide)
    have cb : c ≠ b := fun e => by rw [e, sb] at hc; exact absurd hc (by decide)
    refine bx_X10_init_89 hY (pf2_ok hY) ?_
    simp only [wp_iconst, wp_bipush, wp_sipush, wp_ldc, wp_ldc2_w, wp_lconst0, wp_lconst1, wp_aconst_null, wp_iload_0, wp_istore_0, wp_iload_1, wp_istore_1, wp_iload_2, wp_istore_2, wp_iload_3, wp_istore_3, wp_iload, wp_istore, wp_lload_0, wp_lstore_0, wp_lload_1, wp_lstore_1, wp_lload_2, wp_lstore_2, wp_lload_3, wp_lstore_3, wp_lload, wp_lstore, wp_aload_0, wp_astore_0, wp_aload_1, wp_astore_1, wp_aload_2, wp_astore_2, wp_aload_3, wp_astore_3, wp_aload, wp_astore, wp_iinc, wp_iadd, wp_isub, wp_imul, wp_iand, wp_ior, wp_ixor, wp_ishl, wp_ishr, wp_iushr, wp_irem, wp_ladd, wp_lsub, wp_lmul, wp_land, wp_lor, wp_lxor, wp_lshl, wp_lshr, wp_lushr, wp_lrem, wp_lcmp, wp_i2l, wp_l2i, wp_dupI, wp_dupA, wp_dup2J, wp_dup2IA, wp_popI, wp_popA, wp_pop2, wp_goto, wp_if_eq, wp_icmp_eq, wp_if_ne, wp_icmp_ne, wp_if_lt, wp_icmp_lt, wp_if_ge, wp_icmp_ge, wp_if_gt, wp_icmp_gt, wp_if_le, wp_icmp_le, wp_ifnull, wp_ifnonnull, wp_acmp_eq, wp_acmp_ne, wp_tableswitch, wp_get0, wp_put0, wp_get1, wp_put1, wp_get2, wp_put2, wp_get3, wp_put3, wp_new, wp_newarray, wp_anewarray, wp_alen, wp_iaload, wp_laload, wp_baload, wp_aaload, wp_iastore, wp_lastore, wp_bastore, wp_aastore, wp_return, wp_ireturnI, wp_ireturnZ, wp_lreturn, wp_areturnO, wp_areturnA, wp_max, wp_min, wp_obj, wp_virt, wp_nil, ld_I0, ld_Is, ld_J0, ld_Js, ld_A0, ld_As, ha_0, ha_s, cx_put1, cx_put2, cx_dl, cx_tgt, true_and, and_true, Nat.reduceAdd, Nat.reduceSub, Int.reduceAdd, Int.reduceNeg, Int.reduceToNat, Int.reduceSub, Int.cast_ofNat_Int, List.take_succ_cons, List.take_zero, List.drop_succ_cons, List.drop_zero, List.take_nil, List.drop_nil, Option.toList_some, Option.toList_none, List.cons_append, List.nil_append, wp_spec, ne_eq, Nat.reduceEqDiff, not_false_eq_true, true_or, or_true, wf_X3_mix, wf_X3_key, wf_X3_times, wf_X3_timesModuloQ, wf_X3_power, wf_X3_rest, wf_X3_secretOf, wf_X3_sealSum, wf_X3_sum, wf_X3_letterKey, wf_X3_nextOf, wf_X3_isOpen, wf_X3_veil, wf_X3_sealIsRight, cx_sz, cx_c2, cond_true, cond_false, Nat.reduceLeDiff, hc, e0]
    refine ⟨fun q => absurd q (by omega), fun _ => ⟨⟨by omega, by omega⟩, ?_⟩⟩
    have G := H.nw (s := 4) (z := 0) True.intro (fun _ => EI_n (fun e => nc e.symm)) (fun _ => EI_c)
    obtain ⟨t0, _, tI, tJ, tA⟩ := nw_n (h := g) (s := 4) (z := 0)
    refine cl_X5_init (Nat.le_of_ble_eq_true rfl) (by omega) (by omega) (e_X5_init hY hn G t0 rfl (fun j => by rw [tI]) (fun j => by rw [tJ]) (by rw [tA]) (by rw [tA]) (fun g2 G2 x2 N2 m2 lo => ?_))
    have xe : evx (fun _ => False) g g2 := (ev.refl.nw hal).x.tn x2 (fun d w1 w2 => by rw [w2] at w1; exact w1 hal)
    have sb2 : cq_s g2 b = 105 := xe.s sb (by decide)
    have zb : cq_z g2 b = n := G2.tz sb2
    have s4 := N2.s0
    have G3 : CI c n L Z (EI c) h0 [c, b] (cq_sA g2 b i (some g.1)) := by
      refine G2.sA sb2 (by unfold own; omega) (fun d q => ?_) (fun q => (nomatch q)) ?_
      · cases q
        rw [s4]
        rfl
      · first | rfl | (unfold spA rlA spA0; simp)
    refine bx_X10_init_115 hY (pf2_ok hY) ?_
    simp only [wp_iconst, wp_bipush, wp_sipush, wp_ldc, wp_ldc2_w, wp_lconst0, wp_lconst1, wp_aconst_null, wp_iload_0, wp_istore_0, wp_iload_1, wp_istore_1, wp_iload_2, wp_istore_2, wp_iload_3, wp_istore_3, wp_iload, wp_istore, wp_lload_0, wp_lstore_0, wp_lload_1, wp_lstore_1, wp_lload_2, wp_lstore_2, wp_lload_3, wp_lstore_3, wp_lload, wp_lstore, wp_aload_0, wp_astore_0, wp_aload_1, wp_astore_1, wp_aload_2, wp_astore_2, wp_aload_3, wp_astore_3, wp_aload, wp_astore, wp_iinc, wp_iadd, wp_isub, wp_imul, wp_iand, wp_ior, wp_ixor, wp_ishl, wp_ishr, wp_iushr, wp_irem, wp_ladd, wp_lsub, wp_lmul, wp_land, wp_lor, wp_lxor, wp_lshl, wp_lshr, wp_lushr, wp_lrem, wp_lcmp, wp_i2l, wp_l2i, wp_dupI, wp_dupA, wp_dup2J, wp_dup2IA, wp_popI, wp_popA, wp_pop2, wp_goto, wp_if_eq, wp_icmp_eq, wp_if_ne, wp_icmp_ne, wp_if_lt, wp_icmp_lt, wp_if_ge, wp_icmp_ge, wp_if_gt, wp_icmp_gt, wp_if_le, wp_icmp_le, wp_ifnull, wp_ifnonnull, wp_acmp_eq, wp_acmp_ne, wp_tableswitch, wp_get0, wp_put0, wp_get1, wp_put1, wp_get2, wp_put2, wp_get3, wp_put3, wp_new, wp_newarray, wp_anewarray, wp_alen, wp_iaload, wp_laload, wp_baload, wp_aaload, wp_iastore, wp_lastore, wp_bastore, wp_aastore, wp_return, wp_ireturnI, wp_ireturnZ, wp_lreturn, wp_areturnO, wp_areturnA, wp_max, wp_min, wp_obj, wp_virt, wp_nil, ld_I0, ld_Is, ld_J0, ld_Js, ld_A0, ld_As, ha_0, ha_s, cx_put1, cx_put2, cx_dl, cx_tgt, true_and, and_true, Nat.reduceAdd, Nat.reduceSub, Int.reduceAdd, Int.reduceNeg, Int.reduceToNat, Int.reduceSub, Int.cast_ofNat_Int, List.take_succ_cons, List.take_zero, List.drop_succ_cons, List.drop_zero, List.take_nil, List.drop_nil, Option.toList_some, Option.toList_none, List.cons_append, List.nil_append, wp_spec, ne_eq, Nat.reduceEqDiff, not_false_eq_true, true_or, or_true, wf_X3_mix, wf_X3_key, wf_X3_times, wf_X3_timesModuloQ, wf_X3_power, wf_X3_rest, wf_X3_secretOf, wf_X3_sealSum, wf_X3_sum, wf_X3_letterKey, wf_X3_nextOf, wf_X3_isOpen, wf_X3_veil, wf_X3_sealIsRight, cx_sz, cx_c2, cond_true, cond_false, Nat.reduceLeDiff, sb2, s4, zb, cx_rg, ra_105]
    (repeat' (with_reducible (first | refine And.intro ?_ ?_ | intro _)))
    all_goals (try omega)
    · exact s4
    rw [show 19 * (r + 1) - 1 - 18 = 19 * r by omega, show 402 * (r + 1) - 17 - 385 = 402 * r by omega]
    have xb : evx (fun d => d = b) g2 (cq_sA g2 b i (some g.1)) := evx.sA (P := fun d => d = b) evx.refl rfl
    have x3 : evx (fun d => d = b) g (cq_sA g2 b i (some g.1)) := (xe.mono (fun _ z => z.elim)).trans xb
    have e0' : cq_A (cq_sA g2 b i (some g.1)) c 0 = some b := by
      rw [mm_sA, if_neg (fun e => cb e.1), xe.A hc rfl id]
      exact e0
    have pb : ∀ d, d = b → cq_s g2 d = 9 ∨ cq_s g2 d = 105 ∨ cq_s g2 d = 4 := fun d z => by rw [z]; exact Or.inr (Or.inl sb2)
    obtain ⟨q2, hq1, hq2⟩ : ∃ q2 : Int → Nat, q2 i = g.1 ∧ ∀ u, u ≠ i → q2 u = q u := ⟨fun u => if u = i then g.1 else q u, if_pos rfl, fun u z => if_neg z⟩
    have lo2 : ∀ d, d < g.1 → cq_s g2 d = cq_s g d ∧ cq_I g2 d = cq_I g d ∧ cq_A g2 d = cq_A g d := fun d hd => by
      obtain ⟨l1, l2, l3⟩ := lo d hd
      have n1 := nw_o (h := g) (s := 4) (z := 0) (show d ≠ g.1 by omega)
      exact ⟨l1.trans n1.1, l2.trans n1.2.2.1, l3.trans n1.2.2.2.2⟩
    have new : ∀ p, g.1 < p → cq_s g2 p ≠ 4 ∧ cq_s g2 p ≠ 8 := fun p hp => by
      by_cases z : g2.1 ≤ p
      · rw [G2.al p z]
        exact ⟨by decide, by decide⟩
      · by_cases z7 : p < g.1 + 7
        · have : p = g.1 + 1 ∨ p = g.1 + 2 ∨ p = g.1 + 3 ∨ p = g.1 + 4 ∨ p = g.1 + 5 ∨ p = g.1 + 6 := by omega
          rcases this with y | y | y | y | y | y <;> rw [y]
          · rw [N2.s1]; exact ⟨by decide, by decide⟩
          · rw [N2.s2]; exact ⟨by decide, by decide⟩
          · rw [N2.s3]; exact ⟨by decide, by decide⟩
          · rw [N2.s4]; exact ⟨by decide, by decide⟩
          · rw [N2.s5]; exact ⟨by decide, by decide⟩
          · rw [N2.s6]; exact ⟨by decide, by decide⟩
        · obtain ⟨_, y2, y3, _⟩ := N2.rw_ (((p - (g.1 + 7)) / 2 : Nat) : Int) (by omega) (by omega)
          have et : (((p - (g.1 + 7)) / 2 : Nat) : Int).toNat = (p - (g.1 + 7)) / 2 := by omega
          rw [et] at y2 y3
          by_cases od : (p - (g.1 + 7)) % 2 = 0
          · have ep : g.1 + 7 + 2 * ((p - (g.1 + 7)) / 2) = p := by omega
            rw [ep] at y2
            rw [y2]
            exact ⟨by decide, by decide⟩
          · have ep : g.1 + 7 + 2 * ((p - (g.1 + 7)) / 2) + 1 = p := by omega
            rw [ep] at y3
            rw [y3]
            exact ⟨by decide, by decide⟩
    have lg := Uq.2.2.2
    have uq2 : UQ g0 b (i + 1) q2 (cq_sA g2 b i (some g.1)) := by
      refine ⟨fun p sp => ?_, fun p sp => ?_, fun d hd db => ?_, by show g0.1 ≤ g2.1; omega⟩
      · have sp' : cq_s g2 p = 4 := sp
        by_cases z : p < g.1
        · rw [(lo2 p z).1] at sp'
          obtain ⟨u, u0, u1, u2⟩ := Uq.1 p sp'
          exact ⟨u, u0, by omega, by rw [hq2 u (by omega)]; exact u2⟩
        · by_cases z' : p = g.1
          · exact ⟨i, h1, by omega, by rw [hq1, z']⟩
          · exact absurd sp' (new p (by omega)).1
      · have sp' : cq_s g2 p = 8 := sp
        by_cases z : p < g.1
        · rw [(lo2 p z).1] at sp'
          exact Uq.2.1 p sp'
        · by_cases z' : p = g.1
          · rw [z', s4] at sp'
            exact absurd sp' (by decide)
          · exact absurd sp' (new p (by omega)).2
      · obtain ⟨l1, l2, l3⟩ := lo2 d (by omega)
        obtain ⟨k1, k2, k3⟩ := Uq.2.2.1 d hd db
        refine ⟨l1.trans k1, l2.trans k2, ?_⟩
        funext j
        rw [mm_sA, if_neg (fun z => db z.1), l3, k3]
    refine ex_po hY hn r (i + 1) _ q2 (by omega) (by omega) G3 sb2 e0' ⟨fun u u0 u1 => ?_, fun u u' u0 u1 u2 => ?_⟩ uq2 (fun g' q' H' x' S' U' => hK g' q' H' (x3.trans x') S' U')
    · have m3 : (cq_sA g2 b i (some g.1)).1 = g2.1 := rfl
      by_cases e : u = i
      · rw [e, hq1]
        refine ⟨by rw [mm_sA, if_pos ⟨rfl, rfl⟩], N2.ex xb (fun z => nb z.symm) pb, ?_⟩
        rw [m3, m2]
        exact Nat.le_refl _
      · rw [hq2 u e]
        obtain ⟨r1, r2, r3⟩ := S.1 u u0 (by omega)
        have nq : ¬ q u = b := fun z => by
          have := r2.s0
          rw [z, sb] at this
          exact absurd this (by decide)
        refine ⟨?_, (r2.ex xe id (fun _ z => z.elim)).ex xb nq pb, ?_⟩
        · rw [mm_sA, if_neg (fun y => e y.2), xe.A sb rfl id]
          exact r1
        · rw [m3, m2]
          omega
    · have nu : ¬ u = i := by omega
      rw [hq2 u nu]
      by_cases e : u' = i
      · rw [e, hq1]
        exact (S.1 u u0 (by omega)).2.2
      · rw [hq2 u' e]
        exact S.2 u u' u0 u1 (by omega)
/-- the object as it is made -/
def CN (c : Nat) (n w : Int) (pa lb tp rd en op ob : Nat) (q : Int → Nat) (g : cx_Q) : Prop := (∀ j, cq_I g c j = 0) ∧ (cq_A g c 0 = some pa ∧ cq_s g pa = 105) ∧ (cq_A g c 1 = some lb ∧ cq_s g lb = 102) ∧ (cq_A g c 8 = some tp ∧ cq_s g tp = 103) ∧ (cq_A g c 10 = some rd ∧ cq_s g rd = 104) ∧ (cq_A g c 12 = some en ∧ cq_s g en = 0) ∧ (cq_A g c 13 = some op ∧ cq_s g op = 3) ∧ (cq_A g op 0 = some ob ∧ cq_s g ob = 175) ∧ (USR pa n w n q g) ∧ (uE q n g) ∧ (∃ nt, (cq_A g c 14 = some nt ∧ cq_s g nt = 8 ∧ cq_A g nt 0 = none ∧ cq_I g nt 4 ≠ 0) ∧ ∀ a, cq_s g a = 8 → a ≠ nt → cq_I g a 4 = 0 ∧ cq_I g a 5 = 1000000 ∧ (cq_A g a 0 ≠ none → ∀ j, cq_I g (a + 1) j = 0))
theorem CN.i0 {c : Nat} {n w : Int} {pa lb tp rd en op ob : Nat} {q : Int → Nat} {g : cx_Q} (F_ : CN c n w pa lb tp rd en op ob q g) : ∀ j, cq_I g c j = 0 := F_.1
theorem CN.a0 {c : Nat} {n w : Int} {pa lb tp rd en op ob : Nat} {q : Int → Nat} {g : cx_Q} (F_ : CN c n w pa lb tp rd en op ob q g) : cq_A g c 0 = some pa ∧ cq_s g pa = 105 := F_.2.1
theorem CN.a1 {c : Nat} {n w : Int} {pa lb tp rd en op ob : Nat} {q : Int → Nat} {g : cx_Q} (F_ : CN c n w pa lb tp rd en op ob q g) : cq_A g c 1 = some lb ∧ cq_s g lb = 102 := F_.2.2.1
theorem CN.a8 {c : Nat} {n w : Int} {pa lb tp rd en op ob : Nat} {q : Int → Nat} {g : cx_Q} (F_ : CN c n w pa lb tp rd en op ob q g) : cq_A g c 8 = some tp ∧ cq_s g tp = 103 := F_.2.2.2.1
theorem CN.a10 {c : Nat} {n w : Int} {pa lb tp rd en op ob : Nat} {q : Int → Nat} {g : cx_Q} (F_ : CN c n w pa lb tp rd en op ob q g) : cq_A g c 10 = some rd ∧ cq_s g rd = 104 := F_.2.2.2.2.1
theorem CN.a12 {c : Nat} {n w : Int} {pa lb tp rd en op ob : Nat} {q : Int → Nat} {g : cx_Q} (F_ : CN c n w pa lb tp rd en op ob q g) : cq_A g c 12 = some en ∧ cq_s g en = 0 := F_.2.2.2.2.2.1
theorem CN.a13 {c : Nat} {n w : Int} {pa lb tp rd en op ob : Nat} {q : Int → Nat} {g : cx_Q} (F_ : CN c n w pa lb tp rd en op ob q g) : cq_A g c 13 = some op ∧ cq_s g op = 3 := F_.2.2.2.2.2.2.1
theorem CN.ob_ {c : Nat} {n w : Int} {pa lb tp rd en op ob : Nat} {q : Int → Nat} {g : cx_Q} (F_ : CN c n w pa lb tp rd en op ob q g) : cq_A g op 0 = some ob ∧ cq_s g ob = 175 := F_.2.2.2.2.2.2.2.1
theorem CN.us {c : Nat} {n w : Int} {pa lb tp rd en op ob : Nat} {q : Int → Nat} {g : cx_Q} (F_ : CN c n w pa lb tp rd en op ob q g) : USR pa n w n q g := F_.2.2.2.2.2.2.2.2.1
theorem CN.uq {c : Nat} {n w : Int} {pa lb tp rd en op ob : Nat} {q : Int → Nat} {g : cx_Q} (F_ : CN c n w pa lb tp rd en op ob q g) : uE q n g := F_.2.2.2.2.2.2.2.2.2.1
theorem CN.tn {c : Nat} {n w : Int} {pa lb tp rd en op ob : Nat} {q : Int → Nat} {g : cx_Q} (F_ : CN c n w pa lb tp rd en op ob q g) : ∃ nt, (cq_A g c 14 = some nt ∧ cq_s g nt = 8 ∧ cq_A g nt 0 = none ∧ cq_I g nt 4 ≠ 0) ∧ ∀ a, cq_s g a = 8 → a ≠ nt → cq_I g a 4 = 0 ∧ cq_I g a 5 = 1000000 ∧ (cq_A g a 0 ≠ none → ∀ j, cq_I g (a + 1) j = 0) := F_.2.2.2.2.2.2.2.2.2.2
theorem e_X10_init (hY : cY Y) {v w : Int} (hn : cn v = n) (H : CI c n L Z E0 h0 [c] h) (h98 : ∀ a, cq_s h0 a = 98 ∨ cq_s h0 a = 99) (hc0 : cq_s h0 c = 99) (hI : ∀ j, cq_I h c j = 0) (hK : ∀ h' pa lb tp rd en op ob q, CI c n L Z (EI c) h0 [] h' → CN c n w pa lb tp rd en op ob q h' → K none h') : cw Y mi_X10_init K 0 [some (.inr (.inr (some c))), some (.inl v), some (.inl w), none, none] [] h 125 2699 := by
  have hn6 : 2 ≤ n ∧ n ≤ 6 := by
    rw [← hn]
    unfold cn
    split
    · omega
    · split <;> omega
  have Q0 : PI c n L Z E0 h0 [] h c 9 [] h := ⟨H, kA.refl, H.cs, fun j q => (nomatch q)⟩
  have M0 : CM c [] h := ⟨hI, fun t ht => (nomatch ht)⟩
  refine bx_X10_init_0 hY (pf2_ok hY) ?_
  refine in_0 (by decide) ?_
  refine tt_a Q0 ⟨own_9 (by decide), by decide⟩ rfl (by decide) (by decide) rfl (Or.inr (Or.inl ⟨rfl, rfl, hI 2⟩)) (by decide) (by decide) fun g1 Q1 e1 => ?_
  have M1 := M0.ar (t := 102) (z := 80) (f := 1) Q0.1.cs (Q0.1.al _ (Nat.le_refl _)) (by decide) (fun y hy => (nomatch hy))
  rw [show (1 : Int) = ((1 : Nat) : Int) from rfl, ← e1] at M1
  refine tt_b Q1 ⟨own_9 (by decide), by decide⟩ rfl (by decide) (by decide) rfl (Or.inl rfl) (by decide) (by decide) fun g2 Q2 e2 => ?_
  have M2 := M1.ar (t := 103) (z := 40) (f := 8) Q1.1.cs (Q1.1.al _ (Nat.le_refl _)) (by decide) (fun y hy => by simp at hy; rw [hy]; simp)
  rw [show (8 : Int) = ((8 : Nat) : Int) from rfl, ← e2] at M2
  refine tt_b Q2 ⟨own_9 (by decide), by decide⟩ rfl (by decide) (by decide) rfl (Or.inl rfl) (by decide) (by decide) fun g3 Q3 e3 => ?_
  have M3 := M2.ar (t := 104) (z := 40) (f := 10) Q2.1.cs (Q2.1.al _ (Nat.le_refl _)) (by decide) (fun y hy => by simp at hy; rcases hy with hy | hy <;> (rw [hy]; simp))
  rw [show (10 : Int) = ((10 : Nat) : Int) from rfl, ← e3] at M3
  clear e1 e2 e3 M0 M1 M2 Q0 Q1 Q2
  generalize h.1 = c1 at M3
  generalize g1.1 = c2 at M3
  generalize g2.1 = c3 at M3
  simp only [wp_iconst, wp_bipush, wp_sipush, wp_ldc, wp_ldc2_w, wp_lconst0, wp_lconst1, wp_aconst_null, wp_iload_0, wp_istore_0, wp_iload_1, wp_istore_1, wp_iload_2, wp_istore_2, wp_iload_3, wp_istore_3, wp_iload, wp_istore, wp_lload_0, wp_lstore_0, wp_lload_1, wp_lstore_1, wp_lload_2, wp_lstore_2, wp_lload_3, wp_lstore_3, wp_lload, wp_lstore, wp_aload_0, wp_astore_0, wp_aload_1, wp_astore_1, wp_aload_2, wp_astore_2, wp_aload_3, wp_astore_3, wp_aload, wp_astore, wp_iinc, wp_iadd, wp_isub, wp_imul, wp_iand, wp_ior, wp_ixor, wp_ishl, wp_ishr, wp_iushr, wp_irem, wp_ladd, wp_lsub, wp_lmul, wp_land, wp_lor, wp_lxor, wp_lshl, wp_lshr, wp_lushr, wp_lrem, wp_lcmp, wp_i2l, wp_l2i, wp_dupI, wp_dupA, wp_dup2J, wp_dup2IA, wp_popI, wp_popA, wp_pop2, wp_goto, wp_if_eq, wp_icmp_eq, wp_if_ne, wp_icmp_ne, wp_if_lt, wp_icmp_lt, wp_if_ge, wp_icmp_ge, wp_if_gt, wp_icmp_gt, wp_if_le, wp_icmp_le, wp_ifnull, wp_ifnonnull, wp_acmp_eq, wp_acmp_ne, wp_tableswitch, wp_get0, wp_put0, wp_get1, wp_put1, wp_get2, wp_put2, wp_get3, wp_put3, wp_new, wp_newarray, wp_anewarray, wp_alen, wp_iaload, wp_laload, wp_baload, wp_aaload, wp_iastore, wp_lastore, wp_bastore, wp_aastore, wp_return, wp_ireturnI, wp_ireturnZ, wp_lreturn, wp_areturnO, wp_areturnA, wp_max, wp_min, wp_obj, wp_virt, wp_nil, ld_I0, ld_Is, ld_J0, ld_Js, ld_A0, ld_As, ha_0, ha_s, cx_put1, cx_put2, cx_dl, cx_tgt, true_and, and_true, Nat.reduceAdd, Nat.reduceSub, Int.reduceAdd, Int.reduceNeg, Int.reduceToNat, Int.reduceSub, Int.cast_ofNat_Int, List.take_succ_cons, List.take_zero, List.drop_succ_cons, List.drop_zero, List.take_nil, List.drop_nil, Option.toList_some, Option.toList_none, List.cons_append, List.nil_append, wp_spec, ne_eq, Nat.reduceEqDiff, not_false_eq_true, true_or, or_true, wf_X3_mix, wf_X3_key, wf_X3_times, wf_X3_timesModuloQ, wf_X3_power, wf_X3_rest, wf_X3_secretOf, wf_X3_sealSum, wf_X3_sum, wf_X3_letterKey, wf_X3_nextOf, wf_X3_isOpen, wf_X3_veil, wf_X3_sealIsRight, cx_sz, cx_c2, cond_true, cond_false, Nat.reduceLeDiff]
  have hal := Q3.1.al g3.1 (Nat.le_refl _)
  (repeat' (with_reducible (first | refine And.intro ?_ ?_ | intro _)))
  all_goals (try omega)
  have G := Q3.1.nw (s := 0) (z := 0) True.intro (fun q => absurd q (by decide))
  have k1 : kA c g3.1 g3 (cq_nw g3 0 0) := nw_k hal Q3.1.cs
  have hal1 := G.al (cq_nw g3 0 0).1 (Nat.le_refl _)
  refine cl_X0_init (Nat.le_of_ble_eq_true rfl) (by decide) (by decide) (e_X0_init hY G nw_n.1 ?_)
  intro g4 G4 e4
  have v4 : ev g3 g4 := by rw [e4]; exact ((ev.refl.nw hal).nw hal1).fA hal
  have k4 : kA c g3.1 (cq_nw g3 0 0) g4 := by rw [e4]; exact (nw_k hal1 G.cs).trans sA_k
  obtain ⟨Q4, s4⟩ := Q3.ob (b := g3.1) (s := 0) hal (k4.s nw_n.1 (by decide)) G4 (k1.trans k4)
  have Q5 := Q4.sf (b := g3.1) (j := 12) s4 rfl
  have c4 := Q4.2.2.1
  have M5 := (M3.ev Q3.2.2.1 v4).sf (f := 12) s4 (by decide) (fun y hy => by simp at hy; rcases hy with hy | hy | hy <;> (rw [hy]; simp))
  generalize g3.1 = b1 at *
  refine bx_X10_init_37 hY (pf2_ok hY) ?_
  simp only [wp_iconst, wp_bipush, wp_sipush, wp_ldc, wp_ldc2_w, wp_lconst0, wp_lconst1, wp_aconst_null, wp_iload_0, wp_istore_0, wp_iload_1, wp_istore_1, wp_iload_2, wp_istore_2, wp_iload_3, wp_istore_3, wp_iload, wp_istore, wp_lload_0, wp_lstore_0, wp_lload_1, wp_lstore_1, wp_lload_2, wp_lstore_2, wp_lload_3, wp_lstore_3, wp_lload, wp_lstore, wp_aload_0, wp_astore_0, wp_aload_1, wp_astore_1, wp_aload_2, wp_astore_2, wp_aload_3, wp_astore_3, wp_aload, wp_astore, wp_iinc, wp_iadd, wp_isub, wp_imul, wp_iand, wp_ior, wp_ixor, wp_ishl, wp_ishr, wp_iushr, wp_irem, wp_ladd, wp_lsub, wp_lmul, wp_land, wp_lor, wp_lxor, wp_lshl, wp_lshr, wp_lushr, wp_lrem, wp_lcmp, wp_i2l, wp_l2i, wp_dupI, wp_dupA, wp_dup2J, wp_dup2IA, wp_popI, wp_popA, wp_pop2, wp_goto, wp_if_eq, wp_icmp_eq, wp_if_ne, wp_icmp_ne, wp_if_lt, wp_icmp_lt, wp_if_ge, wp_icmp_ge, wp_if_gt, wp_icmp_gt, wp_if_le, wp_icmp_le, wp_ifnull, wp_ifnonnull, wp_acmp_eq, wp_acmp_ne, wp_tableswitch, wp_get0, wp_put0, wp_get1, wp_put1, wp_get2, wp_put2, wp_get3, wp_put3, wp_new, wp_newarray, wp_anewarray, wp_alen, wp_iaload, wp_laload, wp_baload, wp_aaload, wp_iastore, wp_lastore, wp_bastore, wp_aastore, wp_return, wp_ireturnI, wp_ireturnZ, wp_lreturn, wp_areturnO, wp_areturnA, wp_max, wp_min, wp_obj, wp_virt, wp_nil, ld_I0, ld_Is, ld_J0, ld_Js, ld_A0, ld_As, ha_0, ha_s, cx_put1, cx_put2, cx_dl, cx_tgt, true_and, and_true, Nat.reduceAdd, Nat.reduceSub, Int.reduceAdd, Int.reduceNeg, Int.reduceToNat, Int.reduceSub, Int.cast_ofNat_Int, List.take_succ_cons, List.take_zero, List.drop_succ_cons, List.drop_zero, List.take_nil, List.drop_nil, Option.toList_some, Option.toList_none, List.cons_append, List.nil_append, wp_spec, ne_eq, Nat.reduceEqDiff, not_false_eq_true, true_or, or_true, wf_X3_mix, wf_X3_key, wf_X3_times, wf_X3_timesModuloQ, wf_X3_power, wf_X3_rest, wf_X3_secretOf, wf_X3_sealSum, wf_X3_sum, wf_X3_letterKey, wf_X3_nextOf, wf_X3_isOpen, wf_X3_veil, wf_X3_sealIsRight, cx_sz, cx_c2, cond_true, cond_false, Nat.reduceLeDiff, c4]
  generalize cq_sA g4 c 12 (some b1) = g5 at Q5 M5 ⊢
  clear Q4 s4 G4 k4 k1 G hal hal1 c4 v4 e4
  have hal := Q5.1.al g5.1 (Nat.le_refl _)
  (repeat' (with_reducible (first | refine And.intro ?_ ?_ | intro _)))
  all_goals (try omega)
  have G := Q5.1.nw (s := 3) (z := 0) True.intro (fun q => absurd q (by decide))
  have k1 : kA c g5.1 g5 (cq_nw g5 3 0) := nw_k hal Q5.1.cs
  have hal1 := G.al (cq_nw g5 3 0).1 (Nat.le_refl _)
  refine cl_X4_init (Nat.le_of_ble_eq_true rfl) (by decide) (by decide) (e_X4_init hY G nw_n.1 ?_)
  intro g6 G6 e6
  have v6 : ev g5 g6 := by rw [e6]; exact ((ev.refl.nw hal).nw hal1).fA hal
  have k6 : kA c g5.1 (cq_nw g5 3 0) g6 := by rw [e6]; exact (nw_k hal1 G.cs).trans sA_k
  obtain ⟨Q6, s6⟩ := Q5.ob (b := g5.1) (s := 3) hal (k6.s nw_n.1 (by decide)) G6 (k1.trans k6)
  have ob6 : cq_A g6 g5.1 0 = some (g5.1 + 1) ∧ cq_s g6 (g5.1 + 1) = 175 := by
    rw [e6]
    exact ⟨by rw [mm_sA, if_pos ⟨rfl, rfl⟩]; rfl, (nw_n.1 : cq_s (cq_nw (cq_nw g5 3 0) 175 10) (cq_nw g5 3 0).1 = 175)⟩
  have Q7 := Q6.sf (b := g5.1) (j := 13) s6 rfl
  have c6 := Q6.2.2.1
  have M7 := (M5.ev Q5.2.2.1 v6).sf (f := 13) s6 (by decide) (fun y hy => by simp at hy; rcases hy with hy | hy | hy | hy <;> (rw [hy]; simp))
  have nc6 : ¬ g5.1 = c := fun z => by rw [z, c6] at s6; exact absurd s6 (by decide)
  have ob7 : cq_A (cq_sA g6 c 13 (some g5.1)) g5.1 0 = some (g5.1 + 1) ∧ cq_s (cq_sA g6 c 13 (some g5.1)) (g5.1 + 1) = 175 ∧ cq_s (cq_sA g6 c 13 (some g5.1)) g5.1 = 3 := ⟨by rw [mm_sA, if_neg (fun y => nc6 y.1)]; exact ob6.1, ob6.2, s6⟩
  generalize g5.1 = b2 at *
  refine bx_X10_init_48 hY (pf2_ok hY) ?_
  simp only [wp_iconst, wp_bipush, wp_sipush, wp_ldc, wp_ldc2_w, wp_lconst0, wp_lconst1, wp_aconst_null, wp_iload_0, wp_istore_0, wp_iload_1, wp_istore_1, wp_iload_2, wp_istore_2, wp_iload_3, wp_istore_3, wp_iload, wp_istore, wp_lload_0, wp_lstore_0, wp_lload_1, wp_lstore_1, wp_lload_2, wp_lstore_2, wp_lload_3, wp_lstore_3, wp_lload, wp_lstore, wp_aload_0, wp_astore_0, wp_aload_1, wp_astore_1, wp_aload_2, wp_astore_2, wp_aload_3, wp_astore_3, wp_aload, wp_astore, wp_iinc, wp_iadd, wp_isub, wp_imul, wp_iand, wp_ior, wp_ixor, wp_ishl, wp_ishr, wp_iushr, wp_irem, wp_ladd, wp_lsub, wp_lmul, wp_land, wp_lor, wp_lxor, wp_lshl, wp_lshr, wp_lushr, wp_lrem, wp_lcmp, wp_i2l, wp_l2i, wp_dupI, wp_dupA, wp_dup2J, wp_dup2IA, wp_popI, wp_popA, wp_pop2, wp_goto, wp_if_eq, wp_icmp_eq, wp_if_ne, wp_icmp_ne, wp_if_lt, wp_icmp_lt, wp_if_ge, wp_icmp_ge, wp_if_gt, wp_icmp_gt, wp_if_le, wp_icmp_le, wp_ifnull, wp_ifnonnull, wp_acmp_eq, wp_acmp_ne, wp_tableswitch, wp_get0, wp_put0, wp_get1, wp_put1, wp_get2, wp_put2, wp_get3, wp_put3, wp_new, wp_newarray, wp_anewarray, wp_alen, wp_iaload, wp_laload, wp_baload, wp_aaload, wp_iastore, wp_lastore, wp_bastore, wp_aastore, wp_return, wp_ireturnI, wp_ireturnZ, wp_lreturn, wp_areturnO, wp_areturnA, wp_max, wp_min, wp_obj, wp_virt, wp_nil, ld_I0, ld_Is, ld_J0, ld_Js, ld_A0, ld_As, ha_0, ha_s, cx_put1, cx_put2, cx_dl, cx_tgt, true_and, and_true, Nat.reduceAdd, Nat.reduceSub, Int.reduceAdd, Int.reduceNeg, Int.reduceToNat, Int.reduceSub, Int.cast_ofNat_Int, List.take_succ_cons, List.take_zero, List.drop_succ_cons, List.drop_zero, List.take_nil, List.drop_nil, Option.toList_some, Option.toList_none, List.cons_append, List.nil_append, wp_spec, ne_eq, Nat.reduceEqDiff, not_false_eq_true, true_or, or_true, wf_X3_mix, wf_X3_key, wf_X3_times, wf_X3_timesModuloQ, wf_X3_power, wf_X3_rest, wf_X3_secretOf, wf_X3_sealSum, wf_X3_sum, wf_X3_letterKey, wf_X3_nextOf, wf_X3_isOpen, wf_X3_veil, wf_X3_sealIsRight, cx_sz, cx_c2, cond_true, cond_false, Nat.reduceLeDiff, c6]
  generalize cq_sA g6 c 13 (some b2) = g7 at Q7 M7 ob7 ⊢
  clear Q6 s6 G6 k6 k1 G hal hal1 c6 v6 e6 ob6 nc6
  have hal := Q7.1.al g7.1 (Nat.le_refl _)
  have G := Q7.1.nw (s := 8) (z := 0) True.intro (fun q => absurd q (by decide))
  have k1 : kA c g7.1 g7 (cq_nw g7 8 0) := nw_k hal Q7.1.cs
  have G' := G.new (s := 101) (z := 0) ⟨by decide, by decide⟩ (by decide) (by decide) (um (by decide))
  have hal1 := G.al (cq_nw g7 8 0).1 (Nat.le_refl _)
  have k2 : kA c g7.1 (cq_nw g7 8 0) (cq_nw (cq_nw g7 8 0) 101 0) := nw_k hal1 G.cs
  have st : cq_s (cq_nw (cq_nw g7 8 0) 101 0) g7.1 = 8 := k2.s nw_n.1 (by decide)
  have sp : cq_s (cq_nw (cq_nw g7 8 0) 101 0) (cq_nw g7 8 0).1 = 101 := nw_n.1
  (repeat' (with_reducible (first | refine And.intro ?_ ?_ | intro _)))
  all_goals (try omega)
  refine cl_X9_init (Nat.le_of_ble_eq_true rfl) (by decide) (by decide) (e_X9_init hY G' st (Q7.1.ct.old hal) (fun b q => (nomatch q)) sp ?_)
  intro g8 G8' e8
  obtain ⟨v78, o8, s8_, n0, n1, np, n3, n6, i4, i5⟩ := nt_f Q7.1.al e8
  have G8 : CI c n L Z E0 h0 [c] g8 := G8'.lk0 s8_ n0 n1 np n3 n6 ⟨i4, i5⟩
  have k8 : kA c g7.1 g7 g8 := kA.of (v78.kp Q7.2.2.1) o8
  obtain ⟨Q8, s8⟩ := Q7.ob (b := g7.1) (s := 8) hal s8_ G8 k8
  have Q9 := Q8.s14 (b := g7.1) hc0 s8
  have c8 := Q8.2.2.1
  have M9 := (M7.ev Q7.2.2.1 v78).sf (f := 14) s8 (by decide) (fun y hy => by simp at hy; rcases hy with hy | hy | hy | hy | hy <;> (rw [hy]; simp))
  have nc8 : ¬ b2 = c := fun z => by
    have := ob7.2.2
    rw [z, Q7.2.2.1] at this
    exact absurd this (by decide)
  have ob9 : cq_A (cq_sA g8 c 14 (some g7.1)) b2 0 = some (b2 + 1) ∧ cq_s (cq_sA g8 c 14 (some g7.1)) (b2 + 1) = 175 ∧ cq_s (cq_sA g8 c 14 (some g7.1)) b2 = 3 := ⟨by rw [mm_sA, if_neg (fun y => nc8 y.1), v78.A ob7.2.2 rfl]; exact ob7.1, v78.s ob7.2.1 (by decide), v78.s ob7.2.2 (by decide)⟩
  have n09 : cq_A (cq_sA g8 c 14 (some g7.1)) g7.1 0 = none := by
    rw [mm_sA, if_neg (fun y => by rw [y.1, c8] at s8; exact absurd s8 (by decide))]
    exact n0
  clear e8 G8' n0 n1 np n3 n6 i4 i5 s8_
  generalize g7.1 = b3 at *
  refine bx_X10_init_64 hY (pf2_ok hY) ?_
  simp only [wp_iconst, wp_bipush, wp_sipush, wp_ldc, wp_ldc2_w, wp_lconst0, wp_lconst1, wp_aconst_null, wp_iload_0, wp_istore_0, wp_iload_1, wp_istore_1, wp_iload_2, wp_istore_2, wp_iload_3, wp_istore_3, wp_iload, wp_istore, wp_lload_0, wp_lstore_0, wp_lload_1, wp_lstore_1, wp_lload_2, wp_lstore_2, wp_lload_3, wp_lstore_3, wp_lload, wp_lstore, wp_aload_0, wp_astore_0, wp_aload_1, wp_astore_1, wp_aload_2, wp_astore_2, wp_aload_3, wp_astore_3, wp_aload, wp_astore, wp_iinc, wp_iadd, wp_isub, wp_imul, wp_iand, wp_ior, wp_ixor, wp_ishl, wp_ishr, wp_iushr, wp_irem, wp_ladd, wp_lsub, wp_lmul, wp_land, wp_lor, wp_lxor, wp_lshl, wp_lshr, wp_lushr, wp_lrem, wp_lcmp, wp_i2l, wp_l2i, wp_dupI, wp_dupA, wp_dup2J, wp_dup2IA, wp_popI, wp_popA, wp_pop2, wp_goto, wp_if_eq, wp_icmp_eq, wp_if_ne, wp_icmp_ne, wp_if_lt, wp_icmp_lt, wp_if_ge, wp_icmp_ge, wp_if_gt, wp_icmp_gt, wp_if_le, wp_icmp_le, wp_ifnull, wp_ifnonnull, wp_acmp_eq, wp_acmp_ne, wp_tableswitch, wp_get0, wp_put0, wp_get1, wp_put1, wp_get2, wp_put2, wp_get3, wp_put3, wp_new, wp_newarray, wp_anewarray, wp_alen, wp_iaload, wp_laload, wp_baload, wp_aaload, wp_iastore, wp_lastore, wp_bastore, wp_aastore, wp_return, wp_ireturnI, wp_ireturnZ, wp_lreturn, wp_areturnO, wp_areturnA, wp_max, wp_min, wp_obj, wp_virt, wp_nil, ld_I0, ld_Is, ld_J0, ld_Js, ld_A0, ld_As, ha_0, ha_s, cx_put1, cx_put2, cx_dl, cx_tgt, true_and, and_true, Nat.reduceAdd, Nat.reduceSub, Int.reduceAdd, Int.reduceNeg, Int.reduceToNat, Int.reduceSub, Int.cast_ofNat_Int, List.take_succ_cons, List.take_zero, List.drop_succ_cons, List.drop_zero, List.take_nil, List.drop_nil, Option.toList_some, Option.toList_none, List.cons_append, List.nil_append, wp_spec, ne_eq, Nat.reduceEqDiff, not_false_eq_true, true_or, or_true, wf_X3_mix, wf_X3_key, wf_X3_times, wf_X3_timesModuloQ, wf_X3_power, wf_X3_rest, wf_X3_secretOf, wf_X3_sealSum, wf_X3_sum, wf_X3_letterKey, wf_X3_nextOf, wf_X3_isOpen, wf_X3_veil, wf_X3_sealIsRight, cx_sz, cx_c2, cond_true, cond_false, Nat.reduceLeDiff, c8]
  generalize cq_sA g8 c 14 (some b3) = g9 at Q9 M9 ob9 n09 ⊢
  clear Q8 s8 G8 o8 k8 k2 sp st hal1 G' k1 G hal c8 v78 ob7
  have em : (if 2 < if v < 6 then v else 6 then if v < 6 then v else 6 else 2) = n := by
    rw [← hn]
    unfold cn
    split <;> split <;> omega
  rw [em]
  have hc := Q9.2.2.1
  have hal := Q9.1.al g9.1 (Nat.le_refl _)
  have nc : c ≠ g9.1 := fun e => by rw [← e, hc] at hal; exact absurd hal (by decide)
  have G := (Q9.1.nw (s := 105) (z := n) rfl (fun q => absurd q (by decide))).pm (X' := [c, g9.1]) (fun a => ⟨fun q => by simp at q ⊢; omega, fun q => by simp at q ⊢; omega⟩)
  have sc : cq_s (cq_nw g9 105 n) c = 9 := (nw_o (s := 105) (z := n) nc).1.trans hc
  have v9 : ev g9 (cq_nw g9 105 n) := ev.refl.nw hal
  have sb : cq_s (cq_nw g9 105 n) g9.1 = 105 := nw_n.1
  have MA := (M9.ev hc v9).sf (f := 0) sb (by decide) (fun y hy => by simp at hy; rcases hy with hy | hy | hy | hy | hy | hy <;> (rw [hy]; simp))
  have GA : CI c n L Z E0 h0 [c, g9.1] (cq_sA (cq_nw g9 105 n) c 0 (some g9.1)) := G.sA sc (own_9 (by decide)) (fun d q => by cases q; exact sb) (fun q => (nomatch q)) rfl
  have obA : cq_A (cq_sA (cq_nw g9 105 n) c 0 (some g9.1)) b2 0 = some (b2 + 1) ∧ cq_s (cq_sA (cq_nw g9 105 n) c 0 (some g9.1)) (b2 + 1) = 175 ∧ cq_s (cq_sA (cq_nw g9 105 n) c 0 (some g9.1)) b2 = 3 := ⟨by rw [mm_sA, if_neg (fun y => nc8 y.1), v9.A ob9.2.2 rfl]; exact ob9.1, v9.s ob9.2.1 (by decide), v9.s ob9.2.2 (by decide)⟩
  have s9b : cq_s g9 b3 = 8 := (M9.f_ (14, b3, 8) (by simp)).2.1
  have nA0 : cq_A (cq_sA (cq_nw g9 105 n) c 0 (some g9.1)) b3 0 = none := by
    rw [mm_sA, if_neg (fun y => by rw [y.1, hc] at s9b; exact absurd s9b (by decide)), (nw_o (h := g9) (s := 105) (z := n) (show b3 ≠ g9.1 from fun y => by rw [y, hal] at s9b; exact absurd s9b (by decide))).2.2.2.2]
    exact n09
  have e0 : cq_A (cq_sA (cq_nw g9 105 n) c 0 (some g9.1)) c 0 = some g9.1 := by rw [mm_sA, if_pos ⟨rfl, rfl⟩]
  have sbA : cq_s (cq_sA (cq_nw g9 105 n) c 0 (some g9.1)) g9.1 = 105 := sb
  refine ⟨⟨by omega, by omega, by omega⟩, sc, ?_⟩
  generalize cq_sA (cq_nw g9 105 n) c 0 (some g9.1) = gA at MA GA obA e0 sbA nA0 ⊢
  generalize g9.1 = b at *
  clear v9 G sc sb hal nc hc Q9 M9 ob9 n09 s9b
  have nn4 : ∀ a, cq_s gA a ≠ 4 := fun a s => by
    rcases GA.ct.2.2.2.2.2.2.2.2.2.2.2.2.2.2.2.2.1 a s with y | y
    · have := h98 a
      omega
    · exact y rfl
  have GA' : CI c n L Z (EI c) h0 [c, b] gA := GA.wk EI_c (fun d _ => rfl) nn4
  have uqA : UQ gA b 0 (fun _ => 0) gA := ⟨fun p s => absurd s (nn4 p), fun p s => by
    by_cases y : gA.1 ≤ p
    · rw [GA.al p y] at s
      exact absurd s (by decide)
    · omega, fun _ _ _ => ⟨rfl, rfl, rfl⟩, Nat.le_refl _⟩
  have scA := GA.cs
  have ncb : ¬ c = b := fun z => by rw [z, sbA] at scA; exact absurd scA (by decide)
  have n2b : ¬ b2 = b := fun z => by
    have := obA.2.2
    rw [z, sbA] at this
    exact absurd this (by decide)
  refine cw_room (by omega) (by omega) (ex_po (g0 := gA) hY hn6 n.toNat 0 gA (fun _ => 0) (by decide) (by omega) GA' sbA e0 ⟨fun u u0 u1 => absurd u0 (by omega), fun u u' u0 u1 u2 => absurd u0 (by omega)⟩ uqA ?_)
  intro g q GC x S Uq
  have sg : cq_s g c = 9 := GC.cs
  have sb := x.s sbA (by decide)
  have zb : cq_z g b = n := GC.tz sb
  have MC := MA.ex scA x ncb
  have G1 : CI c n L Z (EI c) h0 [c] g := (GC.pm (X' := [b, c]) (fun a => ⟨fun q => by simp at q ⊢; omega, fun q => by simp at q ⊢; omega⟩)).mk sb (fun j q => by
    obtain ⟨w1, _⟩ := S.1 j (by unfold muA at q; omega) (by unfold muA at q; omega)
    rw [w1]; exact Option.some_ne_none _) (fun q => absurd q (by decide))
  have G2 : CI c n L Z (EI c) h0 [] g := G1.mk sg (fun j q => by
    have : j = 0 ∨ j = 1 ∨ j = 8 ∨ j = 10 ∨ j = 12 ∨ j = 13 ∨ j = 14 := by unfold muA at q; omega
    rcases this with rfl | rfl | rfl | rfl | rfl | rfl | rfl
    · rw [(MC.f_ (0, b, 105) (by simp)).1]; exact Option.some_ne_none _
    · rw [(MC.f_ (1, c1, 102) (by simp)).1]; exact Option.some_ne_none _
    · rw [(MC.f_ (8, c2, 103) (by simp)).1]; exact Option.some_ne_none _
    · rw [(MC.f_ (10, c3, 104) (by simp)).1]; exact Option.some_ne_none _
    · rw [(MC.f_ (12, b1, 0) (by simp)).1]; exact Option.some_ne_none _
    · rw [(MC.f_ (13, b2, 3) (by simp)).1]; exact Option.some_ne_none _
    · rw [(MC.f_ (14, b3, 8) (by simp)).1]; exact Option.some_ne_none _) (fun q => absurd q (by decide))
  obtain ⟨et, st, _⟩ := MC.f_ (14, b3, 8) (by simp)
  refine bx_X10_init_122 hY (pf2_ok hY) ?_
  simp only [wp_iconst, wp_bipush, wp_sipush, wp_ldc, wp_ldc2_w, wp_lconst0, wp_lconst1, wp_aconst_null, wp_iload_0, wp_istore_0, wp_iload_1, wp_istore_1, wp_iload_2, wp_istore_2, wp_iload_3, wp_istore_3, wp_iload, wp_istore, wp_lload_0, wp_lstore_0, wp_lload_1, wp_lstore_1, wp_lload_2, wp_lstore_2, wp_lload_3, wp_lstore_3, wp_lload, wp_lstore, wp_aload_0, wp_astore_0, wp_aload_1, wp_astore_1, wp_aload_2, wp_astore_2, wp_aload_3, wp_astore_3, wp_aload, wp_astore, wp_iinc, wp_iadd, wp_isub, wp_imul, wp_iand, wp_ior, wp_ixor, wp_ishl, wp_ishr, wp_iushr, wp_irem, wp_ladd, wp_lsub, wp_lmul, wp_land, wp_lor, wp_lxor, wp_lshl, wp_lshr, wp_lushr, wp_lrem, wp_lcmp, wp_i2l, wp_l2i, wp_dupI, wp_dupA, wp_dup2J, wp_dup2IA, wp_popI, wp_popA, wp_pop2, wp_goto, wp_if_eq, wp_icmp_eq, wp_if_ne, wp_icmp_ne, wp_if_lt, wp_icmp_lt, wp_if_ge, wp_icmp_ge, wp_if_gt, wp_icmp_gt, wp_if_le, wp_icmp_le, wp_ifnull, wp_ifnonnull, wp_acmp_eq, wp_acmp_ne, wp_tableswitch, wp_get0, wp_put0, wp_get1, wp_put1, wp_get2, wp_put2, wp_get3, wp_put3, wp_new, wp_newarray, wp_anewarray, wp_alen, wp_iaload, wp_laload, wp_baload, wp_aaload, wp_iastore, wp_lastore, wp_bastore, wp_aastore, wp_return, wp_ireturnI, wp_ireturnZ, wp_lreturn, wp_areturnO, wp_areturnA, wp_max, wp_min, wp_obj, wp_virt, wp_nil, ld_I0, ld_Is, ld_J0, ld_Js, ld_A0, ld_As, ha_0, ha_s, cx_put1, cx_put2, cx_dl, cx_tgt, true_and, and_true, Nat.reduceAdd, Nat.reduceSub, Int.reduceAdd, Int.reduceNeg, Int.reduceToNat, Int.reduceSub, Int.cast_ofNat_Int, List.take_succ_cons, List.take_zero, List.drop_succ_cons, List.drop_zero, List.take_nil, List.drop_nil, Option.toList_some, Option.toList_none, List.cons_append, List.nil_append, wp_spec, ne_eq, Nat.reduceEqDiff, not_false_eq_true, true_or, or_true, wf_X3_mix, wf_X3_key, wf_X3_times, wf_X3_timesModuloQ, wf_X3_power, wf_X3_rest, wf_X3_secretOf, wf_X3_sealSum, wf_X3_sum, wf_X3_letterKey, wf_X3_nextOf, wf_X3_isOpen, wf_X3_veil, wf_X3_sealIsRight, cx_sz, cx_c2, cond_true, cond_false, Nat.reduceLeDiff, sg, et]
  refine cl_X9_giveRoot (Nat.le_of_ble_eq_true rfl) st (Nat.le_refl _) (Nat.le_refl _) (e_X9_giveRoot hY G2 EI_c st ?_)
  intro g' G' k' lm
  refine bx_X10_init_129 hY (pf2_ok hY) ?_
  simp only [wp_iconst, wp_bipush, wp_sipush, wp_ldc, wp_ldc2_w, wp_lconst0, wp_lconst1, wp_aconst_null, wp_iload_0, wp_istore_0, wp_iload_1, wp_istore_1, wp_iload_2, wp_istore_2, wp_iload_3, wp_istore_3, wp_iload, wp_istore, wp_lload_0, wp_lstore_0, wp_lload_1, wp_lstore_1, wp_lload_2, wp_lstore_2, wp_lload_3, wp_lstore_3, wp_lload, wp_lstore, wp_aload_0, wp_astore_0, wp_aload_1, wp_astore_1, wp_aload_2, wp_astore_2, wp_aload_3, wp_astore_3, wp_aload, wp_astore, wp_iinc, wp_iadd, wp_isub, wp_imul, wp_iand, wp_ior, wp_ixor, wp_ishl, wp_ishr, wp_iushr, wp_irem, wp_ladd, wp_lsub, wp_lmul, wp_land, wp_lor, wp_lxor, wp_lshl, wp_lshr, wp_lushr, wp_lrem, wp_lcmp, wp_i2l, wp_l2i, wp_dupI, wp_dupA, wp_dup2J, wp_dup2IA, wp_popI, wp_popA, wp_pop2, wp_goto, wp_if_eq, wp_icmp_eq, wp_if_ne, wp_icmp_ne, wp_if_lt, wp_icmp_lt, wp_if_ge, wp_icmp_ge, wp_if_gt, wp_icmp_gt, wp_if_le, wp_icmp_le, wp_ifnull, wp_ifnonnull, wp_acmp_eq, wp_acmp_ne, wp_tableswitch, wp_get0, wp_put0, wp_get1, wp_put1, wp_get2, wp_put2, wp_get3, wp_put3, wp_new, wp_newarray, wp_anewarray, wp_alen, wp_iaload, wp_laload, wp_baload, wp_aaload, wp_iastore, wp_lastore, wp_bastore, wp_aastore, wp_return, wp_ireturnI, wp_ireturnZ, wp_lreturn, wp_areturnO, wp_areturnA, wp_max, wp_min, wp_obj, wp_virt, wp_nil, ld_I0, ld_Is, ld_J0, ld_Js, ld_A0, ld_As, ha_0, ha_s, cx_put1, cx_put2, cx_dl, cx_tgt, true_and, and_true, Nat.reduceAdd, Nat.reduceSub, Int.reduceAdd, Int.reduceNeg, Int.reduceToNat, Int.reduceSub, Int.cast_ofNat_Int, List.take_succ_cons, List.take_zero, List.drop_succ_cons, List.drop_zero, List.take_nil, List.drop_nil, Option.toList_some, Option.toList_none, List.cons_append, List.nil_append, wp_spec, ne_eq, Nat.reduceEqDiff, not_false_eq_true, true_or, or_true, wf_X3_mix, wf_X3_key, wf_X3_times, wf_X3_timesModuloQ, wf_X3_power, wf_X3_rest, wf_X3_secretOf, wf_X3_sealSum, wf_X3_sum, wf_X3_letterKey, wf_X3_nextOf, wf_X3_isOpen, wf_X3_veil, wf_X3_sealIsRight, cx_sz, cx_c2, cond_true, cond_false, Nat.reduceLeDiff]
  have ME := MC.ev sg k'
  have f2 := fun t ht => (MC.f_ t ht)
  refine hK g' b c1 c2 c3 b1 b2 (b2 + 1) q G' ⟨ME.i0, ⟨(ME.f_ (0, b, 105) (by simp)).1, (ME.f_ (0, b, 105) (by simp)).2.1⟩, ⟨(ME.f_ (1, c1, 102) (by simp)).1, (ME.f_ (1, c1, 102) (by simp)).2.1⟩, ⟨(ME.f_ (8, c2, 103) (by simp)).1, (ME.f_ (8, c2, 103) (by simp)).2.1⟩, ⟨(ME.f_ (10, c3, 104) (by simp)).1, (ME.f_ (10, c3, 104) (by simp)).2.1⟩, ⟨(ME.f_ (12, b1, 0) (by simp)).1, (ME.f_ (12, b1, 0) (by simp)).2.1⟩, ⟨(ME.f_ (13, b2, 3) (by simp)).1, (ME.f_ (13, b2, 3) (by simp)).2.1⟩, ⟨?_, k'.s (x.s obA.2.1 (by decide)) (by decide)⟩, ⟨fun u u0 u1 => ?_, S.2⟩, fun p sp => Uq.1 p (by rw [lm.s] at sp; exact sp), ⟨b3, ⟨(ME.f_ (14, b3, 8) (by simp)).1, (ME.f_ (14, b3, 8) (by simp)).2.1, ?_, lm.on (fun m e _ _ => by rw [e]) rfl rfl rfl⟩, fun a sa na => ?_⟩⟩
  · rw [k'.A (x.s obA.2.2 (by decide)) rfl, x.A obA.2.2 rfl n2b]
    exact obA.1
  · obtain ⟨r1, r2, r3⟩ := S.1 u u0 u1
    exact ⟨by rw [k'.A sb rfl]; exact r1, r2.ex (P := fun _ => False) k'.x id (fun _ z => z.elim), Nat.le_trans r3 k'.1⟩
  · have s3 : cq_s gA b3 = 8 := (MA.f_ (14, b3, 8) (by simp)).2.1
    rw [lm.A, (Uq.2.2.1 b3 (uqA.2.1 b3 s3) (fun y => by rw [y, sbA] at s3; exact absurd s3 (by decide))).2.2]
    exact nA0
  · rw [lm.s] at sa
    have la := Uq.2.1 a sa
    have nb : a ≠ b := fun y => by rw [y, sb] at sa; exact absurd sa (by decide)
    obtain ⟨l1, l2, l3⟩ := Uq.2.2.1 a la nb
    have saA : cq_s gA a = 8 := by rw [← l1]; exact sa
    have s0 : cq_s h0 a = 99 := by
      rcases h98 a with y | y
      · have := (GA.ct.1 a (by rw [y]; decide)).1
        rw [saA, y] at this
        exact absurd this (by decide)
      · exact y
    have nX : a ∉ [c, b] := fun y => by
      rcases List.mem_cons.mp y with y | y
      · rw [y, scA] at saA; exact absurd saA (by decide)
      · exact nb (List.mem_singleton.mp y)
    obtain ⟨f1, f2, f3⟩ := GA.ct.2.2.2.2.2.1 a s0 saA nX rfl
    have off : ∀ {d : Nat} {j : Int}, d ≠ b3 → cq_I g' d j = cq_I g d j := fun {d j} w => lm.off (fun m e y => w (by rw [← y.1, e]))
    refine ⟨?_, ?_, fun y j => ?_⟩
    · rw [off na, l2]; exact f1
    · rw [off na, l2]; exact f2
    · rw [lm.A, l3] at y
      obtain ⟨y1, y2⟩ := f3 y
      have s3 : cq_s gA b3 = 8 := (MA.f_ (14, b3, 8) (by simp)).2.1
      have n1 : a + 1 ≠ b3 := fun z => by rw [z, s3] at y1; exact absurd y1 (by decide)
      have n2 : a + 1 ≠ b := fun z => by rw [z, sbA] at y1; exact absurd y1 (by decide)
      have lt1 : a + 1 < gA.1 := by
        by_cases z : gA.1 ≤ a + 1
        · rw [GA.al _ z] at y1
          exact absurd y1 (by decide)
        · omega
      rw [off n1, (Uq.2.2.1 (a + 1) lt1 n2).2.1]
      exact y2 j
end
