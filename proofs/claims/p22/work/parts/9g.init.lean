/-! the reference is made -/
/-- o of its arrays were made; its own field 2 is t, its other ints are 0; all ints of its arrays are 0 -/
def NI (x : Nat) (h1 : cx_Q) (t : Int) (o : Nat) (g : cx_Q) : Prop := g.1 = x + 1 + o ∧ cq_s g x = 10 ∧ (∀ q, 1 ≤ q → q ≤ o → cq_A g x (rf q) = some (x + q) ∧ cq_s g (x + q) = 105 + q ∧ cq_z g (x + q) = rz q) ∧ (∀ a, a < x → cq_s g a = cq_s h1 a ∧ cq_z g a = cq_z h1 a ∧ cq_I g a = cq_I h1 a ∧ cq_J g a = cq_J h1 a ∧ cq_A g a = cq_A h1 a) ∧ (∀ a, x < a → a < g.1 → cq_I g a = fun _ => 0) ∧ (cq_I g x = fun j => if j = 2 then t else 0) ∧ (∀ a, g.1 ≤ a → cq_s g a = 99)
theorem rf_inj : ∀ q ≤ 65, ∀ o ≤ 65, 1 ≤ q → q ≠ o → rf q ≠ rf o := by decide
section
variable {x : Nat} {h1 g : cx_Q} {t : Int} {o : Nat}
theorem NI.st (N : NI x h1 t o g) (ho : o < 65) {s : Nat} {z f : Int} (hs : s = 105 + (o + 1)) (hz : z = rz (o + 1)) (hf : f = rf (o + 1)) : NI x h1 t (o + 1) (cq_sA (cq_nw g s z) x f (some g.1)) := by
  obtain ⟨n1, n2, n3, n4, n5, n6, n7⟩ := N
  have nx : x ≠ g.1 := by omega
  refine ⟨?_, ?_, fun q q1 q2 => ?_, fun a ha => ?_, fun a ha hb => ?_, ?_, fun a ha => ?_⟩
  · show g.1 + 1 = _
    omega
  · show cq_s (cq_nw g s z) x = 10
    rw [(nw_o nx).1]
    exact n2
  · show (cq_A (cq_sA (cq_nw g s z) x f (some g.1)) x (rf q) = _ ∧ cq_s (cq_nw g s z) (x + q) = _ ∧ cq_z (cq_nw g s z) (x + q) = _)
    by_cases w : q = o + 1
    · have e : x + q = g.1 := by omega
      rw [e, nw_n.1, nw_n.2.1, mm_sA, w, ← hf, if_pos ⟨rfl, rfl⟩]
      exact ⟨rfl, hs, hz⟩
    · have e : x + q ≠ g.1 := by omega
      rw [(nw_o e).1, (nw_o e).2.1, mm_sA, if_neg (fun k => rf_inj q (by omega) (o + 1) (by omega) q1 w (hf ▸ k.2)), (nw_o nx).2.2.2.2]
      exact n3 q q1 (by omega)
  · have e : a ≠ g.1 := by omega
    have := nw_o (h := g) (s := s) (z := z) e
    refine ⟨this.1.trans (n4 a ha).1, this.2.1.trans (n4 a ha).2.1, this.2.2.1.trans (n4 a ha).2.2.1, this.2.2.2.1.trans (n4 a ha).2.2.2.1, ?_⟩
    rw [← (n4 a ha).2.2.2.2, ← this.2.2.2.2]
    funext r
    rw [mm_sA, if_neg (fun k => by omega)]
  · show cq_I (cq_nw g s z) a = _
    have hb : a < g.1 + 1 := hb
    by_cases e : a = g.1
    · rw [e, nw_n.2.2.1]
    · rw [(nw_o e).2.2.1]
      exact n5 a ha (by omega)
  · show cq_I (cq_nw g s z) x = _
    rw [(nw_o nx).2.2.1]
    exact n6
  · have ha : g.1 + 1 ≤ a := ha
    show cq_s (cq_nw g s z) a = 99
    rw [(nw_o (by omega)).1]
    exact n7 a (by omega)
variable {pf : cx_Pf} {mF mO : Nat} {ty : Option FieldType} {J : cx_J} {C : cx_Cl} {P : Option cx_V → cx_Q → Prop} {r : List ev_E} {pc : Nat} {lv : cx_L} {bc bs : Nat}
theorem in_0 {w : Nat} (hr : 1 ≤ mF ∧ cx_sz [] + 12 ≤ mO) (go : cx_wp ra0 pf mF mO ty J C P r (pc + 1 + 3) (some (.inr (.inr (some x))) :: lv) [] g bc bs) : cx_wp ra0 pf mF mO ty J C P ((.aload_n 0, 1, 0, 0, 0) :: (.invokespecial w, 3, 999, 0, 0) :: r) pc (some (.inr (.inr (some x))) :: lv) [] g bc bs := by
  simp only [wp_iconst, wp_bipush, wp_sipush, wp_ldc, wp_ldc2_w, wp_lconst0, wp_lconst1, wp_aconst_null, wp_iload_0, wp_istore_0, wp_iload_1, wp_istore_1, wp_iload_2, wp_istore_2, wp_iload_3, wp_istore_3, wp_iload, wp_istore, wp_lload_0, wp_lstore_0, wp_lload_1, wp_lstore_1, wp_lload_2, wp_lstore_2, wp_lload_3, wp_lstore_3, wp_lload, wp_lstore, wp_aload_0, wp_astore_0, wp_aload_1, wp_astore_1, wp_aload_2, wp_astore_2, wp_aload_3, wp_astore_3, wp_aload, wp_astore, wp_iinc, wp_iadd, wp_isub, wp_imul, wp_iand, wp_ior, wp_ixor, wp_ishl, wp_ishr, wp_iushr, wp_irem, wp_ladd, wp_lsub, wp_lmul, wp_land, wp_lor, wp_lxor, wp_lshl, wp_lshr, wp_lushr, wp_lrem, wp_lcmp, wp_i2l, wp_l2i, wp_dupI, wp_dupA, wp_dup2J, wp_dup2IA, wp_popI, wp_popA, wp_pop2, wp_goto, wp_if_eq, wp_icmp_eq, wp_if_ne, wp_icmp_ne, wp_if_lt, wp_icmp_lt, wp_if_ge, wp_icmp_ge, wp_if_gt, wp_icmp_gt, wp_if_le, wp_icmp_le, wp_ifnull, wp_ifnonnull, wp_acmp_eq, wp_acmp_ne, wp_tableswitch, wp_get0, wp_put0, wp_get1, wp_put1, wp_get2, wp_put2, wp_get3, wp_put3, wp_new, wp_newarray, wp_anewarray, wp_alen, wp_iaload, wp_laload, wp_baload, wp_aaload, wp_iastore, wp_lastore, wp_bastore, wp_aastore, wp_return, wp_ireturnI, wp_ireturnZ, wp_lreturn, wp_areturnO, wp_areturnA, wp_max, wp_min, wp_obj, wp_virt, wp_nil, ld_I0, ld_Is, ld_J0, ld_Js, ld_A0, ld_As, ha_0, ha_s, cx_put1, cx_put2, cx_dl, cx_tgt, true_and, and_true, Nat.reduceAdd, Nat.reduceSub, Int.reduceAdd, Int.reduceNeg, Int.reduceToNat, Int.reduceSub, Int.cast_ofNat_Int, List.take_succ_cons, List.take_zero, List.drop_succ_cons, List.drop_zero, List.take_nil, List.drop_nil, Option.toList_some, Option.toList_none, List.cons_append, List.nil_append, wp_spec, ne_eq, Nat.reduceEqDiff, not_false_eq_true, true_or, or_true]
  exact ⟨hr, go⟩
end
theorem rR_0 {o : Nat} : rR 0 0 o 0 := by
  unfold rR
  repeat' (with_reducible refine itp ?_ ?_)
  all_goals (first | trivial | exact ⟨by decide, by decide⟩)
theorem rX_0 {j : Int} : rX 0 j 0 := by
  unfold rX
  repeat' (with_reducible refine itp ?_ ?_)
  all_goals (first | trivial | exact ⟨by decide, by decide⟩)
/-- between 2 and 6 -/
def cn (a : Int) : Int := if a < 2 then 2 else if a ≤ 6 then a else 6
/-- cells ahead of the reference are as they were, nothing stands behind its arrays -/
def aL (x : Nat) (h1 g : cx_Q) : Prop := g.1 = x + 66 ∧ (∀ a, a < x → cq_s g a = cq_s h1 a ∧ cq_z g a = cq_z h1 a ∧ cq_I g a = cq_I h1 a ∧ cq_J g a = cq_J h1 a ∧ cq_A g a = cq_A h1 a) ∧ ∀ a, g.1 ≤ a → cq_s g a = 99
theorem NI.RI {x : Nat} {h1 g : cx_Q} {n : Int} (N : NI x h1 1 65 g) : RI x n 0 (fun _ => 0) (fun _ => 0) 0 (cq_sI g x 0 n) (cq_sI g x 0 n) ∧ aL x h1 (cq_sI g x 0 n) := by
  obtain ⟨n1, n2, n3, n4, n5, n6, n7⟩ := N
  have nI : ∀ (o : Nat) (j : Int), 1 ≤ o → o ≤ 65 → cq_I (cq_sI g x 0 n) (x + o) j = 0 := fun o j q1 q2 => by
    rw [mm_sI, if_neg (fun e => by omega), n5 (x + o) (by omega) (by omega)]
  have nX : ∀ j : Int, cq_I (cq_sI g x 0 n) x j = if j = 0 then n else if j = 2 then 1 else 0 := fun j => by
    rw [mm_sI, n6]
    simp only [true_and]
  refine ⟨⟨⟨⟨rfl, rfl, rfl, rfl, fun a _ => ⟨rfl, rfl⟩⟩, ⟨n2, n3⟩, fun o j q1 q2 => ?_, fun j => ?_, ?_, ?_, ?_, ?_⟩, ?_, ?_, ?_, fun o ho j => ?_, ?_⟩, n1, fun a ha => ⟨(n4 a ha).1, (n4 a ha).2.1, ?_, (n4 a ha).2.2.2⟩, n7⟩
  · rw [nI o j q1 q2]
    exact rR_0
  · rw [nX]
    by_cases e : j = 0
    · rw [e]
      exact True.intro
    · by_cases e2 : j = 2
      · rw [e2]
        exact True.intro
      · rw [if_neg e, if_neg e2]
        exact rX_0
  · funext j
    exact nI 11 j (by decide) (by decide)
  · funext j
    exact nI 16 j (by decide) (by decide)
  · rw [nX, if_pos rfl]
  · rw [nX, if_neg (by decide), if_neg (by decide)]
  · rw [nX, if_neg (by decide), if_pos rfl]
    decide
  · rw [nX, if_neg (by decide), if_neg (by decide)]
    decide
  · rw [nX, if_neg (by decide), if_neg (by decide)]
    decide
  · have o1 : ∀ o ∈ tV, 1 ≤ o ∧ o ≤ 65 := by decide
    rw [nI o j (o1 o ho).1 (o1 o ho).2]
    decide
  · have o1 : ∀ o ∈ tV, 1 ≤ o ∧ o ≤ 65 := by decide
    have x2 : cq_I (cq_sI g x 0 n) x 2 = 1 := by rw [nX, if_neg (by decide), if_pos rfl]
    refine ⟨fun t t' w1 w2 => ?_, fun t w1 w2 => ?_, fun o ho j => ?_, ?_⟩
    · rw [x2] at w2
      omega
    · rw [x2] at w2
      omega
    · rw [nI o j (o1 o ho).1 (o1 o ho).2, x2]
      decide
    · rw [x2, nX, if_neg (by decide), if_neg (by decide)]
      decide
  · rw [← (n4 a ha).2.2.1]
    funext j
    rw [mm_sI, if_neg (fun e => by omega)]