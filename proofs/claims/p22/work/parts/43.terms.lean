/-! terms -/
/-- another term -/
def apT (h : cx_Q) (x : Nat) (s a b c d : Int) : cx_Q := cq_sI (cq_sI (cq_sI (cq_sI (cq_sI (cq_sI (cq_sI h (x + 2) (cq_I h x 2) s) (x + 3) (cq_I h x 2) a) (x + 4) (cq_I h x 2) b) (x + 5) (cq_I h x 2) c) (x + 6) (cq_I h x 2) d) (x + 7) (cq_I h x 2) 0) x 2 (cq_I h x 2 + 1)
section
variable {h : cx_Q} {x : Nat} {s a b c d : Int}
theorem ap_x {k : Int} (q : k ≠ 2) : cq_I (apT h x s a b c d) x k = cq_I h x k := by
  unfold apT
  rw [mm_sI, if_neg (fun e => q e.2), mm_sI, if_neg (fun e => by omega), mm_sI, if_neg (fun e => by omega), mm_sI, if_neg (fun e => by omega), mm_sI, if_neg (fun e => by omega), mm_sI, if_neg (fun e => by omega), mm_sI, if_neg (fun e => by omega)]
theorem ap_2 : cq_I (apT h x s a b c d) x 2 = cq_I h x 2 + 1 := by
  unfold apT
  rw [mm_sI, if_pos ⟨rfl, rfl⟩]
/-- what the arrays say then -/
def apV (o : Nat) (s a b c d : Int) : Int := if o = 2 then s else if o = 3 then a else if o = 4 then b else if o = 5 then c else if o = 6 then d else 0
theorem ap_o {o : Nat} {k : Int} (h1 : 1 ≤ o) : cq_I (apT h x s a b c d) (x + o) k = if (2 ≤ o ∧ o ≤ 7) ∧ k = cq_I h x 2 then apV o s a b c d else cq_I h (x + o) k := by
  unfold apT
  rw [mm_sI, if_neg (fun e => by omega)]
  by_cases z : (2 ≤ o ∧ o ≤ 7) ∧ k = cq_I h x 2
  · rw [if_pos z]
    have : o = 2 ∨ o = 3 ∨ o = 4 ∨ o = 5 ∨ o = 6 ∨ o = 7 := by omega
    unfold apV
    obtain ⟨z1, z2⟩ := z
    subst z2
    rcases this with rfl | rfl | rfl | rfl | rfl | rfl
    · rw [mm_sI, if_neg (fun e => by omega), mm_sI, if_neg (fun e => by omega), mm_sI, if_neg (fun e => by omega), mm_sI, if_neg (fun e => by omega), mm_sI, if_neg (fun e => by omega), mm_sI, if_pos ⟨rfl, rfl⟩]
      rfl
    · rw [mm_sI, if_neg (fun e => by omega), mm_sI, if_neg (fun e => by omega), mm_sI, if_neg (fun e => by omega), mm_sI, if_neg (fun e => by omega), mm_sI, if_pos ⟨rfl, rfl⟩]
      rfl
    · rw [mm_sI, if_neg (fun e => by omega), mm_sI, if_neg (fun e => by omega), mm_sI, if_neg (fun e => by omega), mm_sI, if_pos ⟨rfl, rfl⟩]
      rfl
    · rw [mm_sI, if_neg (fun e => by omega), mm_sI, if_neg (fun e => by omega), mm_sI, if_pos ⟨rfl, rfl⟩]
      rfl
    · rw [mm_sI, if_neg (fun e => by omega), mm_sI, if_pos ⟨rfl, rfl⟩]
      rfl
    · rw [mm_sI, if_pos ⟨rfl, rfl⟩]
      rfl
  · rw [if_neg z]
    rw [mm_sI, if_neg (fun e => z ⟨by omega, e.2⟩), mm_sI, if_neg (fun e => z ⟨by omega, e.2⟩), mm_sI, if_neg (fun e => z ⟨by omega, e.2⟩), mm_sI, if_neg (fun e => z ⟨by omega, e.2⟩), mm_sI, if_neg (fun e => z ⟨by omega, e.2⟩), mm_sI, if_neg (fun e => z ⟨by omega, e.2⟩)]
theorem ap_k {o : Nat} {k : Int} (h1 : 1 ≤ o) (q : k ≠ cq_I h x 2) : cq_I (apT h x s a b c d) (x + o) k = cq_I h (x + o) k := by rw [ap_o h1, if_neg (fun e => q e.2)]
theorem ap_n {o : Nat} (h1 : 2 ≤ o ∧ o ≤ 7) : cq_I (apT h x s a b c d) (x + o) (cq_I h x 2) = apV o s a b c d := by rw [ap_o (by omega), if_pos ⟨h1, rfl⟩]
theorem ap_ex : exT x h (apT h x s a b c d) := by
  refine ⟨⟨by rw [ap_2]; omega, by rw [ap_x (by decide)]; exact Int.le_refl _⟩, fun k o q q2 q3 => ap_k (by omega) (by omega), fun k q1 q2 => ?_, fun k q => ⟨?_, rfl⟩⟩
  · rw [ap_2] at q2
    have : k = cq_I h x 2 := by omega
    rw [this, ap_n ⟨by decide, by decide⟩]
    rfl
  · rw [ap_o (by decide), if_neg (fun e => absurd e.1.2 (by decide))]
theorem ap_hT (h1 : 1 ≤ cq_I h x 2) : tmT x (apT h x s a b c d) (cq_I h x 2) s a b c d := ⟨⟨h1, by rw [ap_2]; omega⟩, by rw [ap_n ⟨by decide, by decide⟩]; rfl, by rw [ap_n ⟨by decide, by decide⟩]; rfl, by rw [ap_n ⟨by decide, by decide⟩]; rfl, by rw [ap_n ⟨by decide, by decide⟩]; rfl, by rw [ap_n ⟨by decide, by decide⟩]; rfl⟩
/-- none such is there -/
def nmT (x : Nat) (h : cx_Q) (s a b c d k : Int) : Prop := ∀ t, 1 ≤ t → t < k → s ≠ 1 → ¬ (cq_I h (x + 2) t = s ∧ cq_I h (x + 3) t = a ∧ cq_I h (x + 4) t = b ∧ cq_I h (x + 5) t = c ∧ cq_I h (x + 6) t = d)
theorem apV_b {o : Nat} {B : Int} (hB : 0 ≤ B) (hs : o ≠ 2) (ha : 0 ≤ a ∧ a ≤ B) (hb : 0 ≤ b ∧ b ≤ B) (hc : 0 ≤ c ∧ c ≤ B) (hd : 0 ≤ d ∧ d ≤ B) : 0 ≤ apV o s a b c d ∧ apV o s a b c d ≤ B := by
  unfold apV
  rw [if_neg hs]
  split
  · exact ha
  · split
    · exact hb
    · split
      · exact hc
      · split
        · exact hd
        · exact ⟨by omega, hB⟩
theorem ap_TI {F : Nat → Int → Int} {G : cx_Q → Prop} {N O : Int} (T : TI F G x h N O) (hN : N ≤ 16990) (ha : 0 ≤ a ∧ a < cq_I h x 2) (hb : 0 ≤ b ∧ b < cq_I h x 2) (hc : 0 ≤ c ∧ c < cq_I h x 2) (hd : 0 ≤ d ∧ d < cq_I h x 2) (nm : nmT x h s a b c d (cq_I h x 2)) : TI F (fun g => G g ∧ tmT x g (cq_I h x 2) s a b c d) x (apT h x s a b c d) (N + 1) O := by
  have t1 := T.1
  have v2 : apV 2 s a b c d = s := rfl
  have v3 : apV 3 s a b c d = a := rfl
  have v4 : apV 4 s a b c d = b := rfl
  have v5 : apV 5 s a b c d = c := rfl
  have v6 : apV 6 s a b c d = d := rfl
  refine ⟨by rw [ap_2]; omega, by rw [ap_x (by decide)]; exact T.2.1, by rw [ap_x (by decide)]; exact T.2.2.1, fun o ho k => ?_, ⟨?_, ?_, ?_, ?_⟩, fun o ho k => ?_, ⟨T.st _ _ ap_ex T.g, ap_hT t1.1⟩, sta_and T.st sta_hT⟩
  · rw [ap_o (tV_pos o ho)]
    split
    · exact apV_b (by decide) (fun e => by rw [e] at ho; exact absurd ho (by decide)) (by omega) (by omega) (by omega) (by omega)
    · exact T.tv o ho k
  · intro t t' q1 q2 q1' q2'
    rw [ap_2] at q2 q2'
    have key : ∀ u, 1 ≤ u → u < cq_I h x 2 → s ≠ 1 → cq_I h (x + 2) u = s → cq_I h (x + 3) u = a → cq_I h (x + 4) u = b → cq_I h (x + 5) u = c → cq_I h (x + 6) u = d → False := fun u u1 u2 w e2 e3 e4 e5 e6 => nm u u1 u2 w ⟨e2, e3, e4, e5, e6⟩
    by_cases z : t = cq_I h x 2
    · by_cases z' : t' = cq_I h x 2
      · intros
        rw [z, z']
      · rw [z, ap_n ⟨by decide, by decide⟩, ap_n ⟨by decide, by decide⟩, ap_n ⟨by decide, by decide⟩, ap_n ⟨by decide, by decide⟩, ap_n ⟨by decide, by decide⟩, ap_k (by decide) z', ap_k (by decide) z', ap_k (by decide) z', ap_k (by decide) z', ap_k (by decide) z', v2, v3, v4, v5, v6]
        intro w e2 e3 e4 e5 e6
        exact (key t' q1' (by omega) w e2.symm e3.symm e4.symm e5.symm e6.symm).elim
    · by_cases z' : t' = cq_I h x 2
      · rw [z', ap_n ⟨by decide, by decide⟩, ap_n ⟨by decide, by decide⟩, ap_n ⟨by decide, by decide⟩, ap_n ⟨by decide, by decide⟩, ap_n ⟨by decide, by decide⟩, ap_k (by decide) z, ap_k (by decide) z, ap_k (by decide) z, ap_k (by decide) z, ap_k (by decide) z, v2, v3, v4, v5, v6]
        intro w e2 e3 e4 e5 e6
        exact (key t q1 (by omega) (by rw [← e2]; exact w) e2 e3 e4 e5 e6).elim
      · rw [ap_k (by decide) z, ap_k (by decide) z, ap_k (by decide) z, ap_k (by decide) z, ap_k (by decide) z, ap_k (by decide) z', ap_k (by decide) z', ap_k (by decide) z', ap_k (by decide) z', ap_k (by decide) z']
        exact T.tw.1 t t' q1 (by omega) q1' (by omega)
  · intro t q1 q2
    rw [ap_2] at q2
    by_cases z : t = cq_I h x 2
    · rw [z, ap_n ⟨by decide, by decide⟩, ap_n ⟨by decide, by decide⟩, ap_n ⟨by decide, by decide⟩, ap_n ⟨by decide, by decide⟩, v3, v4, v5, v6]
      exact ⟨ha.2, hb.2, hc.2, hd.2⟩
    · rw [ap_k (by decide) z, ap_k (by decide) z, ap_k (by decide) z, ap_k (by decide) z]
      exact T.tw.2.1 t q1 (by omega)
  · intro o ho k
    rw [ap_2, ap_o (tV_pos o ho)]
    split
    · have := apV_b (o := o) (s := s) (B := cq_I h x 2 - 1) (by omega) (fun e => by rw [e] at ho; exact absurd ho (by decide)) ⟨ha.1, by omega⟩ ⟨hb.1, by omega⟩ ⟨hc.1, by omega⟩ ⟨hd.1, by omega⟩
      omega
    · have := T.lt o ho k
      omega
  · rw [ap_2, ap_x (by decide)]
    have := T.tw.2.2.2
    omega
  · have no : ¬ ((2 ≤ o ∧ o ≤ 7) ∧ k = cq_I h x 2) := fun e => by
      have : o = 2 ∨ o = 3 ∨ o = 4 ∨ o = 5 ∨ o = 6 ∨ o = 7 := by omega
      rcases this with rfl | rfl | rfl | rfl | rfl | rfl <;> exact absurd ho (by decide)
    rw [ap_o (tR_V o ho).2.1, if_neg no]
    exact T.re o ho k
theorem ap_eT : eT x h (apT h x s a b c d) := by
  unfold apT
  repeat' (first | with_reducible exact eT.refl _ _ | with_reducible assumption | (with_reducible refine eT.tI ?_ ?_; rotate_left; first | exact isT_a (by decide) | exact isT_f (by decide)) | (with_reducible refine eT.tJ ?_ ?_; rotate_left; first | exact isT_a (by decide) | exact isT_f (by decide)) | with_reducible refine eT.sI ?_ | with_reducible refine eT.sJ ?_)
end
theorem c_X11_term {Y : cx_Y} (hY : cY Y) {K : Option cx_V → cx_Q → Prop} {h : cx_Q} {F : Nat → Int → Int} {G : cx_Q → Prop} {x : Nat} {N O sort a b c d : Int} (hS : rS h x) (T : TI F G x h N O) (hN : N ≤ 16990) (ha : 0 ≤ a ∧ a < cq_I h x 2) (hb : 0 ≤ b ∧ b < cq_I h x 2) (hc : 0 ≤ c ∧ c < cq_I h x 2) (hd : 0 ≤ d ∧ d < cq_I h x 2)
    (hK : ∀ (t : Int) (h' : cx_Q), 0 ≤ t → t ≤ 16999 → eT x h h' → TI F (fun g => G g ∧ tmT x g t sort a b c d) x h' (N + 1) O → cq_I h' x 10 = cq_I h x 10 → (sort = 1 → t = cq_I h x 2 ∧ cq_I h' x 2 = cq_I h x 2 + 1) → K (some (.inl t)) h') : cw Y mi_X11_term K 0 [some (.inr (.inr (some x))), some (.inl sort), some (.inl a), some (.inl b), some (.inl c), some (.inl d), none] [] h 0 0 := by
  have t1 := T.1
  have T1 := T.le (N' := N + 1) (O' := O) (by omega) (by omega)
  have j83 : ∀ k : Int, nmT x h sort a b c d (cq_I h x 2) → cw Y mi_X11_term K 83 [some (.inr (.inr (some x))), some (.inl sort), some (.inl a), some (.inl b), some (.inl c), some (.inl d), some (.inl k)] [] h 0 0 := by
    intro k nm
    have fin := hK (cq_I h x 2) (apT h x sort a b c d) (by omega) (by omega) ap_eT (ap_TI T hN ha hb hc hd nm) (ap_x (by decide)) (fun _ => ⟨rfl, ap_2⟩)
    unfold apT at fin
    refine bx_X11_term_83 hY (pf1_ok hY) ?_
    simp only [wp_iconst, wp_bipush, wp_sipush, wp_ldc, wp_ldc2_w, wp_lconst0, wp_lconst1, wp_aconst_null, wp_iload_0, wp_istore_0, wp_iload_1, wp_istore_1, wp_iload_2, wp_istore_2, wp_iload_3, wp_istore_3, wp_iload, wp_istore, wp_lload_0, wp_lstore_0, wp_lload_1, wp_lstore_1, wp_lload_2, wp_lstore_2, wp_lload_3, wp_lstore_3, wp_lload, wp_lstore, wp_aload_0, wp_astore_0, wp_aload_1, wp_astore_1, wp_aload_2, wp_astore_2, wp_aload_3, wp_astore_3, wp_aload, wp_astore, wp_iinc, wp_iadd, wp_isub, wp_imul, wp_iand, wp_ior, wp_ixor, wp_ishl, wp_ishr, wp_iushr, wp_irem, wp_ladd, wp_lsub, wp_lmul, wp_land, wp_lor, wp_lxor, wp_lshl, wp_lshr, wp_lushr, wp_lrem, wp_lcmp, wp_i2l, wp_l2i, wp_dupI, wp_dupA, wp_dup2J, wp_dup2IA, wp_popI, wp_popA, wp_pop2, wp_goto, wp_if_eq, wp_icmp_eq, wp_if_ne, wp_icmp_ne, wp_if_lt, wp_icmp_lt, wp_if_ge, wp_icmp_ge, wp_if_gt, wp_icmp_gt, wp_if_le, wp_icmp_le, wp_ifnull, wp_ifnonnull, wp_acmp_eq, wp_acmp_ne, wp_tableswitch, wp_get0, wp_put0, wp_get1, wp_put1, wp_get2, wp_put2, wp_get3, wp_put3, wp_new, wp_newarray, wp_anewarray, wp_alen, wp_iaload, wp_laload, wp_baload, wp_aaload, wp_iastore, wp_lastore, wp_bastore, wp_aastore, wp_return, wp_ireturnI, wp_ireturnZ, wp_lreturn, wp_areturnO, wp_areturnA, wp_max, wp_min, wp_obj, wp_virt, wp_nil, ld_I0, ld_Is, ld_J0, ld_Js, ld_A0, ld_As, ha_0, ha_s, cx_put1, cx_put2, cx_dl, cx_tgt, true_and, and_true, Nat.reduceAdd, Nat.reduceSub, Int.reduceAdd, Int.reduceNeg, Int.reduceToNat, Int.reduceSub, Int.cast_ofNat_Int, List.take_succ_cons, List.take_zero, List.drop_succ_cons, List.drop_zero, List.take_nil, List.drop_nil, Option.toList_some, Option.toList_none, List.cons_append, List.nil_append, wp_spec, ne_eq, Nat.reduceEqDiff, not_false_eq_true, true_or, or_true, rA_tSort hS, rs_tSort hS, rz_tSort hS, ra_107, rA_tA hS, rs_tA hS, rz_tA hS, ra_108, rA_tB hS, rs_tB hS, rz_tB hS, ra_109, rA_tC hS, rs_tC hS, rz_tC hS, ra_110, rA_tD hS, rs_tD hS, rz_tD hS, ra_111, rA_isGot hS, rs_isGot hS, rz_isGot hS, ra_112, (hS).1, mm_sI, mm_sJ, mm_sA, mm_IJ, mm_IA, mm_JI, mm_JA, mm_AI, mm_AJ, mm_ssI, mm_ssJ, mm_ssA, mm_zI, mm_zJ, mm_zA, mm_nI, mm_nJ, mm_nA, Nat.left_eq_add, Nat.add_eq_left, Nat.add_left_cancel_iff, Nat.reduceEqDiff, Int.reduceEq, false_and, and_false, if_false, if_true, and_self, true_and, true_or, or_true, false_or, or_false, cx_rg]
    (repeat' (with_reducible (first | refine And.intro ?_ ?_ | intro _)))
    all_goals (try omega)
    rw [show cq_I h x 2 + 1 - 1 = cq_I h x 2 by omega]
    exact fin
  have found : ∀ k : Int, 1 ≤ k → k < cq_I h x 2 → sort ≠ 1 → cq_I h (x + 2) k = sort → cq_I h (x + 3) k = a → cq_I h (x + 4) k = b → cq_I h (x + 5) k = c → cq_I h (x + 6) k = d → K (some (.inl k)) h := fun k k1 k2 w e2 e3 e4 e5 e6 => hK k h (by omega) (by omega) (eT.refl _ _) (T1.more (G' := fun g => tmT x g k sort a b c d) ⟨⟨k1, k2⟩, e2, e3, e4, e5, e6⟩ sta_hT) rfl (fun z => absurd z w)
  have loop : ∀ (n : Nat) (k : Int), 1 ≤ k → k ≤ cq_I h x 2 → cq_I h x 2 - k ≤ n → nmT x h sort a b c d k → cw Y mi_X11_term K 3 [some (.inr (.inr (some x))), some (.inl sort), some (.inl a), some (.inl b), some (.inl c), some (.inl d), some (.inl k)] [] h 0 0 := by
    intro n
    induction n with
    | zero =>
      intro k h1 h2 h3 nm
      have ek : k = cq_I h x 2 := by omega
      refine bx_X11_term_3 hY (pf1_ok hY) ?_
      simp only [wp_iconst, wp_bipush, wp_sipush, wp_ldc, wp_ldc2_w, wp_lconst0, wp_lconst1, wp_aconst_null, wp_iload_0, wp_istore_0, wp_iload_1, wp_istore_1, wp_iload_2, wp_istore_2, wp_iload_3, wp_istore_3, wp_iload, wp_istore, wp_lload_0, wp_lstore_0, wp_lload_1, wp_lstore_1, wp_lload_2, wp_lstore_2, wp_lload_3, wp_lstore_3, wp_lload, wp_lstore, wp_aload_0, wp_astore_0, wp_aload_1, wp_astore_1, wp_aload_2, wp_astore_2, wp_aload_3, wp_astore_3, wp_aload, wp_astore, wp_iinc, wp_iadd, wp_isub, wp_imul, wp_iand, wp_ior, wp_ixor, wp_ishl, wp_ishr, wp_iushr, wp_irem, wp_ladd, wp_lsub, wp_lmul, wp_land, wp_lor, wp_lxor, wp_lshl, wp_lshr, wp_lushr, wp_lrem, wp_lcmp, wp_i2l, wp_l2i, wp_dupI, wp_dupA, wp_dup2J, wp_dup2IA, wp_popI, wp_popA, wp_pop2, wp_goto, wp_if_eq, wp_icmp_eq, wp_if_ne, wp_icmp_ne, wp_if_lt, wp_icmp_lt, wp_if_ge, wp_icmp_ge, wp_if_gt, wp_icmp_gt, wp_if_le, wp_icmp_le, wp_ifnull, wp_ifnonnull, wp_acmp_eq, wp_acmp_ne, wp_tableswitch, wp_get0, wp_put0, wp_get1, wp_put1, wp_get2, wp_put2, wp_get3, wp_put3, wp_new, wp_newarray, wp_anewarray, wp_alen, wp_iaload, wp_laload, wp_baload, wp_aaload, wp_iastore, wp_lastore, wp_bastore, wp_aastore, wp_return, wp_ireturnI, wp_ireturnZ, wp_lreturn, wp_areturnO, wp_areturnA, wp_max, wp_min, wp_obj, wp_virt, wp_nil, ld_I0, ld_Is, ld_J0, ld_Js, ld_A0, ld_As, ha_0, ha_s, cx_put1, cx_put2, cx_dl, cx_tgt, true_and, and_true, Nat.reduceAdd, Nat.reduceSub, Int.reduceAdd, Int.reduceNeg, Int.reduceToNat, Int.reduceSub, Int.cast_ofNat_Int, List.take_succ_cons, List.take_zero, List.drop_succ_cons, List.drop_zero, List.take_nil, List.drop_nil, Option.toList_some, Option.toList_none, List.cons_append, List.nil_append, wp_spec, ne_eq, Nat.reduceEqDiff, not_false_eq_true, true_or, or_true, rA_tSort hS, rs_tSort hS, rz_tSort hS, ra_107, rA_tA hS, rs_tA hS, rz_tA hS, ra_108, rA_tB hS, rs_tB hS, rz_tB hS, ra_109, rA_tC hS, rs_tC hS, rz_tC hS, ra_110, rA_tD hS, rs_tD hS, rz_tD hS, ra_111, rA_isGot hS, rs_isGot hS, rz_isGot hS, ra_112, (hS).1]
      exact ⟨fun _ => j83 k (by rw [← ek]; exact nm), fun q => absurd q (by omega)⟩
    | succ n ih =>
      intro k h1 h2 h3 nm
      have j77 : k < cq_I h x 2 → (sort ≠ 1 → ¬ (cq_I h (x + 2) k = sort ∧ cq_I h (x + 3) k = a ∧ cq_I h (x + 4) k = b ∧ cq_I h (x + 5) k = c ∧ cq_I h (x + 6) k = d)) → cw Y mi_X11_term K 77 [some (.inr (.inr (some x))), some (.inl sort), some (.inl a), some (.inl b), some (.inl c), some (.inl d), some (.inl k)] [] h 0 0 := by
        intro hk nk
        refine bx_X11_term_77 hY (pf1_ok hY) ?_
        simp only [wp_iconst, wp_bipush, wp_sipush, wp_ldc, wp_ldc2_w, wp_lconst0, wp_lconst1, wp_aconst_null, wp_iload_0, wp_istore_0, wp_iload_1, wp_istore_1, wp_iload_2, wp_istore_2, wp_iload_3, wp_istore_3, wp_iload, wp_istore, wp_lload_0, wp_lstore_0, wp_lload_1, wp_lstore_1, wp_lload_2, wp_lstore_2, wp_lload_3, wp_lstore_3, wp_lload, wp_lstore, wp_aload_0, wp_astore_0, wp_aload_1, wp_astore_1, wp_aload_2, wp_astore_2, wp_aload_3, wp_astore_3, wp_aload, wp_astore, wp_iinc, wp_iadd, wp_isub, wp_imul, wp_iand, wp_ior, wp_ixor, wp_ishl, wp_ishr, wp_iushr, wp_irem, wp_ladd, wp_lsub, wp_lmul, wp_land, wp_lor, wp_lxor, wp_lshl, wp_lshr, wp_lushr, wp_lrem, wp_lcmp, wp_i2l, wp_l2i, wp_dupI, wp_dupA, wp_dup2J, wp_dup2IA, wp_popI, wp_popA, wp_pop2, wp_goto, wp_if_eq, wp_icmp_eq, wp_if_ne, wp_icmp_ne, wp_if_lt, wp_icmp_lt, wp_if_ge, wp_icmp_ge, wp_if_gt, wp_icmp_gt, wp_if_le, wp_icmp_le, wp_ifnull, wp_ifnonnull, wp_acmp_eq, wp_acmp_ne, wp_tableswitch, wp_get0, wp_put0, wp_get1, wp_put1, wp_get2, wp_put2, wp_get3, wp_put3, wp_new, wp_newarray, wp_anewarray, wp_alen, wp_iaload, wp_laload, wp_baload, wp_aaload, wp_iastore, wp_lastore, wp_bastore, wp_aastore, wp_return, wp_ireturnI, wp_ireturnZ, wp_lreturn, wp_areturnO, wp_areturnA, wp_max, wp_min, wp_obj, wp_virt, wp_nil, ld_I0, ld_Is, ld_J0, ld_Js, ld_A0, ld_As, ha_0, ha_s, cx_put1, cx_put2, cx_dl, cx_tgt, true_and, and_true, Nat.reduceAdd, Nat.reduceSub, Int.reduceAdd, Int.reduceNeg, Int.reduceToNat, Int.reduceSub, Int.cast_ofNat_Int, List.take_succ_cons, List.take_zero, List.drop_succ_cons, List.drop_zero, List.take_nil, List.drop_nil, Option.toList_some, Option.toList_none, List.cons_append, List.nil_append, wp_spec, ne_eq, Nat.reduceEqDiff, not_false_eq_true, true_or, or_true, cx_rg]
        refine ⟨by omega, ih _ (by omega) (by omega) (by omega) (fun t q1 q2 w => ?_)⟩
        by_cases z : t < k
        · exact nm t q1 z w
        · rw [show t = k by omega]
          exact nk w
      have jE : k = cq_I h x 2 → cw Y mi_X11_term K 83 [some (.inr (.inr (some x))), some (.inl sort), some (.inl a), some (.inl b), some (.inl c), some (.inl d), some (.inl k)] [] h 0 0 := fun ek => j83 k (by rw [← ek]; exact nm)
      have jS : sort = 1 → cw Y mi_X11_term K 83 [some (.inr (.inr (some x))), some (.inl sort), some (.inl a), some (.inl b), some (.inl c), some (.inl d), some (.inl k)] [] h 0 0 := fun es => j83 k (fun t _ _ w => absurd es w)
      refine bx_X11_term_3 hY (pf1_ok hY) ?_
      simp only [wp_iconst, wp_bipush, wp_sipush, wp_ldc, wp_ldc2_w, wp_lconst0, wp_lconst1, wp_aconst_null, wp_iload_0, wp_istore_0, wp_iload_1, wp_istore_1, wp_iload_2, wp_istore_2, wp_iload_3, wp_istore_3, wp_iload, wp_istore, wp_lload_0, wp_lstore_0, wp_lload_1, wp_lstore_1, wp_lload_2, wp_lstore_2, wp_lload_3, wp_lstore_3, wp_lload, wp_lstore, wp_aload_0, wp_astore_0, wp_aload_1, wp_astore_1, wp_aload_2, wp_astore_2, wp_aload_3, wp_astore_3, wp_aload, wp_astore, wp_iinc, wp_iadd, wp_isub, wp_imul, wp_iand, wp_ior, wp_ixor, wp_ishl, wp_ishr, wp_iushr, wp_irem, wp_ladd, wp_lsub, wp_lmul, wp_land, wp_lor, wp_lxor, wp_lshl, wp_lshr, wp_lushr, wp_lrem, wp_lcmp, wp_i2l, wp_l2i, wp_dupI, wp_dupA, wp_dup2J, wp_dup2IA, wp_popI, wp_popA, wp_pop2, wp_goto, wp_if_eq, wp_icmp_eq, wp_if_ne, wp_icmp_ne, wp_if_lt, wp_icmp_lt, wp_if_ge, wp_icmp_ge, wp_if_gt, wp_icmp_gt, wp_if_le, wp_icmp_le, wp_ifnull, wp_ifnonnull, wp_acmp_eq, wp_acmp_ne, wp_tableswitch, wp_get0, wp_put0, wp_get1, wp_put1, wp_get2, wp_put2, wp_get3, wp_put3, wp_new, wp_newarray, wp_anewarray, wp_alen, wp_iaload, wp_laload, wp_baload, wp_aaload, wp_iastore, wp_lastore, wp_bastore, wp_aastore, wp_return, wp_ireturnI, wp_ireturnZ, wp_lreturn, wp_areturnO, wp_areturnA, wp_max, wp_min, wp_obj, wp_virt, wp_nil, ld_I0, ld_Is, ld_J0, ld_Js, ld_A0, ld_As, ha_0, ha_s, cx_put1, cx_put2, cx_dl, cx_tgt, true_and, and_true, Nat.reduceAdd, Nat.reduceSub, Int.reduceAdd, Int.reduceNeg, Int.reduceToNat, Int.reduceSub, Int.cast_ofNat_Int, List.take_succ_cons, List.take_zero, List.drop_succ_cons, List.drop_zero, List.take_nil, List.drop_nil, Option.toList_some, Option.toList_none, List.cons_append, List.nil_append, wp_spec, ne_eq, Nat.reduceEqDiff, not_false_eq_true, true_or, or_true, rA_tSort hS, rs_tSort hS, rz_tSort hS, ra_107, rA_tA hS, rs_tA hS, rz_tA hS, ra_108, rA_tB hS, rs_tB hS, rz_tB hS, ra_109, rA_tC hS, rs_tC hS, rz_tC hS, ra_110, rA_tD hS, rs_tD hS, rz_tD hS, ra_111, rA_isGot hS, rs_isGot hS, rz_isGot hS, ra_112, (hS).1]
      (repeat' (with_reducible (first | refine And.intro ?_ ?_ | intro _)))
      all_goals (first | omega | exact jE (by omega) | exact jS (by omega) | exact j77 (by omega) (fun w z => by omega) | exact found k (by omega) (by omega) (by omega) (by omega) (by omega) (by omega) (by omega) (by omega))
  refine bx_X11_term_0 hY (pf1_ok hY) ?_
  simp only [wp_iconst, wp_bipush, wp_sipush, wp_ldc, wp_ldc2_w, wp_lconst0, wp_lconst1, wp_aconst_null, wp_iload_0, wp_istore_0, wp_iload_1, wp_istore_1, wp_iload_2, wp_istore_2, wp_iload_3, wp_istore_3, wp_iload, wp_istore, wp_lload_0, wp_lstore_0, wp_lload_1, wp_lstore_1, wp_lload_2, wp_lstore_2, wp_lload_3, wp_lstore_3, wp_lload, wp_lstore, wp_aload_0, wp_astore_0, wp_aload_1, wp_astore_1, wp_aload_2, wp_astore_2, wp_aload_3, wp_astore_3, wp_aload, wp_astore, wp_iinc, wp_iadd, wp_isub, wp_imul, wp_iand, wp_ior, wp_ixor, wp_ishl, wp_ishr, wp_iushr, wp_irem, wp_ladd, wp_lsub, wp_lmul, wp_land, wp_lor, wp_lxor, wp_lshl, wp_lshr, wp_lushr, wp_lrem, wp_lcmp, wp_i2l, wp_l2i, wp_dupI, wp_dupA, wp_dup2J, wp_dup2IA, wp_popI, wp_popA, wp_pop2, wp_goto, wp_if_eq, wp_icmp_eq, wp_if_ne, wp_icmp_ne, wp_if_lt, wp_icmp_lt, wp_if_ge, wp_icmp_ge, wp_if_gt, wp_icmp_gt, wp_if_le, wp_icmp_le, wp_ifnull, wp_ifnonnull, wp_acmp_eq, wp_acmp_ne, wp_tableswitch, wp_get0, wp_put0, wp_get1, wp_put1, wp_get2, wp_put2, wp_get3, wp_put3, wp_new, wp_newarray, wp_anewarray, wp_alen, wp_iaload, wp_laload, wp_baload, wp_aaload, wp_iastore, wp_lastore, wp_bastore, wp_aastore, wp_return, wp_ireturnI, wp_ireturnZ, wp_lreturn, wp_areturnO, wp_areturnA, wp_max, wp_min, wp_obj, wp_virt, wp_nil, ld_I0, ld_Is, ld_J0, ld_Js, ld_A0, ld_As, ha_0, ha_s, cx_put1, cx_put2, cx_dl, cx_tgt, true_and, and_true, Nat.reduceAdd, Nat.reduceSub, Int.reduceAdd, Int.reduceNeg, Int.reduceToNat, Int.reduceSub, Int.cast_ofNat_Int, List.take_succ_cons, List.take_zero, List.drop_succ_cons, List.drop_zero, List.take_nil, List.drop_nil, Option.toList_some, Option.toList_none, List.cons_append, List.nil_append, wp_spec, ne_eq, Nat.reduceEqDiff, not_false_eq_true, true_or, or_true]
  exact loop (cq_I h x 2).toNat 1 (by omega) (by omega) (by omega) (fun t q1 q2 => by omega)
theorem c_X11_secretOf {Y : cx_Y} (hY : cY Y) {K : Option cx_V → cx_Q → Prop} {h : cx_Q} {F : Nat → Int → Int} {G : cx_Q → Prop} {x : Nat} {N O : Int} {a : Int64} (hS : rS h x) (T : TI F G x h N O) (hO : O ≤ 1990)
    (hK : ∀ t : Int, 0 ≤ t → t ≤ 16999 → t < cq_I h x 2 → sO x h (cq_I h x 10) a t → K (some (.inl t)) h) : cw Y mi_X11_secretOf K 0 [some (.inr (.inr (some x))), some (.inr (.inl a)), none, none] [] h 0 0 := by
  have t1 := T.2.1
  have t0 := T.1
  have loop : ∀ (n : Nat) (k : Int), 0 ≤ k → k ≤ cq_I h x 10 → cq_I h x 10 - k ≤ n → (∀ k', 0 ≤ k' → k' < k → cq_J h (x + 9) k' ≠ a) → cw Y mi_X11_secretOf K 2 [some (.inr (.inr (some x))), some (.inr (.inl a)), none, some (.inl k)] [] h 0 0 := by
    have j34 : ∀ k : Int, k = cq_I h x 10 → (∀ k', 0 ≤ k' → k' < k → cq_J h (x + 9) k' ≠ a) → cw Y mi_X11_secretOf K 34 [some (.inr (.inr (some x))), some (.inr (.inl a)), none, some (.inl k)] [] h 0 0 := by
      intro k ek nk
      refine bx_X11_secretOf_34 hY (pf1_ok hY) ?_
      simp only [wp_iconst, wp_bipush, wp_sipush, wp_ldc, wp_ldc2_w, wp_lconst0, wp_lconst1, wp_aconst_null, wp_iload_0, wp_istore_0, wp_iload_1, wp_istore_1, wp_iload_2, wp_istore_2, wp_iload_3, wp_istore_3, wp_iload, wp_istore, wp_lload_0, wp_lstore_0, wp_lload_1, wp_lstore_1, wp_lload_2, wp_lstore_2, wp_lload_3, wp_lstore_3, wp_lload, wp_lstore, wp_aload_0, wp_astore_0, wp_aload_1, wp_astore_1, wp_aload_2, wp_astore_2, wp_aload_3, wp_astore_3, wp_aload, wp_astore, wp_iinc, wp_iadd, wp_isub, wp_imul, wp_iand, wp_ior, wp_ixor, wp_ishl, wp_ishr, wp_iushr, wp_irem, wp_ladd, wp_lsub, wp_lmul, wp_land, wp_lor, wp_lxor, wp_lshl, wp_lshr, wp_lushr, wp_lrem, wp_lcmp, wp_i2l, wp_l2i, wp_dupI, wp_dupA, wp_dup2J, wp_dup2IA, wp_popI, wp_popA, wp_pop2, wp_goto, wp_if_eq, wp_icmp_eq, wp_if_ne, wp_icmp_ne, wp_if_lt, wp_icmp_lt, wp_if_ge, wp_icmp_ge, wp_if_gt, wp_icmp_gt, wp_if_le, wp_icmp_le, wp_ifnull, wp_ifnonnull, wp_acmp_eq, wp_acmp_ne, wp_tableswitch, wp_get0, wp_put0, wp_get1, wp_put1, wp_get2, wp_put2, wp_get3, wp_put3, wp_new, wp_newarray, wp_anewarray, wp_alen, wp_iaload, wp_laload, wp_baload, wp_aaload, wp_iastore, wp_lastore, wp_bastore, wp_aastore, wp_return, wp_ireturnI, wp_ireturnZ, wp_lreturn, wp_areturnO, wp_areturnA, wp_max, wp_min, wp_obj, wp_virt, wp_nil, ld_I0, ld_Is, ld_J0, ld_Js, ld_A0, ld_As, ha_0, ha_s, cx_put1, cx_put2, cx_dl, cx_tgt, true_and, and_true, Nat.reduceAdd, Nat.reduceSub, Int.reduceAdd, Int.reduceNeg, Int.reduceToNat, Int.reduceSub, Int.cast_ofNat_Int, List.take_succ_cons, List.take_zero, List.drop_succ_cons, List.drop_zero, List.take_nil, List.drop_nil, Option.toList_some, Option.toList_none, List.cons_append, List.nil_append, wp_spec, ne_eq, Nat.reduceEqDiff, not_false_eq_true, true_or, or_true]
      exact hK 0 (by omega) (by omega) (by omega) (Or.inr ⟨rfl, fun k' q1 q2 => nk k' q1 (by omega)⟩)
    intro n
    induction n with
    | zero =>
      intro k h1 h2 h3 nk
      refine bx_X11_secretOf_2 hY (pf1_ok hY) ?_
      simp only [wp_iconst, wp_bipush, wp_sipush, wp_ldc, wp_ldc2_w, wp_lconst0, wp_lconst1, wp_aconst_null, wp_iload_0, wp_istore_0, wp_iload_1, wp_istore_1, wp_iload_2, wp_istore_2, wp_iload_3, wp_istore_3, wp_iload, wp_istore, wp_lload_0, wp_lstore_0, wp_lload_1, wp_lstore_1, wp_lload_2, wp_lstore_2, wp_lload_3, wp_lstore_3, wp_lload, wp_lstore, wp_aload_0, wp_astore_0, wp_aload_1, wp_astore_1, wp_aload_2, wp_astore_2, wp_aload_3, wp_astore_3, wp_aload, wp_astore, wp_iinc, wp_iadd, wp_isub, wp_imul, wp_iand, wp_ior, wp_ixor, wp_ishl, wp_ishr, wp_iushr, wp_irem, wp_ladd, wp_lsub, wp_lmul, wp_land, wp_lor, wp_lxor, wp_lshl, wp_lshr, wp_lushr, wp_lrem, wp_lcmp, wp_i2l, wp_l2i, wp_dupI, wp_dupA, wp_dup2J, wp_dup2IA, wp_popI, wp_popA, wp_pop2, wp_goto, wp_if_eq, wp_icmp_eq, wp_if_ne, wp_icmp_ne, wp_if_lt, wp_icmp_lt, wp_if_ge, wp_icmp_ge, wp_if_gt, wp_icmp_gt, wp_if_le, wp_icmp_le, wp_ifnull, wp_ifnonnull, wp_acmp_eq, wp_acmp_ne, wp_tableswitch, wp_get0, wp_put0, wp_get1, wp_put1, wp_get2, wp_put2, wp_get3, wp_put3, wp_new, wp_newarray, wp_anewarray, wp_alen, wp_iaload, wp_laload, wp_baload, wp_aaload, wp_iastore, wp_lastore, wp_bastore, wp_aastore, wp_return, wp_ireturnI, wp_ireturnZ, wp_lreturn, wp_areturnO, wp_areturnA, wp_max, wp_min, wp_obj, wp_virt, wp_nil, ld_I0, ld_Is, ld_J0, ld_Js, ld_A0, ld_As, ha_0, ha_s, cx_put1, cx_put2, cx_dl, cx_tgt, true_and, and_true, Nat.reduceAdd, Nat.reduceSub, Int.reduceAdd, Int.reduceNeg, Int.reduceToNat, Int.reduceSub, Int.cast_ofNat_Int, List.take_succ_cons, List.take_zero, List.drop_succ_cons, List.drop_zero, List.take_nil, List.drop_nil, Option.toList_some, Option.toList_none, List.cons_append, List.nil_append, wp_spec, ne_eq, Nat.reduceEqDiff, not_false_eq_true, true_or, or_true, rA_openNumber hS, rs_openNumber hS, rz_openNumber hS, ra_114, rA_openTerm hS, rs_openTerm hS, rz_openTerm hS, ra_115, (hS).1]
      exact ⟨fun _ => j34 k (by omega) nk, fun q => absurd q (by omega)⟩
    | succ n ih =>
      intro k h1 h2 h3 nk
      have j28 : k < cq_I h x 10 → cq_J h (x + 9) k ≠ a → cw Y mi_X11_secretOf K 28 [some (.inr (.inr (some x))), some (.inr (.inl a)), none, some (.inl k)] [] h 0 0 := by
        intro hk w
        refine bx_X11_secretOf_28 hY (pf1_ok hY) ?_
        simp only [wp_iconst, wp_bipush, wp_sipush, wp_ldc, wp_ldc2_w, wp_lconst0, wp_lconst1, wp_aconst_null, wp_iload_0, wp_istore_0, wp_iload_1, wp_istore_1, wp_iload_2, wp_istore_2, wp_iload_3, wp_istore_3, wp_iload, wp_istore, wp_lload_0, wp_lstore_0, wp_lload_1, wp_lstore_1, wp_lload_2, wp_lstore_2, wp_lload_3, wp_lstore_3, wp_lload, wp_lstore, wp_aload_0, wp_astore_0, wp_aload_1, wp_astore_1, wp_aload_2, wp_astore_2, wp_aload_3, wp_astore_3, wp_aload, wp_astore, wp_iinc, wp_iadd, wp_isub, wp_imul, wp_iand, wp_ior, wp_ixor, wp_ishl, wp_ishr, wp_iushr, wp_irem, wp_ladd, wp_lsub, wp_lmul, wp_land, wp_lor, wp_lxor, wp_lshl, wp_lshr, wp_lushr, wp_lrem, wp_lcmp, wp_i2l, wp_l2i, wp_dupI, wp_dupA, wp_dup2J, wp_dup2IA, wp_popI, wp_popA, wp_pop2, wp_goto, wp_if_eq, wp_icmp_eq, wp_if_ne, wp_icmp_ne, wp_if_lt, wp_icmp_lt, wp_if_ge, wp_icmp_ge, wp_if_gt, wp_icmp_gt, wp_if_le, wp_icmp_le, wp_ifnull, wp_ifnonnull, wp_acmp_eq, wp_acmp_ne, wp_tableswitch, wp_get0, wp_put0, wp_get1, wp_put1, wp_get2, wp_put2, wp_get3, wp_put3, wp_new, wp_newarray, wp_anewarray, wp_alen, wp_iaload, wp_laload, wp_baload, wp_aaload, wp_iastore, wp_lastore, wp_bastore, wp_aastore, wp_return, wp_ireturnI, wp_ireturnZ, wp_lreturn, wp_areturnO, wp_areturnA, wp_max, wp_min, wp_obj, wp_virt, wp_nil, ld_I0, ld_Is, ld_J0, ld_Js, ld_A0, ld_As, ha_0, ha_s, cx_put1, cx_put2, cx_dl, cx_tgt, true_and, and_true, Nat.reduceAdd, Nat.reduceSub, Int.reduceAdd, Int.reduceNeg, Int.reduceToNat, Int.reduceSub, Int.cast_ofNat_Int, List.take_succ_cons, List.take_zero, List.drop_succ_cons, List.drop_zero, List.take_nil, List.drop_nil, Option.toList_some, Option.toList_none, List.cons_append, List.nil_append, wp_spec, ne_eq, Nat.reduceEqDiff, not_false_eq_true, true_or, or_true, cx_rg]
        refine ⟨by omega, ih _ (by omega) (by omega) (by omega) (fun k' q1 q2 => ?_)⟩
        by_cases z : k' < k
        · exact nk k' q1 z
        · rw [show k' = k by omega]
          exact w
      have t2 := T.tv 10 (by decide) k
      have t3 := T.lt 10 (by decide) k
      refine bx_X11_secretOf_2 hY (pf1_ok hY) ?_
      simp only [wp_iconst, wp_bipush, wp_sipush, wp_ldc, wp_ldc2_w, wp_lconst0, wp_lconst1, wp_aconst_null, wp_iload_0, wp_istore_0, wp_iload_1, wp_istore_1, wp_iload_2, wp_istore_2, wp_iload_3, wp_istore_3, wp_iload, wp_istore, wp_lload_0, wp_lstore_0, wp_lload_1, wp_lstore_1, wp_lload_2, wp_lstore_2, wp_lload_3, wp_lstore_3, wp_lload, wp_lstore, wp_aload_0, wp_astore_0, wp_aload_1, wp_astore_1, wp_aload_2, wp_astore_2, wp_aload_3, wp_astore_3, wp_aload, wp_astore, wp_iinc, wp_iadd, wp_isub, wp_imul, wp_iand, wp_ior, wp_ixor, wp_ishl, wp_ishr, wp_iushr, wp_irem, wp_ladd, wp_lsub, wp_lmul, wp_land, wp_lor, wp_lxor, wp_lshl, wp_lshr, wp_lushr, wp_lrem, wp_lcmp, wp_i2l, wp_l2i, wp_dupI, wp_dupA, wp_dup2J, wp_dup2IA, wp_popI, wp_popA, wp_pop2, wp_goto, wp_if_eq, wp_icmp_eq, wp_if_ne, wp_icmp_ne, wp_if_lt, wp_icmp_lt, wp_if_ge, wp_icmp_ge, wp_if_gt, wp_icmp_gt, wp_if_le, wp_icmp_le, wp_ifnull, wp_ifnonnull, wp_acmp_eq, wp_acmp_ne, wp_tableswitch, wp_get0, wp_put0, wp_get1, wp_put1, wp_get2, wp_put2, wp_get3, wp_put3, wp_new, wp_newarray, wp_anewarray, wp_alen, wp_iaload, wp_laload, wp_baload, wp_aaload, wp_iastore, wp_lastore, wp_bastore, wp_aastore, wp_return, wp_ireturnI, wp_ireturnZ, wp_lreturn, wp_areturnO, wp_areturnA, wp_max, wp_min, wp_obj, wp_virt, wp_nil, ld_I0, ld_Is, ld_J0, ld_Js, ld_A0, ld_As, ha_0, ha_s, cx_put1, cx_put2, cx_dl, cx_tgt, true_and, and_true, Nat.reduceAdd, Nat.reduceSub, Int.reduceAdd, Int.reduceNeg, Int.reduceToNat, Int.reduceSub, Int.cast_ofNat_Int, List.take_succ_cons, List.take_zero, List.drop_succ_cons, List.drop_zero, List.take_nil, List.drop_nil, Option.toList_some, Option.toList_none, List.cons_append, List.nil_append, wp_spec, ne_eq, Nat.reduceEqDiff, not_false_eq_true, true_or, or_true, rA_openNumber hS, rs_openNumber hS, rz_openNumber hS, ra_114, rA_openTerm hS, rs_openTerm hS, rz_openTerm hS, ra_115, (hS).1, cx_lcp_eq]
      (repeat' (with_reducible (first | refine And.intro ?_ ?_ | intro _)))
      all_goals (first | omega | exact j34 k (by omega) nk | exact j28 (by omega) (by assumption) | exact hK _ (by omega) (by omega) (by omega) (Or.inl ⟨k, by omega, by omega, Classical.byContradiction (by assumption), rfl⟩))
  refine bx_X11_secretOf_0 hY (pf1_ok hY) ?_
  simp only [wp_iconst, wp_bipush, wp_sipush, wp_ldc, wp_ldc2_w, wp_lconst0, wp_lconst1, wp_aconst_null, wp_iload_0, wp_istore_0, wp_iload_1, wp_istore_1, wp_iload_2, wp_istore_2, wp_iload_3, wp_istore_3, wp_iload, wp_istore, wp_lload_0, wp_lstore_0, wp_lload_1, wp_lstore_1, wp_lload_2, wp_lstore_2, wp_lload_3, wp_lstore_3, wp_lload, wp_lstore, wp_aload_0, wp_astore_0, wp_aload_1, wp_astore_1, wp_aload_2, wp_astore_2, wp_aload_3, wp_astore_3, wp_aload, wp_astore, wp_iinc, wp_iadd, wp_isub, wp_imul, wp_iand, wp_ior, wp_ixor, wp_ishl, wp_ishr, wp_iushr, wp_irem, wp_ladd, wp_lsub, wp_lmul, wp_land, wp_lor, wp_lxor, wp_lshl, wp_lshr, wp_lushr, wp_lrem, wp_lcmp, wp_i2l, wp_l2i, wp_dupI, wp_dupA, wp_dup2J, wp_dup2IA, wp_popI, wp_popA, wp_pop2, wp_goto, wp_if_eq, wp_icmp_eq, wp_if_ne, wp_icmp_ne, wp_if_lt, wp_icmp_lt, wp_if_ge, wp_icmp_ge, wp_if_gt, wp_icmp_gt, wp_if_le, wp_icmp_le, wp_ifnull, wp_ifnonnull, wp_acmp_eq, wp_acmp_ne, wp_tableswitch, wp_get0, wp_put0, wp_get1, wp_put1, wp_get2, wp_put2, wp_get3, wp_put3, wp_new, wp_newarray, wp_anewarray, wp_alen, wp_iaload, wp_laload, wp_baload, wp_aaload, wp_iastore, wp_lastore, wp_bastore, wp_aastore, wp_return, wp_ireturnI, wp_ireturnZ, wp_lreturn, wp_areturnO, wp_areturnA, wp_max, wp_min, wp_obj, wp_virt, wp_nil, ld_I0, ld_Is, ld_J0, ld_Js, ld_A0, ld_As, ha_0, ha_s, cx_put1, cx_put2, cx_dl, cx_tgt, true_and, and_true, Nat.reduceAdd, Nat.reduceSub, Int.reduceAdd, Int.reduceNeg, Int.reduceToNat, Int.reduceSub, Int.cast_ofNat_Int, List.take_succ_cons, List.take_zero, List.drop_succ_cons, List.drop_zero, List.take_nil, List.drop_nil, Option.toList_some, Option.toList_none, List.cons_append, List.nil_append, wp_spec, ne_eq, Nat.reduceEqDiff, not_false_eq_true, true_or, or_true]
  exact loop (cq_I h x 10).toNat 0 (by omega) (by omega) (by omega) (fun k' q1 q2 => by omega)
/-- the COMMON of two terms -/
def cmT (x : Nat) (g : cx_Q) (t a b : Int) : Prop := tmT x g t 2 (if a < b then a else b) (if a < b then b else a) 0 0
theorem c_X11_commonTerm {Y : cx_Y} (hY : cY Y) {K : Option cx_V → cx_Q → Prop} {h : cx_Q} {F : Nat → Int → Int} {G : cx_Q → Prop} {x : Nat} {N O a b : Int} (hS : rS h x) (T : TI F G x h N O) (hN : N ≤ 16990) (ha : 0 ≤ a ∧ a < cq_I h x 2) (hb : 0 ≤ b ∧ b < cq_I h x 2)
    (hK : ∀ (t : Int) (h' : cx_Q), 0 ≤ t → t ≤ 16999 → eT x h h' → TI F (fun g => G g ∧ cmT x g t a b) x h' (N + 1) O → cq_I h' x 10 = cq_I h x 10 → K (some (.inl t)) h') : cw Y mi_X11_commonTerm K 0 [some (.inr (.inr (some x))), some (.inl a), some (.inl b)] [] h 0 0 := by
  have t1 := T.1
  have j26 : ∀ (t : Int) (h' : cx_Q), 0 ≤ t → t ≤ 16999 → eT x h h' → TI F (fun g => G g ∧ cmT x g t a b) x h' (N + 1) O → cq_I h' x 10 = cq_I h x 10 → cw Y mi_X11_commonTerm K 26 [some (.inr (.inr (some x))), some (.inl a), some (.inl b)] [.inl t] h' 0 0 := by
    intro t h' q1 q2 q3 q4 q5
    refine bx_X11_commonTerm_26 hY (pf1_ok hY) ?_
    simp only [wp_iconst, wp_bipush, wp_sipush, wp_ldc, wp_ldc2_w, wp_lconst0, wp_lconst1, wp_aconst_null, wp_iload_0, wp_istore_0, wp_iload_1, wp_istore_1, wp_iload_2, wp_istore_2, wp_iload_3, wp_istore_3, wp_iload, wp_istore, wp_lload_0, wp_lstore_0, wp_lload_1, wp_lstore_1, wp_lload_2, wp_lstore_2, wp_lload_3, wp_lstore_3, wp_lload, wp_lstore, wp_aload_0, wp_astore_0, wp_aload_1, wp_astore_1, wp_aload_2, wp_astore_2, wp_aload_3, wp_astore_3, wp_aload, wp_astore, wp_iinc, wp_iadd, wp_isub, wp_imul, wp_iand, wp_ior, wp_ixor, wp_ishl, wp_ishr, wp_iushr, wp_irem, wp_ladd, wp_lsub, wp_lmul, wp_land, wp_lor, wp_lxor, wp_lshl, wp_lshr, wp_lushr, wp_lrem, wp_lcmp, wp_i2l, wp_l2i, wp_dupI, wp_dupA, wp_dup2J, wp_dup2IA, wp_popI, wp_popA, wp_pop2, wp_goto, wp_if_eq, wp_icmp_eq, wp_if_ne, wp_icmp_ne, wp_if_lt, wp_icmp_lt, wp_if_ge, wp_icmp_ge, wp_if_gt, wp_icmp_gt, wp_if_le, wp_icmp_le, wp_ifnull, wp_ifnonnull, wp_acmp_eq, wp_acmp_ne, wp_tableswitch, wp_get0, wp_put0, wp_get1, wp_put1, wp_get2, wp_put2, wp_get3, wp_put3, wp_new, wp_newarray, wp_anewarray, wp_alen, wp_iaload, wp_laload, wp_baload, wp_aaload, wp_iastore, wp_lastore, wp_bastore, wp_aastore, wp_return, wp_ireturnI, wp_ireturnZ, wp_lreturn, wp_areturnO, wp_areturnA, wp_max, wp_min, wp_obj, wp_virt, wp_nil, ld_I0, ld_Is, ld_J0, ld_Js, ld_A0, ld_As, ha_0, ha_s, cx_put1, cx_put2, cx_dl, cx_tgt, true_and, and_true, Nat.reduceAdd, Nat.reduceSub, Int.reduceAdd, Int.reduceNeg, Int.reduceToNat, Int.reduceSub, Int.cast_ofNat_Int, List.take_succ_cons, List.take_zero, List.drop_succ_cons, List.drop_zero, List.take_nil, List.drop_nil, Option.toList_some, Option.toList_none, List.cons_append, List.nil_append, wp_spec, ne_eq, Nat.reduceEqDiff, not_false_eq_true, true_or, or_true]
    exact hK t h' q1 q2 q3 q4 q5
  refine bx_X11_commonTerm_0 hY (pf1_ok hY) ?_
  simp only [wp_iconst, wp_bipush, wp_sipush, wp_ldc, wp_ldc2_w, wp_lconst0, wp_lconst1, wp_aconst_null, wp_iload_0, wp_istore_0, wp_iload_1, wp_istore_1, wp_iload_2, wp_istore_2, wp_iload_3, wp_istore_3, wp_iload, wp_istore, wp_lload_0, wp_lstore_0, wp_lload_1, wp_lstore_1, wp_lload_2, wp_lstore_2, wp_lload_3, wp_lstore_3, wp_lload, wp_lstore, wp_aload_0, wp_astore_0, wp_aload_1, wp_astore_1, wp_aload_2, wp_astore_2, wp_aload_3, wp_astore_3, wp_aload, wp_astore, wp_iinc, wp_iadd, wp_isub, wp_imul, wp_iand, wp_ior, wp_ixor, wp_ishl, wp_ishr, wp_iushr, wp_irem, wp_ladd, wp_lsub, wp_lmul, wp_land, wp_lor, wp_lxor, wp_lshl, wp_lshr, wp_lushr, wp_lrem, wp_lcmp, wp_i2l, wp_l2i, wp_dupI, wp_dupA, wp_dup2J, wp_dup2IA, wp_popI, wp_popA, wp_pop2, wp_goto, wp_if_eq, wp_icmp_eq, wp_if_ne, wp_icmp_ne, wp_if_lt, wp_icmp_lt, wp_if_ge, wp_icmp_ge, wp_if_gt, wp_icmp_gt, wp_if_le, wp_icmp_le, wp_ifnull, wp_ifnonnull, wp_acmp_eq, wp_acmp_ne, wp_tableswitch, wp_get0, wp_put0, wp_get1, wp_put1, wp_get2, wp_put2, wp_get3, wp_put3, wp_new, wp_newarray, wp_anewarray, wp_alen, wp_iaload, wp_laload, wp_baload, wp_aaload, wp_iastore, wp_lastore, wp_bastore, wp_aastore, wp_return, wp_ireturnI, wp_ireturnZ, wp_lreturn, wp_areturnO, wp_areturnA, wp_max, wp_min, wp_obj, wp_virt, wp_nil, ld_I0, ld_Is, ld_J0, ld_Js, ld_A0, ld_As, ha_0, ha_s, cx_put1, cx_put2, cx_dl, cx_tgt, true_and, and_true, Nat.reduceAdd, Nat.reduceSub, Int.reduceAdd, Int.reduceNeg, Int.reduceToNat, Int.reduceSub, Int.cast_ofNat_Int, List.take_succ_cons, List.take_zero, List.drop_succ_cons, List.drop_zero, List.take_nil, List.drop_nil, Option.toList_some, Option.toList_none, List.cons_append, List.nil_append, wp_spec, ne_eq, Nat.reduceEqDiff, not_false_eq_true, true_or, or_true]
  refine ⟨fun q => ?_, fun q => ?_⟩
  · refine bx_X11_commonTerm_17 hY (pf1_ok hY) ?_
    simp only [wp_iconst, wp_bipush, wp_sipush, wp_ldc, wp_ldc2_w, wp_lconst0, wp_lconst1, wp_aconst_null, wp_iload_0, wp_istore_0, wp_iload_1, wp_istore_1, wp_iload_2, wp_istore_2, wp_iload_3, wp_istore_3, wp_iload, wp_istore, wp_lload_0, wp_lstore_0, wp_lload_1, wp_lstore_1, wp_lload_2, wp_lstore_2, wp_lload_3, wp_lstore_3, wp_lload, wp_lstore, wp_aload_0, wp_astore_0, wp_aload_1, wp_astore_1, wp_aload_2, wp_astore_2, wp_aload_3, wp_astore_3, wp_aload, wp_astore, wp_iinc, wp_iadd, wp_isub, wp_imul, wp_iand, wp_ior, wp_ixor, wp_ishl, wp_ishr, wp_iushr, wp_irem, wp_ladd, wp_lsub, wp_lmul, wp_land, wp_lor, wp_lxor, wp_lshl, wp_lshr, wp_lushr, wp_lrem, wp_lcmp, wp_i2l, wp_l2i, wp_dupI, wp_dupA, wp_dup2J, wp_dup2IA, wp_popI, wp_popA, wp_pop2, wp_goto, wp_if_eq, wp_icmp_eq, wp_if_ne, wp_icmp_ne, wp_if_lt, wp_icmp_lt, wp_if_ge, wp_icmp_ge, wp_if_gt, wp_icmp_gt, wp_if_le, wp_icmp_le, wp_ifnull, wp_ifnonnull, wp_acmp_eq, wp_acmp_ne, wp_tableswitch, wp_get0, wp_put0, wp_get1, wp_put1, wp_get2, wp_put2, wp_get3, wp_put3, wp_new, wp_newarray, wp_anewarray, wp_alen, wp_iaload, wp_laload, wp_baload, wp_aaload, wp_iastore, wp_lastore, wp_bastore, wp_aastore, wp_return, wp_ireturnI, wp_ireturnZ, wp_lreturn, wp_areturnO, wp_areturnA, wp_max, wp_min, wp_obj, wp_virt, wp_nil, ld_I0, ld_Is, ld_J0, ld_Js, ld_A0, ld_As, ha_0, ha_s, cx_put1, cx_put2, cx_dl, cx_tgt, true_and, and_true, Nat.reduceAdd, Nat.reduceSub, Int.reduceAdd, Int.reduceNeg, Int.reduceToNat, Int.reduceSub, Int.cast_ofNat_Int, List.take_succ_cons, List.take_zero, List.drop_succ_cons, List.drop_zero, List.take_nil, List.drop_nil, Option.toList_some, Option.toList_none, List.cons_append, List.nil_append, wp_spec, ne_eq, Nat.reduceEqDiff, not_false_eq_true, true_or, or_true]
    refine cl_X11_term (Nat.le_of_ble_eq_true rfl) hS.1 (Nat.le_refl _) (Nat.le_refl _) (c_X11_term hY hS T hN hb ha (by omega) (by omega) ?_)
    intro t h' q1 q2 q3 q4 q5 _
    refine j26 t h' q1 q2 q3 (q4.w (fun z => ⟨z.1, ?_⟩) (sta_and T.st sta_hT)) q5
    have nq : ¬ a < b := by omega
    unfold cmT
    rw [if_neg nq, if_neg nq]
    exact z.2
  · refine cl_X11_term (Nat.le_of_ble_eq_true rfl) hS.1 (Nat.le_refl _) (Nat.le_refl _) (c_X11_term hY hS T hN ha hb (by omega) (by omega) ?_)
    intro t h' q1 q2 q3 q4 q5 _
    refine bx_X11_commonTerm_14 hY (pf1_ok hY) ?_
    simp only [wp_iconst, wp_bipush, wp_sipush, wp_ldc, wp_ldc2_w, wp_lconst0, wp_lconst1, wp_aconst_null, wp_iload_0, wp_istore_0, wp_iload_1, wp_istore_1, wp_iload_2, wp_istore_2, wp_iload_3, wp_istore_3, wp_iload, wp_istore, wp_lload_0, wp_lstore_0, wp_lload_1, wp_lstore_1, wp_lload_2, wp_lstore_2, wp_lload_3, wp_lstore_3, wp_lload, wp_lstore, wp_aload_0, wp_astore_0, wp_aload_1, wp_astore_1, wp_aload_2, wp_astore_2, wp_aload_3, wp_astore_3, wp_aload, wp_astore, wp_iinc, wp_iadd, wp_isub, wp_imul, wp_iand, wp_ior, wp_ixor, wp_ishl, wp_ishr, wp_iushr, wp_irem, wp_ladd, wp_lsub, wp_lmul, wp_land, wp_lor, wp_lxor, wp_lshl, wp_lshr, wp_lushr, wp_lrem, wp_lcmp, wp_i2l, wp_l2i, wp_dupI, wp_dupA, wp_dup2J, wp_dup2IA, wp_popI, wp_popA, wp_pop2, wp_goto, wp_if_eq, wp_icmp_eq, wp_if_ne, wp_icmp_ne, wp_if_lt, wp_icmp_lt, wp_if_ge, wp_icmp_ge, wp_if_gt, wp_icmp_gt, wp_if_le, wp_icmp_le, wp_ifnull, wp_ifnonnull, wp_acmp_eq, wp_acmp_ne, wp_tableswitch, wp_get0, wp_put0, wp_get1, wp_put1, wp_get2, wp_put2, wp_get3, wp_put3, wp_new, wp_newarray, wp_anewarray, wp_alen, wp_iaload, wp_laload, wp_baload, wp_aaload, wp_iastore, wp_lastore, wp_bastore, wp_aastore, wp_return, wp_ireturnI, wp_ireturnZ, wp_lreturn, wp_areturnO, wp_areturnA, wp_max, wp_min, wp_obj, wp_virt, wp_nil, ld_I0, ld_Is, ld_J0, ld_Js, ld_A0, ld_As, ha_0, ha_s, cx_put1, cx_put2, cx_dl, cx_tgt, true_and, and_true, Nat.reduceAdd, Nat.reduceSub, Int.reduceAdd, Int.reduceNeg, Int.reduceToNat, Int.reduceSub, Int.cast_ofNat_Int, List.take_succ_cons, List.take_zero, List.drop_succ_cons, List.drop_zero, List.take_nil, List.drop_nil, Option.toList_some, Option.toList_none, List.cons_append, List.nil_append, wp_spec, ne_eq, Nat.reduceEqDiff, not_false_eq_true, true_or, or_true]
    refine j26 t h' q1 q2 q3 (q4.w (fun z => ⟨z.1, ?_⟩) (sta_and T.st sta_hT)) q5
    have yq : a < b := by omega
    unfold cmT
    rw [if_pos yq, if_pos yq]
    exact z.2
/-- a number drawn: how many, the number as a secret, its public one -/
def m_draw (h : cx_Q) (x : Nat) (u : Int) : cx_Q :=
  cq_sJ (cq_sJ (cq_sI h (x + 12) u (cq_I h (x + 12) u + 1)) x 31 (f_asSecret (f_mix (cq_J h (x + 1) u) (Int64.ofInt (cq_I h (x + 12) u + 1))))) x 32 (f_power (Int64.ofInt 3) (f_asSecret (f_mix (cq_J h (x + 1) u) (Int64.ofInt (cq_I h (x + 12) u + 1)))))
theorem c_X11_draw {Y : cx_Y} (hY : cY Y) {K : Option cx_V → cx_Q → Prop} {h : cx_Q} {x : Nat} {u : Int} (hS : rS h x) (hu : 0 ≤ u ∧ u < 6) (hd : 0 ≤ cq_I h (x + 12) u ∧ cq_I h (x + 12) u ≤ 1000000)
    (hK : K none (m_draw h x u)) : cw Y mi_X11_draw K 0 [some (.inr (.inr (some x))), some (.inl u)] [] h 0 0 := by
  refine bx_X11_draw_0 hY (pf1_ok hY) ?_
  simp only [wp_iconst, wp_bipush, wp_sipush, wp_ldc, wp_ldc2_w, wp_lconst0, wp_lconst1, wp_aconst_null, wp_iload_0, wp_istore_0, wp_iload_1, wp_istore_1, wp_iload_2, wp_istore_2, wp_iload_3, wp_istore_3, wp_iload, wp_istore, wp_lload_0, wp_lstore_0, wp_lload_1, wp_lstore_1, wp_lload_2, wp_lstore_2, wp_lload_3, wp_lstore_3, wp_lload, wp_lstore, wp_aload_0, wp_astore_0, wp_aload_1, wp_astore_1, wp_aload_2, wp_astore_2, wp_aload_3, wp_astore_3, wp_aload, wp_astore, wp_iinc, wp_iadd, wp_isub, wp_imul, wp_iand, wp_ior, wp_ixor, wp_ishl, wp_ishr, wp_iushr, wp_irem, wp_ladd, wp_lsub, wp_lmul, wp_land, wp_lor, wp_lxor, wp_lshl, wp_lshr, wp_lushr, wp_lrem, wp_lcmp, wp_i2l, wp_l2i, wp_dupI, wp_dupA, wp_dup2J, wp_dup2IA, wp_popI, wp_popA, wp_pop2, wp_goto, wp_if_eq, wp_icmp_eq, wp_if_ne, wp_icmp_ne, wp_if_lt, wp_icmp_lt, wp_if_ge, wp_icmp_ge, wp_if_gt, wp_icmp_gt, wp_if_le, wp_icmp_le, wp_ifnull, wp_ifnonnull, wp_acmp_eq, wp_acmp_ne, wp_tableswitch, wp_get0, wp_put0, wp_get1, wp_put1, wp_get2, wp_put2, wp_get3, wp_put3, wp_new, wp_newarray, wp_anewarray, wp_alen, wp_iaload, wp_laload, wp_baload, wp_aaload, wp_iastore, wp_lastore, wp_bastore, wp_aastore, wp_return, wp_ireturnI, wp_ireturnZ, wp_lreturn, wp_areturnO, wp_areturnA, wp_max, wp_min, wp_obj, wp_virt, wp_nil, ld_I0, ld_Is, ld_J0, ld_Js, ld_A0, ld_As, ha_0, ha_s, cx_put1, cx_put2, cx_dl, cx_tgt, true_and, and_true, Nat.reduceAdd, Nat.reduceSub, Int.reduceAdd, Int.reduceNeg, Int.reduceToNat, Int.reduceSub, Int.cast_ofNat_Int, List.take_succ_cons, List.take_zero, List.drop_succ_cons, List.drop_zero, List.take_nil, List.drop_nil, Option.toList_some, Option.toList_none, List.cons_append, List.nil_append, wp_spec, ne_eq, Nat.reduceEqDiff, not_false_eq_true, true_or, or_true, wf_X11_mix, wf_X11_key, wf_X11_times, wf_X11_timesQ, wf_X11_power, wf_X11_common, wf_X11_modQ, wf_X11_asSecret, wf_X11_sumOf, cx_sz, cx_c2, cond_true, cond_false, Nat.reduceLeDiff, rA_draws hS, rs_draws hS, rz_draws hS, ra_117, rA_seeds hS, rs_seeds hS, rz_seeds hS, ra_106, (hS).1, mm_sI, mm_sJ, mm_sA, mm_IJ, mm_IA, mm_JI, mm_JA, mm_AI, mm_AJ, mm_ssI, mm_ssJ, mm_ssA, mm_zI, mm_zJ, mm_zA, mm_nI, mm_nJ, mm_nA, Nat.left_eq_add, Nat.add_eq_left, Nat.add_left_cancel_iff, Nat.reduceEqDiff, Int.reduceEq, false_and, and_false, if_false, if_true, and_self, true_and, true_or, or_true, false_or, or_false, cx_rg]
  (repeat' (with_reducible (first | refine And.intro ?_ ?_ | intro _)))
  all_goals (try omega)
  exact hK
/-- another open -/
def opT (h : cx_Q) (x : Nat) (w : Int64) (t : Int) : cx_Q := cq_sI (cq_sI (cq_sJ h (x + 9) (cq_I h x 10) w) (x + 10) (cq_I h x 10) t) x 10 (cq_I h x 10 + 1)
/-- what a draw leaves of terms: T the new one, m how many opens there were -/
def drT (x : Nat) (g : cx_Q) (T m : Int) (w : Int64) : Prop := tmT x g T 1 0 0 0 0 ∧ m < cq_I g x 10 ∧ cq_J g (x + 9) m = w ∧ cq_I g (x + 10) m = T
theorem sta_drT {x : Nat} {T m : Int} {w : Int64} : sta x (fun g => drT x g T m w) := fun h h' e q => ⟨q.1.ex e, by have := e.1.2; have := q.2.1; omega, (e.2.2.2 m q.2.1).2.trans q.2.2.1, (e.2.2.2 m q.2.1).1.trans q.2.2.2⟩
theorem op_TI {F : Nat → Int → Int} {G : cx_Q → Prop} {h : cx_Q} {x : Nat} {N O t : Int} {w : Int64} (T : TI F G x h N O) (ht : 0 ≤ t ∧ t ≤ 16999) (hl : t < cq_I h x 2) (hh : tmT x h t 1 0 0 0 0) : TI F (fun g => G g ∧ drT x g t (cq_I h x 10) w) x (opT h x w t) N (O + 1) ∧ cq_I (opT h x w t) x 10 = cq_I h x 10 + 1 ∧ cq_I (opT h x w t) x 2 = cq_I h x 2 := by
  have t1 := T.2.1
  have e10 : cq_I (opT h x w t) x 10 = cq_I h x 10 + 1 := by
    unfold opT
    rw [mm_sI, if_pos ⟨rfl, rfl⟩]
  have ex : ∀ k : Int, k ≠ 10 → cq_I (opT h x w t) x k = cq_I h x k := fun k q => by
    unfold opT
    rw [mm_sI, if_neg (fun e => q e.2), mm_sI, if_neg (fun e => by omega), mm_IJ]
  have eo : ∀ (o : Nat) (k : Int), 1 ≤ o → cq_I (opT h x w t) (x + o) k = if o = 10 ∧ k = cq_I h x 10 then t else cq_I h (x + o) k := fun o k q => by
    unfold opT
    rw [mm_sI, if_neg (fun e => by omega), mm_sI, mm_IJ]
    by_cases z : o = 10 ∧ k = cq_I h x 10
    · rw [if_pos z, if_pos ⟨by omega, z.2⟩]
    · rw [if_neg z, if_neg (fun e => z ⟨by omega, e.2⟩)]
  have en : ∀ (o : Nat) (k : Int), 1 ≤ o → o ≠ 10 → cq_I (opT h x w t) (x + o) k = cq_I h (x + o) k := fun o k q q2 => by rw [eo o k q, if_neg (fun e => q2 e.1)]
  have eJ : ∀ k, cq_J (opT h x w t) (x + 9) k = if k = cq_I h x 10 then w else cq_J h (x + 9) k := fun k => by
    unfold opT
    rw [mm_JI, mm_JI, mm_sJ]
    by_cases z : k = cq_I h x 10
    · rw [if_pos ⟨rfl, z⟩, if_pos z]
    · rw [if_neg (fun e => z e.2), if_neg z]
  have e2 := ex 2 (by decide)
  have X : exT x h (opT h x w t) := by
    refine ⟨⟨by rw [e2]; exact Int.le_refl _, by rw [e10]; omega⟩, fun k o q q2 q3 => en o k (by omega) (by omega), fun k q1 q2 => by rw [e2] at q2; omega, fun k q => ⟨?_, ?_⟩⟩
    · rw [eo 10 k (by decide), if_neg (fun e => by omega)]
    · rw [eJ, if_neg (by omega)]
  refine ⟨⟨by rw [e2]; exact T.1, by rw [e10]; omega, by rw [ex 33 (by decide)]; exact T.2.2.1, fun o ho k => ?_, ⟨?_, ?_, ?_, ?_⟩, fun o ho k => ?_, ⟨T.st _ _ X T.g, hh.ex X, by rw [e10]; omega, by rw [eJ, if_pos rfl], by rw [eo 10 _ (by decide), if_pos ⟨rfl, rfl⟩]⟩, sta_and T.st sta_drT⟩, e10, e2⟩
  · rw [eo o k (tV_pos o ho)]
    split
    · exact ht
    · exact T.tv o ho k
  · intro u u'
    rw [e2, en 2 u (by decide) (by decide), en 2 u' (by decide) (by decide), en 3 u (by decide) (by decide), en 3 u' (by decide) (by decide), en 4 u (by decide) (by decide), en 4 u' (by decide) (by decide), en 5 u (by decide) (by decide), en 5 u' (by decide) (by decide), en 6 u (by decide) (by decide), en 6 u' (by decide) (by decide)]
    exact T.tw.1 u u'
  · intro u
    rw [e2, en 3 u (by decide) (by decide), en 4 u (by decide) (by decide), en 5 u (by decide) (by decide), en 6 u (by decide) (by decide)]
    exact T.tw.2.1 u
  · intro o ho k
    rw [e2, eo o k (tV_pos o ho)]
    split
    · exact hl
    · exact T.lt o ho k
  · rw [e2, ex 33 (by decide)]
    exact T.tw.2.2.2
  · rw [en o k (tR_V o ho).2.1 (fun e => by rw [e] at ho; exact absurd ho (by decide))]
    exact T.re o ho k
theorem c_X11_drawTerm {Y : cx_Y} (hY : cY Y) {K : Option cx_V → cx_Q → Prop} {h : cx_Q} {F : Nat → Int → Int} {G : cx_Q → Prop} {x : Nat} {u N O : Int} (hS : rS h x) (T : TI F G x h N O) (hN : N ≤ 16990) (hO : O ≤ 1990) (hu : 0 ≤ u ∧ u < 6) (hd : 0 ≤ cq_I h (x + 12) u ∧ cq_I h (x + 12) u ≤ 1000000)
    (hK : ∀ h', eT x (m_draw h x u) h' → TI F (fun g => G g ∧ drT x g (cq_I h x 2) (cq_I h x 10) (cq_J (m_draw h x u) x 32)) x h' (N + 1) (O + 1) → cq_I h' x 33 = cq_I h x 2 → cq_I h' x 2 = cq_I h x 2 + 1 → cq_I h' x 10 = cq_I h x 10 + 1 → K none h') : cw Y mi_X11_drawTerm K 0 [some (.inr (.inr (some x))), some (.inl u)] [] h 0 0 := by
  refine bx_X11_drawTerm_0 hY (pf1_ok hY) ?_
  simp only [wp_iconst, wp_bipush, wp_sipush, wp_ldc, wp_ldc2_w, wp_lconst0, wp_lconst1, wp_aconst_null, wp_iload_0, wp_istore_0, wp_iload_1, wp_istore_1, wp_iload_2, wp_istore_2, wp_iload_3, wp_istore_3, wp_iload, wp_istore, wp_lload_0, wp_lstore_0, wp_lload_1, wp_lstore_1, wp_lload_2, wp_lstore_2, wp_lload_3, wp_lstore_3, wp_lload, wp_lstore, wp_aload_0, wp_astore_0, wp_aload_1, wp_astore_1, wp_aload_2, wp_astore_2, wp_aload_3, wp_astore_3, wp_aload, wp_astore, wp_iinc, wp_iadd, wp_isub, wp_imul, wp_iand, wp_ior, wp_ixor, wp_ishl, wp_ishr, wp_iushr, wp_irem, wp_ladd, wp_lsub, wp_lmul, wp_land, wp_lor, wp_lxor, wp_lshl, wp_lshr, wp_lushr, wp_lrem, wp_lcmp, wp_i2l, wp_l2i, wp_dupI, wp_dupA, wp_dup2J, wp_dup2IA, wp_popI, wp_popA, wp_pop2, wp_goto, wp_if_eq, wp_icmp_eq, wp_if_ne, wp_icmp_ne, wp_if_lt, wp_icmp_lt, wp_if_ge, wp_icmp_ge, wp_if_gt, wp_icmp_gt, wp_if_le, wp_icmp_le, wp_ifnull, wp_ifnonnull, wp_acmp_eq, wp_acmp_ne, wp_tableswitch, wp_get0, wp_put0, wp_get1, wp_put1, wp_get2, wp_put2, wp_get3, wp_put3, wp_new, wp_newarray, wp_anewarray, wp_alen, wp_iaload, wp_laload, wp_baload, wp_aaload, wp_iastore, wp_lastore, wp_bastore, wp_aastore, wp_return, wp_ireturnI, wp_ireturnZ, wp_lreturn, wp_areturnO, wp_areturnA, wp_max, wp_min, wp_obj, wp_virt, wp_nil, ld_I0, ld_Is, ld_J0, ld_Js, ld_A0, ld_As, ha_0, ha_s, cx_put1, cx_put2, cx_dl, cx_tgt, true_and, and_true, Nat.reduceAdd, Nat.reduceSub, Int.reduceAdd, Int.reduceNeg, Int.reduceToNat, Int.reduceSub, Int.cast_ofNat_Int, List.take_succ_cons, List.take_zero, List.drop_succ_cons, List.drop_zero, List.take_nil, List.drop_nil, Option.toList_some, Option.toList_none, List.cons_append, List.nil_append, wp_spec, ne_eq, Nat.reduceEqDiff, not_false_eq_true, true_or, or_true]
  refine cl_X11_draw (Nat.le_of_ble_eq_true rfl) hS.1 (Nat.le_refl _) (Nat.le_refl _) (c_X11_draw hY hS hu hd ?_)
  refine bx_X11_drawTerm_5 hY (pf1_ok hY) ?_
  simp only [wp_iconst, wp_bipush, wp_sipush, wp_ldc, wp_ldc2_w, wp_lconst0, wp_lconst1, wp_aconst_null, wp_iload_0, wp_istore_0, wp_iload_1, wp_istore_1, wp_iload_2, wp_istore_2, wp_iload_3, wp_istore_3, wp_iload, wp_istore, wp_lload_0, wp_lstore_0, wp_lload_1, wp_lstore_1, wp_lload_2, wp_lstore_2, wp_lload_3, wp_lstore_3, wp_lload, wp_lstore, wp_aload_0, wp_astore_0, wp_aload_1, wp_astore_1, wp_aload_2, wp_astore_2, wp_aload_3, wp_astore_3, wp_aload, wp_astore, wp_iinc, wp_iadd, wp_isub, wp_imul, wp_iand, wp_ior, wp_ixor, wp_ishl, wp_ishr, wp_iushr, wp_irem, wp_ladd, wp_lsub, wp_lmul, wp_land, wp_lor, wp_lxor, wp_lshl, wp_lshr, wp_lushr, wp_lrem, wp_lcmp, wp_i2l, wp_l2i, wp_dupI, wp_dupA, wp_dup2J, wp_dup2IA, wp_popI, wp_popA, wp_pop2, wp_goto, wp_if_eq, wp_icmp_eq, wp_if_ne, wp_icmp_ne, wp_if_lt, wp_icmp_lt, wp_if_ge, wp_icmp_ge, wp_if_gt, wp_icmp_gt, wp_if_le, wp_icmp_le, wp_ifnull, wp_ifnonnull, wp_acmp_eq, wp_acmp_ne, wp_tableswitch, wp_get0, wp_put0, wp_get1, wp_put1, wp_get2, wp_put2, wp_get3, wp_put3, wp_new, wp_newarray, wp_anewarray, wp_alen, wp_iaload, wp_laload, wp_baload, wp_aaload, wp_iastore, wp_lastore, wp_bastore, wp_aastore, wp_return, wp_ireturnI, wp_ireturnZ, wp_lreturn, wp_areturnO, wp_areturnA, wp_max, wp_min, wp_obj, wp_virt, wp_nil, ld_I0, ld_Is, ld_J0, ld_Js, ld_A0, ld_As, ha_0, ha_s, cx_put1, cx_put2, cx_dl, cx_tgt, true_and, and_true, Nat.reduceAdd, Nat.reduceSub, Int.reduceAdd, Int.reduceNeg, Int.reduceToNat, Int.reduceSub, Int.cast_ofNat_Int, List.take_succ_cons, List.take_zero, List.drop_succ_cons, List.drop_zero, List.take_nil, List.drop_nil, Option.toList_some, Option.toList_none, List.cons_append, List.nil_append, wp_spec, ne_eq, Nat.reduceEqDiff, not_false_eq_true, true_or, or_true]
  have hS1 : rS (m_draw h x u) x := hS
  have T1 : TI F G x (m_draw h x u) N O := TI.sJ (TI.sJ (TI.sT T (by decide) (fun q => absurd q (by decide))))
  have t1 := T.1
  have d2 : cq_I (m_draw h x u) x 2 = cq_I h x 2 := by
    unfold m_draw
    rw [mm_IJ, mm_IJ, mm_sI, if_neg (fun e => by omega)]
  have d10 : cq_I (m_draw h x u) x 10 = cq_I h x 10 := by
    unfold m_draw
    rw [mm_IJ, mm_IJ, mm_sI, if_neg (fun e => by omega)]
  refine cl_X11_term (Nat.le_of_ble_eq_true rfl) hS1.1 (Nat.le_refl _) (Nat.le_refl _) (c_X11_term hY hS1 T1 hN (by omega) (by omega) (by omega) (by omega) ?_)
  intro t h1 t1' t2 hE T2 o10 tn
  obtain ⟨tn1, tn2⟩ := tn rfl
  rw [d2] at tn1 tn2
  rw [d10] at o10
  have hS2 := hE.rS hS1
  have t3 := T2.2.1
  have hh : tmT x h1 t 1 0 0 0 0 := T2.g.2
  have T3 : TI F (fun g => G g ∧ tmT x g t 1 0 0 0 0) x (cq_sI h1 x 33 t) (N + 1) O := T2.s33 t1' t2 (by omega)
  have x32 : cq_J (cq_sI h1 x 33 t) x 32 = cq_J (m_draw h x u) x 32 := hE.xJ (by decide) (by decide) (by decide)
  obtain ⟨T4, T5, T6⟩ := op_TI (w := cq_J (m_draw h x u) x 32) T3 ⟨t1', t2⟩ (by rw [mm_sI, if_neg (fun e => absurd e.2 (by decide))]; omega) (hh.ex (exT.sI (fun _ => ⟨by decide, by decide⟩) (fun q hq e => by have := (tW_pos q hq).1; omega)))
  have s10 : cq_I (cq_sI h1 x 33 t) x 10 = cq_I h x 10 := by rw [mm_sI, if_neg (fun e => absurd e.2 (by decide))]; exact o10
  have s2 : cq_I (cq_sI h1 x 33 t) x 2 = cq_I h x 2 + 1 := by rw [mm_sI, if_neg (fun e => absurd e.2 (by decide))]; exact tn2
  rw [s10] at T4 T5
  rw [s2] at T6
  have T7 := T4.w (G' := fun g => G g ∧ drT x g (cq_I h x 2) (cq_I h x 10) (cq_J (m_draw h x u) x 32)) (fun z => ⟨z.1.1, by rw [← tn1]; exact z.2⟩) (sta_and T.st sta_drT)
  have e33 : cq_I (opT (cq_sI h1 x 33 t) x (cq_J (m_draw h x u) x 32) t) x 33 = cq_I h x 2 := by
    unfold opT
    rw [mm_sI, if_neg (fun e => absurd e.2 (by decide)), mm_sI, if_neg (fun e => by omega), mm_IJ, mm_sI, if_pos ⟨rfl, rfl⟩]
    exact tn1
  have E7 : eT x (m_draw h x u) (opT (cq_sI h1 x 33 t) x (cq_J (m_draw h x u) x 32) t) := by
    unfold opT
    repeat' (first | with_reducible exact eT.refl _ _ | with_reducible assumption | (with_reducible refine eT.tI ?_ ?_; rotate_left; first | exact isT_a (by decide) | exact isT_f (by decide)) | (with_reducible refine eT.tJ ?_ ?_; rotate_left; first | exact isT_a (by decide) | exact isT_f (by decide)) | with_reducible refine eT.sI ?_ | with_reducible refine eT.sJ ?_)
  have fin := hK _ E7 T7 e33 T6 T5
  unfold opT at fin
  rw [s10] at fin
  refine bx_X11_drawTerm_15 hY (pf1_ok hY) ?_
  simp only [wp_iconst, wp_bipush, wp_sipush, wp_ldc, wp_ldc2_w, wp_lconst0, wp_lconst1, wp_aconst_null, wp_iload_0, wp_istore_0, wp_iload_1, wp_istore_1, wp_iload_2, wp_istore_2, wp_iload_3, wp_istore_3, wp_iload, wp_istore, wp_lload_0, wp_lstore_0, wp_lload_1, wp_lstore_1, wp_lload_2, wp_lstore_2, wp_lload_3, wp_lstore_3, wp_lload, wp_lstore, wp_aload_0, wp_astore_0, wp_aload_1, wp_astore_1, wp_aload_2, wp_astore_2, wp_aload_3, wp_astore_3, wp_aload, wp_astore, wp_iinc, wp_iadd, wp_isub, wp_imul, wp_iand, wp_ior, wp_ixor, wp_ishl, wp_ishr, wp_iushr, wp_irem, wp_ladd, wp_lsub, wp_lmul, wp_land, wp_lor, wp_lxor, wp_lshl, wp_lshr, wp_lushr, wp_lrem, wp_lcmp, wp_i2l, wp_l2i, wp_dupI, wp_dupA, wp_dup2J, wp_dup2IA, wp_popI, wp_popA, wp_pop2, wp_goto, wp_if_eq, wp_icmp_eq, wp_if_ne, wp_icmp_ne, wp_if_lt, wp_icmp_lt, wp_if_ge, wp_icmp_ge, wp_if_gt, wp_icmp_gt, wp_if_le, wp_icmp_le, wp_ifnull, wp_ifnonnull, wp_acmp_eq, wp_acmp_ne, wp_tableswitch, wp_get0, wp_put0, wp_get1, wp_put1, wp_get2, wp_put2, wp_get3, wp_put3, wp_new, wp_newarray, wp_anewarray, wp_alen, wp_iaload, wp_laload, wp_baload, wp_aaload, wp_iastore, wp_lastore, wp_bastore, wp_aastore, wp_return, wp_ireturnI, wp_ireturnZ, wp_lreturn, wp_areturnO, wp_areturnA, wp_max, wp_min, wp_obj, wp_virt, wp_nil, ld_I0, ld_Is, ld_J0, ld_Js, ld_A0, ld_As, ha_0, ha_s, cx_put1, cx_put2, cx_dl, cx_tgt, true_and, and_true, Nat.reduceAdd, Nat.reduceSub, Int.reduceAdd, Int.reduceNeg, Int.reduceToNat, Int.reduceSub, Int.cast_ofNat_Int, List.take_succ_cons, List.take_zero, List.drop_succ_cons, List.drop_zero, List.take_nil, List.drop_nil, Option.toList_some, Option.toList_none, List.cons_append, List.nil_append, wp_spec, ne_eq, Nat.reduceEqDiff, not_false_eq_true, true_or, or_true, rA_openNumber hS2, rs_openNumber hS2, rz_openNumber hS2, ra_114, rA_openTerm hS2, rs_openTerm hS2, rz_openTerm hS2, ra_115, (hS2).1, mm_sI, mm_sJ, mm_sA, mm_IJ, mm_IA, mm_JI, mm_JA, mm_AI, mm_AJ, mm_ssI, mm_ssJ, mm_ssA, mm_zI, mm_zJ, mm_zA, mm_nI, mm_nJ, mm_nA, Nat.left_eq_add, Nat.add_eq_left, Nat.add_left_cancel_iff, Nat.reduceEqDiff, Int.reduceEq, false_and, and_false, if_false, if_true, and_self, true_and, true_or, or_true, false_or, or_false, cx_rg]
  (repeat' (with_reducible (first | refine And.intro ?_ ?_ | intro _)))
  all_goals (try omega)
  have x32' : cq_J h1 x 32 = cq_J (m_draw h x u) x 32 := x32
  rw [x32', o10]
  exact fin
