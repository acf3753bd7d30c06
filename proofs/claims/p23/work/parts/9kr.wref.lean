/-! the reference, exactly: a letter is written -/
/-- behind p bytes of letter z: g0 what was before, s the slot, a its number -/
def WV (x : Nat) (s a z p : Int) (ws : Int → Int) (g0 g : cx_Q) : Prop := (∀ j, j ≠ 2 → j ≠ 10 → j ≠ 33 → j ≠ 76 → cq_I g x j = cq_I g0 x j) ∧ (∀ o j, 1 ≤ o → o ≤ 65 → o ∉ tL → ¬ (o = 40 ∧ j = s) → ¬ (o = 62 ∧ 100 * z ≤ j ∧ j < 100 * z + 100) → cq_I g (x + o) j = cq_I g0 (x + o) j) ∧ (∀ o j, 1 ≤ o → o ≤ 65 → o ∉ tL → ¬ (o = 32 ∧ j = s) → cq_J g (x + o) j = cq_J g0 (x + o) j) ∧ (cq_I g (x + 40) s = a) ∧ (cq_J g (x + 32) s = nx1 (cq_J g0 (x + 32) s)) ∧ (∀ k, 0 ≤ k → k < p → cq_I g (x + 62) (100 * z + k) = ws k)
theorem WV.x_ {x : Nat} {s a z p : Int} {ws : Int → Int} {g0 g : cx_Q} (F_ : WV x s a z p ws g0 g) : ∀ j, j ≠ 2 → j ≠ 10 → j ≠ 33 → j ≠ 76 → cq_I g x j = cq_I g0 x j := F_.1
theorem WV.I_ {x : Nat} {s a z p : Int} {ws : Int → Int} {g0 g : cx_Q} (F_ : WV x s a z p ws g0 g) : ∀ o j, 1 ≤ o → o ≤ 65 → o ∉ tL → ¬ (o = 40 ∧ j = s) → ¬ (o = 62 ∧ 100 * z ≤ j ∧ j < 100 * z + 100) → cq_I g (x + o) j = cq_I g0 (x + o) j := F_.2.1
theorem WV.J_ {x : Nat} {s a z p : Int} {ws : Int → Int} {g0 g : cx_Q} (F_ : WV x s a z p ws g0 g) : ∀ o j, 1 ≤ o → o ≤ 65 → o ∉ tL → ¬ (o = 32 ∧ j = s) → cq_J g (x + o) j = cq_J g0 (x + o) j := F_.2.2.1
theorem WV.i40 {x : Nat} {s a z p : Int} {ws : Int → Int} {g0 g : cx_Q} (F_ : WV x s a z p ws g0 g) : cq_I g (x + 40) s = a := F_.2.2.2.1
theorem WV.j32 {x : Nat} {s a z p : Int} {ws : Int → Int} {g0 g : cx_Q} (F_ : WV x s a z p ws g0 g) : cq_J g (x + 32) s = nx1 (cq_J g0 (x + 32) s) := F_.2.2.2.2.1
theorem WV.b_ {x : Nat} {s a z p : Int} {ws : Int → Int} {g0 g : cx_Q} (F_ : WV x s a z p ws g0 g) : ∀ k, 0 ≤ k → k < p → cq_I g (x + 62) (100 * z + k) = ws k := F_.2.2.2.2.2
/-- what is told of a letter that was written -/
def WQ (x : Nat) (s sz : Int) (b : Int → Int) (g g' : cx_Q) : Prop := (∀ j, j ≠ 72 → j ≠ 76 → j ≠ 68 → j ≠ 2 → j ≠ 10 → j ≠ 33 → cq_I g' x j = cq_I g x j) ∧ (cq_I g' x 72 = cq_I g x 72 + 1) ∧ (cq_I g' x 68 = 0) ∧ (∀ o j, 1 ≤ o → o ≤ 65 → o ∉ tL → ¬ (o = 40 ∧ j = s) → ¬ (o = 63 ∧ j = cq_I g x 72) → ¬ (o = 62 ∧ 100 * cq_I g x 72 ≤ j ∧ j < 100 * cq_I g x 72 + 100) → cq_I g' (x + o) j = cq_I g (x + o) j) ∧ (∀ o j, 1 ≤ o → o ≤ 65 → o ∉ tL → ¬ (o = 32 ∧ j = s) → cq_J g' (x + o) j = cq_J g (x + o) j) ∧ (cq_I g' (x + 40) s = cq_I g (x + 40) s + 1) ∧ (cq_J g' (x + 32) s = nx1 (cq_J g (x + 32) s)) ∧ (cq_I g' (x + 63) (cq_I g x 72) = sz) ∧ (∀ k, 0 ≤ k → k < sz → cq_I g' (x + 62) (100 * cq_I g x 72 + k) = b k)
theorem WQ.x_ {x : Nat} {s sz : Int} {b : Int → Int} {g g' : cx_Q} (F_ : WQ x s sz b g g') : ∀ j, j ≠ 72 → j ≠ 76 → j ≠ 68 → j ≠ 2 → j ≠ 10 → j ≠ 33 → cq_I g' x j = cq_I g x j := F_.1
theorem WQ.x72 {x : Nat} {s sz : Int} {b : Int → Int} {g g' : cx_Q} (F_ : WQ x s sz b g g') : cq_I g' x 72 = cq_I g x 72 + 1 := F_.2.1
theorem WQ.x68 {x : Nat} {s sz : Int} {b : Int → Int} {g g' : cx_Q} (F_ : WQ x s sz b g g') : cq_I g' x 68 = 0 := F_.2.2.1
theorem WQ.I_ {x : Nat} {s sz : Int} {b : Int → Int} {g g' : cx_Q} (F_ : WQ x s sz b g g') : ∀ o j, 1 ≤ o → o ≤ 65 → o ∉ tL → ¬ (o = 40 ∧ j = s) → ¬ (o = 63 ∧ j = cq_I g x 72) → ¬ (o = 62 ∧ 100 * cq_I g x 72 ≤ j ∧ j < 100 * cq_I g x 72 + 100) → cq_I g' (x + o) j = cq_I g (x + o) j := F_.2.2.2.1
theorem WQ.J_ {x : Nat} {s sz : Int} {b : Int → Int} {g g' : cx_Q} (F_ : WQ x s sz b g g') : ∀ o j, 1 ≤ o → o ≤ 65 → o ∉ tL → ¬ (o = 32 ∧ j = s) → cq_J g' (x + o) j = cq_J g (x + o) j := F_.2.2.2.2.1
theorem WQ.i40 {x : Nat} {s sz : Int} {b : Int → Int} {g g' : cx_Q} (F_ : WQ x s sz b g g') : cq_I g' (x + 40) s = cq_I g (x + 40) s + 1 := F_.2.2.2.2.2.1
theorem WQ.j32 {x : Nat} {s sz : Int} {b : Int → Int} {g g' : cx_Q} (F_ : WQ x s sz b g g') : cq_J g' (x + 32) s = nx1 (cq_J g (x + 32) s) := F_.2.2.2.2.2.2.1
theorem WQ.z {x : Nat} {s sz : Int} {b : Int → Int} {g g' : cx_Q} (F_ : WQ x s sz b g g') : cq_I g' (x + 63) (cq_I g x 72) = sz := F_.2.2.2.2.2.2.2.1
theorem WQ.b_ {x : Nat} {s sz : Int} {b : Int → Int} {g g' : cx_Q} (F_ : WQ x s sz b g g') : ∀ k, 0 ≤ k → k < sz → cq_I g' (x + 62) (100 * cq_I g x 72 + k) = b k := F_.2.2.2.2.2.2.2.2
section
variable {x : Nat} {n L Q D N O z m p s a : Int} {U V ws : Int → Int} {h0 h g0 : cx_Q}
theorem WV.put (v : Int64) : ∀ (k : Nat) {p : Int} {ws : Int → Int} {h : cx_Q}, k ≤ 8 → 0 ≤ p → p + k ≤ 100 → cq_I h x 76 = 100 * z + p → WV x s a z p ws g0 h → WV x s a z (p + k) (wP ws p v k) g0 (m_put x v k h)
  | 0, p, ws, h, _, _, _, _, W => by
    have e : p + ((0 : Nat) : Int) = p := by omega
    refine ⟨W.x_, W.I_, W.J_, W.i40, W.j32, fun k k0 k1 => ?_⟩
    rw [e] at k1
    unfold wP ptF
    rw [if_neg (by omega)]
    exact W.b_ k k0 k1
  | k + 1, p, ws, h, h8, hp, hpk, e76, W => by
    rw [m_put_s]
    have W1 : WV x s a z (p + 1) (fun j => if j = p then by8 v k else ws j) g0 (m_put1 h x v k) := by
      unfold m_put1
      rw [put_by8 k (by omega), e76]
      refine ⟨fun j w1 w2 w3 w4 => ?_, fun o j w1 w2 w3 w4 w5 => ?_, fun o j w1 w2 w3 w4 => W.J_ o j w1 w2 w3 w4, ?_, W.j32, fun j k0 k1 => ?_⟩
      · rw [mm_sI, if_neg (fun q => w4 q.2), mm_sI, if_neg (fun q => by omega)]
        exact W.x_ j w1 w2 w3 w4
      · rw [mm_sI, if_neg (fun q => by omega), mm_sI, if_neg (fun q => w5 ⟨by omega, by omega, by omega⟩)]
        exact W.I_ o j w1 w2 w3 w4 w5
      · rw [mm_sI, if_neg (fun q => by omega), mm_sI, if_neg (fun q => by omega)]
        exact W.i40
      · dsimp only
        rw [mm_sI, if_neg (fun q => by omega), mm_sI]
        by_cases w : j = p
        · rw [if_pos ⟨rfl, by omega⟩, if_pos w]
        · rw [if_neg (fun q => w (by omega)), if_neg w]
          exact W.b_ j k0 (by omega)
    have W2 := WV.put v k (by omega) (by omega) (by omega) (by rw [m_put1_76, e76]; omega) W1
    have e : p + 1 + (k : Int) = p + ((k + 1 : Nat) : Int) := by omega
    rw [e] at W2
    refine ⟨W2.x_, W2.I_, W2.J_, W2.i40, W2.j32, fun j k0 k1 => ?_⟩
    rw [W2.b_ j k0 k1]
    unfold wP ptF
    by_cases w : j = p
    · rw [if_neg (by omega), if_pos (by omega)]
      have e2 : p + ((k + 1 : Nat) : Int) - 1 - j = k := by omega
      rw [e2]
      exact if_pos w
    · by_cases w2 : p ≤ j
      · rw [if_pos (by omega), if_pos (by omega)]
        have e2 : p + 1 + (k : Int) - 1 - j = p + ((k + 1 : Nat) : Int) - 1 - j := by omega
        rw [e2]
      · rw [if_neg (by omega), if_neg (by omega)]
        exact if_neg w
/-- bytes are put -/
theorem v_put {Y : cx_Y} (hY : cY Y) {P : Option cx_V → cx_Q → Prop} {v : Int64} {k : Int} {pc : Nat} {lv : cx_L} (W : WI x n L Q D U V h0 N O z m p h) (B : WV x s a z p ws g0 h) (hz : 0 ≤ z ∧ z ≤ 79) (hp : 0 ≤ p) (hk : 0 ≤ k ∧ k ≤ 8) (hpk : p + k ≤ 100)
    (hK : ∀ g, WI x n L Q D U V h0 N O z m (p + k) g → WV x s a z (p + k) (wP ws p v k) g0 g → cw Y mi_X11_write P pc lv [] g 0 0) : cwl Y mi_X11_write P 1 90 10 [.inl k, .inr (.inl v), .inr (.inr (some x))] pc lv [] h 0 0 := by
  have hS := W.1.rS
  have e := W.2.2.1
  refine cl_X11_put (Nat.le_of_ble_eq_true rfl) hS.1 (Nat.le_refl _) (Nat.le_refl _) (c_X11_put hY hS hk (by omega) ?_)
  have W2 := WI.put v k.toNat W
  have B2 := WV.put v k.toNat (by omega) hp (by omega) e B
  rw [show ((k.toNat : Nat) : Int) = k by omega] at W2 B2
  exact hK _ W2 B2
/-- what K must take -/
def WK (x : Nat) (n L Q D : Int) (U V : Int → Int) (h0 : cx_Q) (N O : Int) (s sz : Int) (b : Int → Int) (g0 : cx_Q) (K : Option cx_V → cx_Q → Prop) : Prop := ∀ h', MI x n L Q D U V h0 h' → TI x h' N O → WQ x s sz b g0 h' → K (some (.inl (cq_I g0 x 72))) h'
theorem v_413 {Y : cx_Y} (hY : cY Y) {K : Option cx_V → cx_Q → Prop} {u v r t i : Int} {k : Int64} (W : WI x n L Q D U V h0 N O z m p h) (B : WV x s (cq_I g0 (x + 40) s + 1) z p ws g0 h) (e72 : cq_I g0 x 72 = z) (hz : 0 ≤ z ∧ z ≤ 79) (hp : 0 ≤ p ∧ p ≤ 80) (ht : 0 ≤ t ∧ t ≤ 16999)
    (hK : WK x n L Q D U V h0 N O s (p + 8) (wE ws p k) g0 K) : cw Y mi_X11_write K 413 [some (.inr (.inr (some x))), some (.inl u), some (.inl v), some (.inl r), some (.inl s), some (.inr (.inl k)), none, some (.inl t), some (.inl (100 * z)), some (.inl i)] [] h 0 0 := by
  have hS := W.1.rS
  have e76 := W.2.2.1
  have e72' := W.2.2.2.1
  refine bx_X11_write_413 hY (pf1_ok hY) ?_
  simp only [wp_iconst, wp_bipush, wp_sipush, wp_ldc, wp_ldc2_w, wp_lconst0, wp_lconst1, wp_aconst_null, wp_iload_0, wp_istore_0, wp_iload_1, wp_istore_1, wp_iload_2, wp_istore_2, wp_iload_3, wp_istore_3, wp_iload, wp_istore, wp_lload_0, wp_lstore_0, wp_lload_1, wp_lstore_1, wp_lload_2, wp_lstore_2, wp_lload_3, wp_lstore_3, wp_lload, wp_lstore, wp_aload_0, wp_astore_0, wp_aload_1, wp_astore_1, wp_aload_2, wp_astore_2, wp_aload_3, wp_astore_3, wp_aload, wp_astore, wp_iinc, wp_iadd, wp_isub, wp_imul, wp_iand, wp_ior, wp_ixor, wp_ishl, wp_ishr, wp_iushr, wp_irem, wp_ladd, wp_lsub, wp_lmul, wp_land, wp_lor, wp_lxor, wp_lshl, wp_lshr, wp_lushr, wp_lrem, wp_lcmp, wp_i2l, wp_l2i, wp_dupI, wp_dupA, wp_dup2J, wp_dup2IA, wp_popI, wp_popA, wp_pop2, wp_goto, wp_if_eq, wp_icmp_eq, wp_if_ne, wp_icmp_ne, wp_if_lt, wp_icmp_lt, wp_if_ge, wp_icmp_ge, wp_if_gt, wp_icmp_gt, wp_if_le, wp_icmp_le, wp_ifnull, wp_ifnonnull, wp_acmp_eq, wp_acmp_ne, wp_tableswitch, wp_get0, wp_put0, wp_get1, wp_put1, wp_get2, wp_put2, wp_get3, wp_put3, wp_new, wp_newarray, wp_anewarray, wp_alen, wp_iaload, wp_laload, wp_baload, wp_aaload, wp_iastore, wp_lastore, wp_bastore, wp_aastore, wp_return, wp_ireturnI, wp_ireturnZ, wp_lreturn, wp_areturnO, wp_areturnA, wp_max, wp_min, wp_obj, wp_virt, wp_nil, ld_I0, ld_Is, ld_J0, ld_Js, ld_A0, ld_As, ha_0, ha_s, cx_put1, cx_put2, cx_dl, cx_tgt, true_and, and_true, Nat.reduceAdd, Nat.reduceSub, Int.reduceAdd, Int.reduceNeg, Int.reduceToNat, Int.reduceSub, Int.cast_ofNat_Int, List.take_succ_cons, List.take_zero, List.drop_succ_cons, List.drop_zero, List.take_nil, List.drop_nil, Option.toList_some, Option.toList_none, List.cons_append, List.nil_append, wp_spec, ne_eq, Nat.reduceEqDiff, not_false_eq_true, true_or, or_true, hS.1, e76, e72', cx_rg]
  refine ⟨by omega, ?_⟩
  have es : 100 * z + p - 100 * z = p := by omega
  rw [es]
  refine cl_X11_sumOfBytes (Nat.le_of_ble_eq_true rfl) hS.1 (Nat.le_refl _) (Nat.le_refl _) (c_X11_sumOfBytes hY hS (by omega) (by omega) ?_)
  have eb : m_sb (cq_I h (x + 62)) (100 * z) p.toNat 0 (Int64.ofInt 0) = m_sb ws 0 p.toNat 0 (Int64.ofInt 0) := m_sb_c (fun i i0 i1 => by rw [Int.zero_add]; exact B.b_ i i0 (by omega))
  rw [eb]
  refine bx_X11_write_433 hY (pf1_ok hY) ?_
  simp only [wp_iconst, wp_bipush, wp_sipush, wp_ldc, wp_ldc2_w, wp_lconst0, wp_lconst1, wp_aconst_null, wp_iload_0, wp_istore_0, wp_iload_1, wp_istore_1, wp_iload_2, wp_istore_2, wp_iload_3, wp_istore_3, wp_iload, wp_istore, wp_lload_0, wp_lstore_0, wp_lload_1, wp_lstore_1, wp_lload_2, wp_lstore_2, wp_lload_3, wp_lstore_3, wp_lload, wp_lstore, wp_aload_0, wp_astore_0, wp_aload_1, wp_astore_1, wp_aload_2, wp_astore_2, wp_aload_3, wp_astore_3, wp_aload, wp_astore, wp_iinc, wp_iadd, wp_isub, wp_imul, wp_iand, wp_ior, wp_ixor, wp_ishl, wp_ishr, wp_iushr, wp_irem, wp_ladd, wp_lsub, wp_lmul, wp_land, wp_lor, wp_lxor, wp_lshl, wp_lshr, wp_lushr, wp_lrem, wp_lcmp, wp_i2l, wp_l2i, wp_dupI, wp_dupA, wp_dup2J, wp_dup2IA, wp_popI, wp_popA, wp_pop2, wp_goto, wp_if_eq, wp_icmp_eq, wp_if_ne, wp_icmp_ne, wp_if_lt, wp_icmp_lt, wp_if_ge, wp_icmp_ge, wp_if_gt, wp_icmp_gt, wp_if_le, wp_icmp_le, wp_ifnull, wp_ifnonnull, wp_acmp_eq, wp_acmp_ne, wp_tableswitch, wp_get0, wp_put0, wp_get1, wp_put1, wp_get2, wp_put2, wp_get3, wp_put3, wp_new, wp_newarray, wp_anewarray, wp_alen, wp_iaload, wp_laload, wp_baload, wp_aaload, wp_iastore, wp_lastore, wp_bastore, wp_aastore, wp_return, wp_ireturnI, wp_ireturnZ, wp_lreturn, wp_areturnO, wp_areturnA, wp_max, wp_min, wp_obj, wp_virt, wp_nil, ld_I0, ld_Is, ld_J0, ld_Js, ld_A0, ld_As, ha_0, ha_s, cx_put1, cx_put2, cx_dl, cx_tgt, true_and, and_true, Nat.reduceAdd, Nat.reduceSub, Int.reduceAdd, Int.reduceNeg, Int.reduceToNat, Int.reduceSub, Int.cast_ofNat_Int, List.take_succ_cons, List.take_zero, List.drop_succ_cons, List.drop_zero, List.take_nil, List.drop_nil, Option.toList_some, Option.toList_none, List.cons_append, List.nil_append, wp_spec, ne_eq, Nat.reduceEqDiff, not_false_eq_true, true_or, or_true, wf_X11_mix, wf_X11_key, wf_X11_times, wf_X11_timesQ, wf_X11_power, wf_X11_common, wf_X11_modQ, wf_X11_asSecret, wf_X11_sumOf, cx_sz, cx_c2, cond_true, cond_false, Nat.reduceLeDiff]
  refine v_put hY W B hz (by omega) (by decide) (by omega) ?_
  intro g W B
  have B : WV x s (cq_I g0 (x + 40) s + 1) z (p + 8) (wE ws p k) g0 g := B
  obtain ⟨M, T, f76, f72, f68⟩ := W
  have hG := M.rS
  refine bx_X11_write_441 hY (pf1_ok hY) ?_
  simp only [wp_iconst, wp_bipush, wp_sipush, wp_ldc, wp_ldc2_w, wp_lconst0, wp_lconst1, wp_aconst_null, wp_iload_0, wp_istore_0, wp_iload_1, wp_istore_1, wp_iload_2, wp_istore_2, wp_iload_3, wp_istore_3, wp_iload, wp_istore, wp_lload_0, wp_lstore_0, wp_lload_1, wp_lstore_1, wp_lload_2, wp_lstore_2, wp_lload_3, wp_lstore_3, wp_lload, wp_lstore, wp_aload_0, wp_astore_0, wp_aload_1, wp_astore_1, wp_aload_2, wp_astore_2, wp_aload_3, wp_astore_3, wp_aload, wp_astore, wp_iinc, wp_iadd, wp_isub, wp_imul, wp_iand, wp_ior, wp_ixor, wp_ishl, wp_ishr, wp_iushr, wp_irem, wp_ladd, wp_lsub, wp_lmul, wp_land, wp_lor, wp_lxor, wp_lshl, wp_lshr, wp_lushr, wp_lrem, wp_lcmp, wp_i2l, wp_l2i, wp_dupI, wp_dupA, wp_dup2J, wp_dup2IA, wp_popI, wp_popA, wp_pop2, wp_goto, wp_if_eq, wp_icmp_eq, wp_if_ne, wp_icmp_ne, wp_if_lt, wp_icmp_lt, wp_if_ge, wp_icmp_ge, wp_if_gt, wp_icmp_gt, wp_if_le, wp_icmp_le, wp_ifnull, wp_ifnonnull, wp_acmp_eq, wp_acmp_ne, wp_tableswitch, wp_get0, wp_put0, wp_get1, wp_put1, wp_get2, wp_put2, wp_get3, wp_put3, wp_new, wp_newarray, wp_anewarray, wp_alen, wp_iaload, wp_laload, wp_baload, wp_aaload, wp_iastore, wp_lastore, wp_bastore, wp_aastore, wp_return, wp_ireturnI, wp_ireturnZ, wp_lreturn, wp_areturnO, wp_areturnA, wp_max, wp_min, wp_obj, wp_virt, wp_nil, ld_I0, ld_Is, ld_J0, ld_Js, ld_A0, ld_As, ha_0, ha_s, cx_put1, cx_put2, cx_dl, cx_tgt, true_and, and_true, Nat.reduceAdd, Nat.reduceSub, Int.reduceAdd, Int.reduceNeg, Int.reduceToNat, Int.reduceSub, Int.cast_ofNat_Int, List.take_succ_cons, List.take_zero, List.drop_succ_cons, List.drop_zero, List.take_nil, List.drop_nil, Option.toList_some, Option.toList_none, List.cons_append, List.nil_append, wp_spec, ne_eq, Nat.reduceEqDiff, not_false_eq_true, true_or, or_true, rA_letterSize hG, rs_letterSize hG, rz_letterSize hG, ra_168, rA_letterTerm hG, rs_letterTerm hG, rz_letterTerm hG, ra_169, (hG).1, mm_sI, mm_sJ, mm_sA, mm_IJ, mm_IA, mm_JI, mm_JA, mm_AI, mm_AJ, mm_ssI, mm_ssJ, mm_ssA, mm_zI, mm_zJ, mm_zA, mm_nI, mm_nJ, mm_nA, Nat.left_eq_add, Nat.add_eq_left, Nat.add_left_cancel_iff, Nat.reduceEqDiff, Int.reduceEq, false_and, and_false, if_false, if_true, and_self, true_and, true_or, or_true, false_or, or_false, f76, f72, cx_rg]
  (repeat' (with_reducible (first | refine And.intro ?_ ?_ | intro _)))
  all_goals (try omega)
  have ea : z + 1 - 1 = cq_I g0 x 72 := by omega
  rw [ea]
  refine hK _ ?_ ?_ ?_
  · (repeat' (first | with_reducible assumption | with_reducible refine MI.sJx ?_ | with_reducible refine MI.sJ ?_ (by decide) | with_reducible refine MI.sx ?_ ?_ (by decide) | with_reducible refine MI.sI ?_ ?_ (by decide) (by decide) | with_reducible refine MI.draw ?_)) <;> (try first | exact True.intro | exact ⟨by omega, by omega⟩)
  · repeat' (first | with_reducible assumption | with_reducible refine TI.sJ ?_ | (with_reducible refine TI.s2 ?_ ?_ ?_; rotate_left; omega; omega) | (with_reducible refine TI.s10 ?_ ?_ ?_; rotate_left; omega; omega) | (with_reducible refine TI.s33 ?_ ?_ ?_; rotate_left; omega; omega) | (with_reducible refine TI.sF ?_ ?_ ?_ ?_; rotate_left; decide; decide; decide) | (with_reducible refine TI.sT ?_ ?_ ?_; rotate_left; decide; first | exact fun q => absurd q (by decide) | exact fun _ => ⟨by omega, by omega⟩))
  · have i72 := B.x_ 72 (by decide) (by decide) (by decide) (by decide)
    have n64 : 64 ∈ tL := by decide
    refine ⟨fun j w1 w2 w3 w4 w5 w6 => ?_, ?_, ?_, fun o j w1 w2 w3 w4 w5 w6 => ?_, fun o j w1 w2 w3 w4 => B.J_ o j w1 w2 w3 w4, ?_, B.j32, ?_, fun j k0 k1 => ?_⟩
    · rw [mm_sI, if_neg (fun q => w1 q.2), mm_sI, if_neg (fun q => w3 q.2), mm_sI, if_neg (fun q => by omega), mm_sI, if_neg (fun q => by omega)]
      exact B.x_ j w4 w5 w6 w2
    · rw [mm_sI, if_pos ⟨rfl, rfl⟩]
      omega
    · rw [mm_sI, if_neg (fun q => absurd q.2 (by decide)), mm_sI, if_pos ⟨rfl, rfl⟩]
    · have n64' : o ≠ 64 := fun q => w3 (by rw [q]; exact n64)
      rw [mm_sI, if_neg (fun q => by omega), mm_sI, if_neg (fun q => by omega), mm_sI, if_neg (fun q => n64' (by omega)), mm_sI, if_neg (fun q => w5 ⟨by omega, by omega⟩)]
      exact B.I_ o j w1 w2 w3 w4 (fun q => w6 ⟨q.1, by omega, by omega⟩)
    · rw [mm_sI, if_neg (fun q => by omega), mm_sI, if_neg (fun q => by omega), mm_sI, if_neg (fun q => by omega), mm_sI, if_neg (fun q => by omega)]
      exact B.i40
    · rw [mm_sI, if_neg (fun q => by omega), mm_sI, if_neg (fun q => by omega), mm_sI, if_neg (fun q => by omega), mm_sI, if_pos ⟨rfl, by omega⟩]
      omega
    · rw [mm_sI, if_neg (fun q => by omega), mm_sI, if_neg (fun q => by omega), mm_sI, if_neg (fun q => by omega), mm_sI, if_neg (fun q => by omega), e72]
      exact B.b_ j k0 k1
theorem v_369 {Y : cx_Y} (hY : cY Y) {K : Option cx_V → cx_Q → Prop} {u v r t pb : Int} {k : Int64} (e72 : cq_I g0 x 72 = z) (hz : 0 ≤ z ∧ z ≤ 79) (ht : 0 ≤ t ∧ t ≤ 16999) (hm : 0 ≤ m ∧ m ≤ 40) (hpb : 0 ≤ pb ∧ pb ≤ 40) (tb : ∀ i, 0 ≤ i → i < m → 0 ≤ cq_I g0 (x + 61) i ∧ cq_I g0 (x + 61) i ≤ 255) : ∀ (c : Nat) (i : Int) (ws : Int → Int) (h : cx_Q), 0 ≤ i → i + c = m → WK x n L Q D U V h0 N O s (pb + m + 8) (wE (wD (cq_I g0 (x + 61)) k pb c i ws) (pb + m) k) g0 K → WI x n L Q D U V h0 N O z m (pb + i) h → WV x s (cq_I g0 (x + 40) s + 1) z (pb + i) ws g0 h → cw Y mi_X11_write K 369 [some (.inr (.inr (some x))), some (.inl u), some (.inl v), some (.inl r), some (.inl s), some (.inr (.inl k)), none, some (.inl t), some (.inl (100 * z)), some (.inl i)] [] h 0 0 := by
  intro c
  induction c with
  | zero =>
    intro i ws h h1 h2 hK W B
    have hS := W.1.rS
    have e68 := W.2.2.2.2
    refine bx_X11_write_369 hY (pf1_ok hY) ?_
    simp only [wp_iconst, wp_bipush, wp_sipush, wp_ldc, wp_ldc2_w, wp_lconst0, wp_lconst1, wp_aconst_null, wp_iload_0, wp_istore_0, wp_iload_1, wp_istore_1, wp_iload_2, wp_istore_2, wp_iload_3, wp_istore_3, wp_iload, wp_istore, wp_lload_0, wp_lstore_0, wp_lload_1, wp_lstore_1, wp_lload_2, wp_lstore_2, wp_lload_3, wp_lstore_3, wp_lload, wp_lstore, wp_aload_0, wp_astore_0, wp_aload_1, wp_astore_1, wp_aload_2, wp_astore_2, wp_aload_3, wp_astore_3, wp_aload, wp_astore, wp_iinc, wp_iadd, wp_isub, wp_imul, wp_iand, wp_ior, wp_ixor, wp_ishl, wp_ishr, wp_iushr, wp_irem, wp_ladd, wp_lsub, wp_lmul, wp_land, wp_lor, wp_lxor, wp_lshl, wp_lshr, wp_lushr, wp_lrem, wp_lcmp, wp_i2l, wp_l2i, wp_dupI, wp_dupA, wp_dup2J, wp_dup2IA, wp_popI, wp_popA, wp_pop2, wp_goto, wp_if_eq, wp_icmp_eq, wp_if_ne, wp_icmp_ne, wp_if_lt, wp_icmp_lt, wp_if_ge, wp_icmp_ge, wp_if_gt, wp_icmp_gt, wp_if_le, wp_icmp_le, wp_ifnull, wp_ifnonnull, wp_acmp_eq, wp_acmp_ne, wp_tableswitch, wp_get0, wp_put0, wp_get1, wp_put1, wp_get2, wp_put2, wp_get3, wp_put3, wp_new, wp_newarray, wp_anewarray, wp_alen, wp_iaload, wp_laload, wp_baload, wp_aaload, wp_iastore, wp_lastore, wp_bastore, wp_aastore, wp_return, wp_ireturnI, wp_ireturnZ, wp_lreturn, wp_areturnO, wp_areturnA, wp_max, wp_min, wp_obj, wp_virt, wp_nil, ld_I0, ld_Is, ld_J0, ld_Js, ld_A0, ld_As, ha_0, ha_s, cx_put1, cx_put2, cx_dl, cx_tgt, true_and, and_true, Nat.reduceAdd, Nat.reduceSub, Int.reduceAdd, Int.reduceNeg, Int.reduceToNat, Int.reduceSub, Int.cast_ofNat_Int, List.take_succ_cons, List.take_zero, List.drop_succ_cons, List.drop_zero, List.take_nil, List.drop_nil, Option.toList_some, Option.toList_none, List.cons_append, List.nil_append, wp_spec, ne_eq, Nat.reduceEqDiff, not_false_eq_true, true_or, or_true, rA_tape hS, rs_tape hS, rz_tape hS, ra_166, (hS).1, e68]
    have ei : i = m := by omega
    rw [wD_0] at hK
    rw [ei] at W B
    refine ⟨fun _ => v_413 hY W B e72 hz (by omega) ht hK, fun q => absurd q (by omega)⟩
  | succ c ih =>
    intro i ws h h1 h2 hK W B
    have hS := W.1.rS
    have e68 := W.2.2.2.2
    have e61 := B.I_ 61 i (by decide) (by decide) (by decide) (by omega) (by omega)
    have tbi := tb i h1 (by omega)
    refine bx_X11_write_369 hY (pf1_ok hY) ?_
    simp only [wp_iconst, wp_bipush, wp_sipush, wp_ldc, wp_ldc2_w, wp_lconst0, wp_lconst1, wp_aconst_null, wp_iload_0, wp_istore_0, wp_iload_1, wp_istore_1, wp_iload_2, wp_istore_2, wp_iload_3, wp_istore_3, wp_iload, wp_istore, wp_lload_0, wp_lstore_0, wp_lload_1, wp_lstore_1, wp_lload_2, wp_lstore_2, wp_lload_3, wp_lstore_3, wp_lload, wp_lstore, wp_aload_0, wp_astore_0, wp_aload_1, wp_astore_1, wp_aload_2, wp_astore_2, wp_aload_3, wp_astore_3, wp_aload, wp_astore, wp_iinc, wp_iadd, wp_isub, wp_imul, wp_iand, wp_ior, wp_ixor, wp_ishl, wp_ishr, wp_iushr, wp_irem, wp_ladd, wp_lsub, wp_lmul, wp_land, wp_lor, wp_lxor, wp_lshl, wp_lshr, wp_lushr, wp_lrem, wp_lcmp, wp_i2l, wp_l2i, wp_dupI, wp_dupA, wp_dup2J, wp_dup2IA, wp_popI, wp_popA, wp_pop2, wp_goto, wp_if_eq, wp_icmp_eq, wp_if_ne, wp_icmp_ne, wp_if_lt, wp_icmp_lt, wp_if_ge, wp_icmp_ge, wp_if_gt, wp_icmp_gt, wp_if_le, wp_icmp_le, wp_ifnull, wp_ifnonnull, wp_acmp_eq, wp_acmp_ne, wp_tableswitch, wp_get0, wp_put0, wp_get1, wp_put1, wp_get2, wp_put2, wp_get3, wp_put3, wp_new, wp_newarray, wp_anewarray, wp_alen, wp_iaload, wp_laload, wp_baload, wp_aaload, wp_iastore, wp_lastore, wp_bastore, wp_aastore, wp_return, wp_ireturnI, wp_ireturnZ, wp_lreturn, wp_areturnO, wp_areturnA, wp_max, wp_min, wp_obj, wp_virt, wp_nil, ld_I0, ld_Is, ld_J0, ld_Js, ld_A0, ld_As, ha_0, ha_s, cx_put1, cx_put2, cx_dl, cx_tgt, true_and, and_true, Nat.reduceAdd, Nat.reduceSub, Int.reduceAdd, Int.reduceNeg, Int.reduceToNat, Int.reduceSub, Int.cast_ofNat_Int, List.take_succ_cons, List.take_zero, List.drop_succ_cons, List.drop_zero, List.take_nil, List.drop_nil, Option.toList_some, Option.toList_none, List.cons_append, List.nil_append, wp_spec, ne_eq, Nat.reduceEqDiff, not_false_eq_true, true_or, or_true, wf_X11_mix, wf_X11_key, wf_X11_times, wf_X11_timesQ, wf_X11_power, wf_X11_common, wf_X11_modQ, wf_X11_asSecret, wf_X11_sumOf, cx_sz, cx_c2, cond_true, cond_false, Nat.reduceLeDiff, rA_tape hS, rs_tape hS, rz_tape hS, ra_166, (hS).1, e68, e61, cx_rg]
    rw [veil_8 tbi]
    rw [wD_s] at hK
    refine ⟨fun q => absurd q (by omega), fun _ => ⟨by omega, ?_⟩⟩
    refine v_put hY W B hz (by omega) (by decide) (by omega) ?_
    intro g W B
    refine bx_X11_write_407 hY (pf1_ok hY) ?_
    simp only [wp_iconst, wp_bipush, wp_sipush, wp_ldc, wp_ldc2_w, wp_lconst0, wp_lconst1, wp_aconst_null, wp_iload_0, wp_istore_0, wp_iload_1, wp_istore_1, wp_iload_2, wp_istore_2, wp_iload_3, wp_istore_3, wp_iload, wp_istore, wp_lload_0, wp_lstore_0, wp_lload_1, wp_lstore_1, wp_lload_2, wp_lstore_2, wp_lload_3, wp_lstore_3, wp_lload, wp_lstore, wp_aload_0, wp_astore_0, wp_aload_1, wp_astore_1, wp_aload_2, wp_astore_2, wp_aload_3, wp_astore_3, wp_aload, wp_astore, wp_iinc, wp_iadd, wp_isub, wp_imul, wp_iand, wp_ior, wp_ixor, wp_ishl, wp_ishr, wp_iushr, wp_irem, wp_ladd, wp_lsub, wp_lmul, wp_land, wp_lor, wp_lxor, wp_lshl, wp_lshr, wp_lushr, wp_lrem, wp_lcmp, wp_i2l, wp_l2i, wp_dupI, wp_dupA, wp_dup2J, wp_dup2IA, wp_popI, wp_popA, wp_pop2, wp_goto, wp_if_eq, wp_icmp_eq, wp_if_ne, wp_icmp_ne, wp_if_lt, wp_icmp_lt, wp_if_ge, wp_icmp_ge, wp_if_gt, wp_icmp_gt, wp_if_le, wp_icmp_le, wp_ifnull, wp_ifnonnull, wp_acmp_eq, wp_acmp_ne, wp_tableswitch, wp_get0, wp_put0, wp_get1, wp_put1, wp_get2, wp_put2, wp_get3, wp_put3, wp_new, wp_newarray, wp_anewarray, wp_alen, wp_iaload, wp_laload, wp_baload, wp_aaload, wp_iastore, wp_lastore, wp_bastore, wp_aastore, wp_return, wp_ireturnI, wp_ireturnZ, wp_lreturn, wp_areturnO, wp_areturnA, wp_max, wp_min, wp_obj, wp_virt, wp_nil, ld_I0, ld_Is, ld_J0, ld_Js, ld_A0, ld_As, ha_0, ha_s, cx_put1, cx_put2, cx_dl, cx_tgt, true_and, and_true, Nat.reduceAdd, Nat.reduceSub, Int.reduceAdd, Int.reduceNeg, Int.reduceToNat, Int.reduceSub, Int.cast_ofNat_Int, List.take_succ_cons, List.take_zero, List.drop_succ_cons, List.drop_zero, List.take_nil, List.drop_nil, Option.toList_some, Option.toList_none, List.cons_append, List.nil_append, wp_spec, ne_eq, Nat.reduceEqDiff, not_false_eq_true, true_or, or_true, cx_rg]
    refine ⟨by omega, ?_⟩
    have e1 : pb + i + 1 = pb + (i + 1) := by omega
    rw [e1] at W B
    exact ih (i + 1) _ g (by omega) (by omega) hK W B
theorem v_306 {Y : cx_Y} (hY : cY Y) {K : Option cx_V → cx_Q → Prop} {u v r t : Int} {k : Int64} {o9 : Option cx_V} (hQ : Q ≤ 200) (W : WI x n L Q D U V h0 N O z m p h) (B : WV x s (cq_I g0 (x + 40) s) z p ws g0 h) (e72 : cq_I g0 x 72 = z) (hz : 0 ≤ z ∧ z ≤ 79) (hs : 0 ≤ s ∧ s < 144) (ht : 0 ≤ t ∧ t ≤ 16999) (hm : 0 ≤ m ∧ m ≤ 40) (hp : 0 ≤ p ∧ p ≤ 23) (tb : ∀ i, 0 ≤ i → i < m → 0 ≤ cq_I g0 (x + 61) i ∧ cq_I g0 (x + 61) i ≤ 255)
    (hK : WK x n L (Q + 1) D U V h0 N O s (p + 13 + m + 8) (wE (wD (cq_I g0 (x + 61)) k (p + 13) m.toNat 0 (wC ws p (cq_J g0 (x + 37) s) (cq_I g0 (x + 42) s) (cq_I g0 (x + 40) s) m)) (p + 13 + m) k) g0 K) : cw Y mi_X11_write K 306 [some (.inr (.inr (some x))), some (.inl u), some (.inl v), some (.inl r), some (.inl s), some (.inr (.inl k)), none, some (.inl t), some (.inl (100 * z)), o9] [] h 0 0 := by
  have hS := W.1.rS
  have f37 := B.J_ 37 s (by decide) (by decide) (by decide) (by omega)
  refine bx_X11_write_306 hY (pf1_ok hY) ?_
  simp only [wp_iconst, wp_bipush, wp_sipush, wp_ldc, wp_ldc2_w, wp_lconst0, wp_lconst1, wp_aconst_null, wp_iload_0, wp_istore_0, wp_iload_1, wp_istore_1, wp_iload_2, wp_istore_2, wp_iload_3, wp_istore_3, wp_iload, wp_istore, wp_lload_0, wp_lstore_0, wp_lload_1, wp_lstore_1, wp_lload_2, wp_lstore_2, wp_lload_3, wp_lstore_3, wp_lload, wp_lstore, wp_aload_0, wp_astore_0, wp_aload_1, wp_astore_1, wp_aload_2, wp_astore_2, wp_aload_3, wp_astore_3, wp_aload, wp_astore, wp_iinc, wp_iadd, wp_isub, wp_imul, wp_iand, wp_ior, wp_ixor, wp_ishl, wp_ishr, wp_iushr, wp_irem, wp_ladd, wp_lsub, wp_lmul, wp_land, wp_lor, wp_lxor, wp_lshl, wp_lshr, wp_lushr, wp_lrem, wp_lcmp, wp_i2l, wp_l2i, wp_dupI, wp_dupA, wp_dup2J, wp_dup2IA, wp_popI, wp_popA, wp_pop2, wp_goto, wp_if_eq, wp_icmp_eq, wp_if_ne, wp_icmp_ne, wp_if_lt, wp_icmp_lt, wp_if_ge, wp_icmp_ge, wp_if_gt, wp_icmp_gt, wp_if_le, wp_icmp_le, wp_ifnull, wp_ifnonnull, wp_acmp_eq, wp_acmp_ne, wp_tableswitch, wp_get0, wp_put0, wp_get1, wp_put1, wp_get2, wp_put2, wp_get3, wp_put3, wp_new, wp_newarray, wp_anewarray, wp_alen, wp_iaload, wp_laload, wp_baload, wp_aaload, wp_iastore, wp_lastore, wp_bastore, wp_aastore, wp_return, wp_ireturnI, wp_ireturnZ, wp_lreturn, wp_areturnO, wp_areturnA, wp_max, wp_min, wp_obj, wp_virt, wp_nil, ld_I0, ld_Is, ld_J0, ld_Js, ld_A0, ld_As, ha_0, ha_s, cx_put1, cx_put2, cx_dl, cx_tgt, true_and, and_true, Nat.reduceAdd, Nat.reduceSub, Int.reduceAdd, Int.reduceNeg, Int.reduceToNat, Int.reduceSub, Int.cast_ofNat_Int, List.take_succ_cons, List.take_zero, List.drop_succ_cons, List.drop_zero, List.take_nil, List.drop_nil, Option.toList_some, Option.toList_none, List.cons_append, List.nil_append, wp_spec, ne_eq, Nat.reduceEqDiff, not_false_eq_true, true_or, or_true, rA_sOwnOpen hS, rs_sOwnOpen hS, rz_sOwnOpen hS, ra_142, (hS).1, f37]
  refine ⟨by omega, ?_⟩
  refine v_put hY W B hz (by omega) (by decide) (by omega) ?_
  intro g W B
  have hS := W.1.rS
  have f42 := B.I_ 42 s (by decide) (by decide) (by decide) (by omega) (by omega)
  refine bx_X11_write_319 hY (pf1_ok hY) ?_
  simp only [wp_iconst, wp_bipush, wp_sipush, wp_ldc, wp_ldc2_w, wp_lconst0, wp_lconst1, wp_aconst_null, wp_iload_0, wp_istore_0, wp_iload_1, wp_istore_1, wp_iload_2, wp_istore_2, wp_iload_3, wp_istore_3, wp_iload, wp_istore, wp_lload_0, wp_lstore_0, wp_lload_1, wp_lstore_1, wp_lload_2, wp_lstore_2, wp_lload_3, wp_lstore_3, wp_lload, wp_lstore, wp_aload_0, wp_astore_0, wp_aload_1, wp_astore_1, wp_aload_2, wp_astore_2, wp_aload_3, wp_astore_3, wp_aload, wp_astore, wp_iinc, wp_iadd, wp_isub, wp_imul, wp_iand, wp_ior, wp_ixor, wp_ishl, wp_ishr, wp_iushr, wp_irem, wp_ladd, wp_lsub, wp_lmul, wp_land, wp_lor, wp_lxor, wp_lshl, wp_lshr, wp_lushr, wp_lrem, wp_lcmp, wp_i2l, wp_l2i, wp_dupI, wp_dupA, wp_dup2J, wp_dup2IA, wp_popI, wp_popA, wp_pop2, wp_goto, wp_if_eq, wp_icmp_eq, wp_if_ne, wp_icmp_ne, wp_if_lt, wp_icmp_lt, wp_if_ge, wp_icmp_ge, wp_if_gt, wp_icmp_gt, wp_if_le, wp_icmp_le, wp_ifnull, wp_ifnonnull, wp_acmp_eq, wp_acmp_ne, wp_tableswitch, wp_get0, wp_put0, wp_get1, wp_put1, wp_get2, wp_put2, wp_get3, wp_put3, wp_new, wp_newarray, wp_anewarray, wp_alen, wp_iaload, wp_laload, wp_baload, wp_aaload, wp_iastore, wp_lastore, wp_bastore, wp_aastore, wp_return, wp_ireturnI, wp_ireturnZ, wp_lreturn, wp_areturnO, wp_areturnA, wp_max, wp_min, wp_obj, wp_virt, wp_nil, ld_I0, ld_Is, ld_J0, ld_Js, ld_A0, ld_As, ha_0, ha_s, cx_put1, cx_put2, cx_dl, cx_tgt, true_and, and_true, Nat.reduceAdd, Nat.reduceSub, Int.reduceAdd, Int.reduceNeg, Int.reduceToNat, Int.reduceSub, Int.cast_ofNat_Int, List.take_succ_cons, List.take_zero, List.drop_succ_cons, List.drop_zero, List.take_nil, List.drop_nil, Option.toList_some, Option.toList_none, List.cons_append, List.nil_append, wp_spec, ne_eq, Nat.reduceEqDiff, not_false_eq_true, true_or, or_true, rA_sPn hS, rs_sPn hS, rz_sPn hS, ra_147, (hS).1, f42]
  refine ⟨by omega, ?_⟩
  refine v_put hY W B hz (by omega) (by decide) (by omega) ?_
  intro g W B
  have hS := W.1.rS
  have f40 := B.i40
  refine bx_X11_write_332 hY (pf1_ok hY) ?_
  simp only [wp_iconst, wp_bipush, wp_sipush, wp_ldc, wp_ldc2_w, wp_lconst0, wp_lconst1, wp_aconst_null, wp_iload_0, wp_istore_0, wp_iload_1, wp_istore_1, wp_iload_2, wp_istore_2, wp_iload_3, wp_istore_3, wp_iload, wp_istore, wp_lload_0, wp_lstore_0, wp_lload_1, wp_lstore_1, wp_lload_2, wp_lstore_2, wp_lload_3, wp_lstore_3, wp_lload, wp_lstore, wp_aload_0, wp_astore_0, wp_aload_1, wp_astore_1, wp_aload_2, wp_astore_2, wp_aload_3, wp_astore_3, wp_aload, wp_astore, wp_iinc, wp_iadd, wp_isub, wp_imul, wp_iand, wp_ior, wp_ixor, wp_ishl, wp_ishr, wp_iushr, wp_irem, wp_ladd, wp_lsub, wp_lmul, wp_land, wp_lor, wp_lxor, wp_lshl, wp_lshr, wp_lushr, wp_lrem, wp_lcmp, wp_i2l, wp_l2i, wp_dupI, wp_dupA, wp_dup2J, wp_dup2IA, wp_popI, wp_popA, wp_pop2, wp_goto, wp_if_eq, wp_icmp_eq, wp_if_ne, wp_icmp_ne, wp_if_lt, wp_icmp_lt, wp_if_ge, wp_icmp_ge, wp_if_gt, wp_icmp_gt, wp_if_le, wp_icmp_le, wp_ifnull, wp_ifnonnull, wp_acmp_eq, wp_acmp_ne, wp_tableswitch, wp_get0, wp_put0, wp_get1, wp_put1, wp_get2, wp_put2, wp_get3, wp_put3, wp_new, wp_newarray, wp_anewarray, wp_alen, wp_iaload, wp_laload, wp_baload, wp_aaload, wp_iastore, wp_lastore, wp_bastore, wp_aastore, wp_return, wp_ireturnI, wp_ireturnZ, wp_lreturn, wp_areturnO, wp_areturnA, wp_max, wp_min, wp_obj, wp_virt, wp_nil, ld_I0, ld_Is, ld_J0, ld_Js, ld_A0, ld_As, ha_0, ha_s, cx_put1, cx_put2, cx_dl, cx_tgt, true_and, and_true, Nat.reduceAdd, Nat.reduceSub, Int.reduceAdd, Int.reduceNeg, Int.reduceToNat, Int.reduceSub, Int.cast_ofNat_Int, List.take_succ_cons, List.take_zero, List.drop_succ_cons, List.drop_zero, List.take_nil, List.drop_nil, Option.toList_some, Option.toList_none, List.cons_append, List.nil_append, wp_spec, ne_eq, Nat.reduceEqDiff, not_false_eq_true, true_or, or_true, rA_sNs hS, rs_sNs hS, rz_sNs hS, ra_145, (hS).1, f40]
  refine ⟨by omega, ?_⟩
  refine v_put hY W B hz (by omega) (by decide) (by omega) ?_
  intro g W B
  have hS := W.1.rS
  have a40 := W.1.r40 s
  have e68 := W.2.2.2.2
  have f40 := B.i40
  rw [f40] at a40
  have W2 : WI x n L (Q + 1) D U V h0 N O z m (p + 8 + 2 + 2) (cq_sI g (x + 40) s (cq_I g0 (x + 40) s + 1)) := by
    obtain ⟨M, T, f76, f72, f68⟩ := W
    have M := M.up (Q' := Q + 1) (by omega) (Int.le_refl _)
    refine ⟨?_, ?_, ?_, ?_, ?_⟩
    · (repeat' (first | with_reducible assumption | with_reducible refine MI.sJx ?_ | with_reducible refine MI.sJ ?_ (by decide) | with_reducible refine MI.sx ?_ ?_ (by decide) | with_reducible refine MI.sI ?_ ?_ (by decide) (by decide) | with_reducible refine MI.draw ?_)) <;> (try first | exact True.intro | exact ⟨by omega, by omega⟩)
    · repeat' (first | with_reducible assumption | with_reducible refine TI.sJ ?_ | (with_reducible refine TI.s2 ?_ ?_ ?_; rotate_left; omega; omega) | (with_reducible refine TI.s10 ?_ ?_ ?_; rotate_left; omega; omega) | (with_reducible refine TI.s33 ?_ ?_ ?_; rotate_left; omega; omega) | (with_reducible refine TI.sF ?_ ?_ ?_ ?_; rotate_left; decide; decide; decide) | (with_reducible refine TI.sT ?_ ?_ ?_; rotate_left; decide; first | exact fun q => absurd q (by decide) | exact fun _ => ⟨by omega, by omega⟩))
    · simp only [mm_sI, mm_sJ, mm_sA, mm_IJ, mm_IA, mm_JI, mm_JA, mm_AI, mm_AJ, mm_ssI, mm_ssJ, mm_ssA, mm_zI, mm_zJ, mm_zA, mm_nI, mm_nJ, mm_nA, Nat.left_eq_add, Nat.add_eq_left, Nat.add_left_cancel_iff, Nat.reduceEqDiff, Int.reduceEq, false_and, and_false, if_false, if_true, and_self, true_and, true_or, or_true, false_or, or_false]; exact f76
    · simp only [mm_sI, mm_sJ, mm_sA, mm_IJ, mm_IA, mm_JI, mm_JA, mm_AI, mm_AJ, mm_ssI, mm_ssJ, mm_ssA, mm_zI, mm_zJ, mm_zA, mm_nI, mm_nJ, mm_nA, Nat.left_eq_add, Nat.add_eq_left, Nat.add_left_cancel_iff, Nat.reduceEqDiff, Int.reduceEq, false_and, and_false, if_false, if_true, and_self, true_and, true_or, or_true, false_or, or_false]; exact f72
    · simp only [mm_sI, mm_sJ, mm_sA, mm_IJ, mm_IA, mm_JI, mm_JA, mm_AI, mm_AJ, mm_ssI, mm_ssJ, mm_ssA, mm_zI, mm_zJ, mm_zA, mm_nI, mm_nJ, mm_nA, Nat.left_eq_add, Nat.add_eq_left, Nat.add_left_cancel_iff, Nat.reduceEqDiff, Int.reduceEq, false_and, and_false, if_false, if_true, and_self, true_and, true_or, or_true, false_or, or_false]; exact f68
  have B2 : WV x s (cq_I g0 (x + 40) s + 1) z (p + 8 + 2 + 2) (wP (wP (wP ws p (cq_J g0 (x + 37) s) 8) (p + 8) (Int64.ofInt (cq_I g0 (x + 42) s)) 2) (p + 8 + 2) (Int64.ofInt (cq_I g0 (x + 40) s)) 2) g0 (cq_sI g (x + 40) s (cq_I g0 (x + 40) s + 1)) := by
    refine ⟨fun j w1 w2 w3 w4 => ?_, fun o j w1 w2 w3 w4 w5 => ?_, fun o j w1 w2 w3 w4 => B.J_ o j w1 w2 w3 w4, ?_, B.j32, fun j k0 k1 => ?_⟩
    · rw [mm_sI, if_neg (fun q => by omega)]
      exact B.x_ j w1 w2 w3 w4
    · rw [mm_sI, if_neg (fun q => w4 ⟨by omega, q.2⟩)]
      exact B.I_ o j w1 w2 w3 w4 w5
    · rw [mm_sI, if_pos ⟨rfl, rfl⟩]
    · rw [mm_sI, if_neg (fun q => by omega)]
      exact B.b_ j k0 k1
  have hS2 := W2.1.rS
  refine bx_X11_write_345 hY (pf1_ok hY) ?_
  simp only [wp_iconst, wp_bipush, wp_sipush, wp_ldc, wp_ldc2_w, wp_lconst0, wp_lconst1, wp_aconst_null, wp_iload_0, wp_istore_0, wp_iload_1, wp_istore_1, wp_iload_2, wp_istore_2, wp_iload_3, wp_istore_3, wp_iload, wp_istore, wp_lload_0, wp_lstore_0, wp_lload_1, wp_lstore_1, wp_lload_2, wp_lstore_2, wp_lload_3, wp_lstore_3, wp_lload, wp_lstore, wp_aload_0, wp_astore_0, wp_aload_1, wp_astore_1, wp_aload_2, wp_astore_2, wp_aload_3, wp_astore_3, wp_aload, wp_astore, wp_iinc, wp_iadd, wp_isub, wp_imul, wp_iand, wp_ior, wp_ixor, wp_ishl, wp_ishr, wp_iushr, wp_irem, wp_ladd, wp_lsub, wp_lmul, wp_land, wp_lor, wp_lxor, wp_lshl, wp_lshr, wp_lushr, wp_lrem, wp_lcmp, wp_i2l, wp_l2i, wp_dupI, wp_dupA, wp_dup2J, wp_dup2IA, wp_popI, wp_popA, wp_pop2, wp_goto, wp_if_eq, wp_icmp_eq, wp_if_ne, wp_icmp_ne, wp_if_lt, wp_icmp_lt, wp_if_ge, wp_icmp_ge, wp_if_gt, wp_icmp_gt, wp_if_le, wp_icmp_le, wp_ifnull, wp_ifnonnull, wp_acmp_eq, wp_acmp_ne, wp_tableswitch, wp_get0, wp_put0, wp_get1, wp_put1, wp_get2, wp_put2, wp_get3, wp_put3, wp_new, wp_newarray, wp_anewarray, wp_alen, wp_iaload, wp_laload, wp_baload, wp_aaload, wp_iastore, wp_lastore, wp_bastore, wp_aastore, wp_return, wp_ireturnI, wp_ireturnZ, wp_lreturn, wp_areturnO, wp_areturnA, wp_max, wp_min, wp_obj, wp_virt, wp_nil, ld_I0, ld_Is, ld_J0, ld_Js, ld_A0, ld_As, ha_0, ha_s, cx_put1, cx_put2, cx_dl, cx_tgt, true_and, and_true, Nat.reduceAdd, Nat.reduceSub, Int.reduceAdd, Int.reduceNeg, Int.reduceToNat, Int.reduceSub, Int.cast_ofNat_Int, List.take_succ_cons, List.take_zero, List.drop_succ_cons, List.drop_zero, List.take_nil, List.drop_nil, Option.toList_some, Option.toList_none, List.cons_append, List.nil_append, wp_spec, ne_eq, Nat.reduceEqDiff, not_false_eq_true, true_or, or_true, rA_sNs hS, rs_sNs hS, rz_sNs hS, ra_145, (hS).1, hS2.1, f40, cx_rg]
  (repeat' (with_reducible (first | refine And.intro ?_ ?_ | intro _)))
  all_goals (try omega)
  have e68b := W2.2.2.2.2
  have e68c : cq_I (cq_sI g (x + 40) s (cq_I g0 (x + 40) s + 1)) x 68 = m := e68b
  try rw [e68c]
  refine v_put hY W2 B2 hz (by omega) (by decide) (by omega) ?_
  intro g W B
  refine bx_X11_write_366 hY (pf1_ok hY) ?_
  simp only [wp_iconst, wp_bipush, wp_sipush, wp_ldc, wp_ldc2_w, wp_lconst0, wp_lconst1, wp_aconst_null, wp_iload_0, wp_istore_0, wp_iload_1, wp_istore_1, wp_iload_2, wp_istore_2, wp_iload_3, wp_istore_3, wp_iload, wp_istore, wp_lload_0, wp_lstore_0, wp_lload_1, wp_lstore_1, wp_lload_2, wp_lstore_2, wp_lload_3, wp_lstore_3, wp_lload, wp_lstore, wp_aload_0, wp_astore_0, wp_aload_1, wp_astore_1, wp_aload_2, wp_astore_2, wp_aload_3, wp_astore_3, wp_aload, wp_astore, wp_iinc, wp_iadd, wp_isub, wp_imul, wp_iand, wp_ior, wp_ixor, wp_ishl, wp_ishr, wp_iushr, wp_irem, wp_ladd, wp_lsub, wp_lmul, wp_land, wp_lor, wp_lxor, wp_lshl, wp_lshr, wp_lushr, wp_lrem, wp_lcmp, wp_i2l, wp_l2i, wp_dupI, wp_dupA, wp_dup2J, wp_dup2IA, wp_popI, wp_popA, wp_pop2, wp_goto, wp_if_eq, wp_icmp_eq, wp_if_ne, wp_icmp_ne, wp_if_lt, wp_icmp_lt, wp_if_ge, wp_icmp_ge, wp_if_gt, wp_icmp_gt, wp_if_le, wp_icmp_le, wp_ifnull, wp_ifnonnull, wp_acmp_eq, wp_acmp_ne, wp_tableswitch, wp_get0, wp_put0, wp_get1, wp_put1, wp_get2, wp_put2, wp_get3, wp_put3, wp_new, wp_newarray, wp_anewarray, wp_alen, wp_iaload, wp_laload, wp_baload, wp_aaload, wp_iastore, wp_lastore, wp_bastore, wp_aastore, wp_return, wp_ireturnI, wp_ireturnZ, wp_lreturn, wp_areturnO, wp_areturnA, wp_max, wp_min, wp_obj, wp_virt, wp_nil, ld_I0, ld_Is, ld_J0, ld_Js, ld_A0, ld_As, ha_0, ha_s, cx_put1, cx_put2, cx_dl, cx_tgt, true_and, and_true, Nat.reduceAdd, Nat.reduceSub, Int.reduceAdd, Int.reduceNeg, Int.reduceToNat, Int.reduceSub, Int.cast_ofNat_Int, List.take_succ_cons, List.take_zero, List.drop_succ_cons, List.drop_zero, List.take_nil, List.drop_nil, Option.toList_some, Option.toList_none, List.cons_append, List.nil_append, wp_spec, ne_eq, Nat.reduceEqDiff, not_false_eq_true, true_or, or_true]
  have e13 : p + 8 + 2 + 2 + 1 = p + 13 + 0 := by omega
  have e10 : p + 8 + 2 = p + 10 := by omega
  have e12 : p + 10 + 2 = p + 12 := by omega
  rw [e13] at W B
  rw [e10, e12] at B
  exact v_369 hY e72 hz ht hm (by omega) tb m.toNat 0 _ g (by decide) (by omega) hK W B
end
/-! the reference, exactly: a letter is written, whole -/
def wrS (x : Nat) (g : cx_Q) (u v : Int) : Int := cq_I g (x + 29) (4 * (6 * u + v))
def wrZ (x : Nat) (g : cx_Q) (s : Int) : Int := wp0 (cq_I g (x + 43) s) + 13 + cq_I g x 68 + 8
def wrB (x : Nat) (g : cx_Q) (u v s : Int) : Int → Int := wAll (cq_I g (x + 43) s) u v (cq_J g (x + 14) u) (cq_J g (x + 45) s) (cq_I g (x + 46) s) (cq_I g (x + 47) s) (cq_J g (x + 37) s) (cq_I g (x + 42) s) (cq_I g (x + 40) s) (cq_I g x 68) (cq_I g (x + 61)) (lkC (cq_J g (x + 32) s))
/-- what a letter written from u to v does to the reference -/
def WR (x : Nat) (u v : Int) (g g' : cx_Q) : Prop := WQ x (wrS x g u v) (wrZ x g (wrS x g u v)) (wrB x g u v (wrS x g u v)) g g'
section
variable {x : Nat} {n L Q D N O z m p s a : Int} {U V ws : Int → Int} {h0 h g0 : cx_Q}
theorem v_227 {Y : cx_Y} (hY : cY Y) {K : Option cx_V → cx_Q → Prop} {u v r t : Int} {o9 : Option cx_V} {b : Int64} (hQ : Q ≤ 200) (W : WI x n L Q D U V h0 N O z m 0 h) (B : WV x s (cq_I g0 (x + 40) s) z 0 (fun _ => 0) g0 h) (e72 : cq_I g0 x 72 = z) (e68 : cq_I g0 x 68 = m) (hu : 0 ≤ u ∧ u < 6) (hz : 0 ≤ z ∧ z ≤ 79) (hs : 0 ≤ s ∧ s < 144) (ht : 0 ≤ t ∧ t ≤ 16999) (hm : 0 ≤ m ∧ m ≤ 40) (tb : ∀ i, 0 ≤ i → i < m → 0 ≤ cq_I g0 (x + 61) i ∧ cq_I g0 (x + 61) i ≤ 255) (hb : b = Int64.ofInt (if cq_I g0 (x + 43) s = 0 then 2 else 1))
    (hK : WK x n L (Q + 1) D U V h0 N O s (wrZ x g0 s) (wrB x g0 u v s) g0 K) : cw Y mi_X11_write K 227 [some (.inr (.inr (some x))), some (.inl u), some (.inl v), some (.inl r), some (.inl s), some (.inr (.inl (lkC (cq_J g0 (x + 32) s)))), none, some (.inl t), some (.inl (100 * z)), o9] [.inr (.inl b), .inr (.inr (some x))] h 0 0 := by
  unfold wrZ wrB wAll at hK
  rw [e68] at hK
  have hS := W.1.rS
  refine bx_X11_write_227 hY (pf1_ok hY) ?_
  simp only [wp_iconst, wp_bipush, wp_sipush, wp_ldc, wp_ldc2_w, wp_lconst0, wp_lconst1, wp_aconst_null, wp_iload_0, wp_istore_0, wp_iload_1, wp_istore_1, wp_iload_2, wp_istore_2, wp_iload_3, wp_istore_3, wp_iload, wp_istore, wp_lload_0, wp_lstore_0, wp_lload_1, wp_lstore_1, wp_lload_2, wp_lstore_2, wp_lload_3, wp_lstore_3, wp_lload, wp_lstore, wp_aload_0, wp_astore_0, wp_aload_1, wp_astore_1, wp_aload_2, wp_astore_2, wp_aload_3, wp_astore_3, wp_aload, wp_astore, wp_iinc, wp_iadd, wp_isub, wp_imul, wp_iand, wp_ior, wp_ixor, wp_ishl, wp_ishr, wp_iushr, wp_irem, wp_ladd, wp_lsub, wp_lmul, wp_land, wp_lor, wp_lxor, wp_lshl, wp_lshr, wp_lushr, wp_lrem, wp_lcmp, wp_i2l, wp_l2i, wp_dupI, wp_dupA, wp_dup2J, wp_dup2IA, wp_popI, wp_popA, wp_pop2, wp_goto, wp_if_eq, wp_icmp_eq, wp_if_ne, wp_icmp_ne, wp_if_lt, wp_icmp_lt, wp_if_ge, wp_icmp_ge, wp_if_gt, wp_icmp_gt, wp_if_le, wp_icmp_le, wp_ifnull, wp_ifnonnull, wp_acmp_eq, wp_acmp_ne, wp_tableswitch, wp_get0, wp_put0, wp_get1, wp_put1, wp_get2, wp_put2, wp_get3, wp_put3, wp_new, wp_newarray, wp_anewarray, wp_alen, wp_iaload, wp_laload, wp_baload, wp_aaload, wp_iastore, wp_lastore, wp_bastore, wp_aastore, wp_return, wp_ireturnI, wp_ireturnZ, wp_lreturn, wp_areturnO, wp_areturnA, wp_max, wp_min, wp_obj, wp_virt, wp_nil, ld_I0, ld_Is, ld_J0, ld_Js, ld_A0, ld_As, ha_0, ha_s, cx_put1, cx_put2, cx_dl, cx_tgt, true_and, and_true, Nat.reduceAdd, Nat.reduceSub, Int.reduceAdd, Int.reduceNeg, Int.reduceToNat, Int.reduceSub, Int.cast_ofNat_Int, List.take_succ_cons, List.take_zero, List.drop_succ_cons, List.drop_zero, List.take_nil, List.drop_nil, Option.toList_some, Option.toList_none, List.cons_append, List.nil_append, wp_spec, ne_eq, Nat.reduceEqDiff, not_false_eq_true, true_or, or_true]
  refine v_put hY W B hz (by omega) (by decide) (by omega) ?_
  intro g W B
  refine bx_X11_write_231 hY (pf1_ok hY) ?_
  simp only [wp_iconst, wp_bipush, wp_sipush, wp_ldc, wp_ldc2_w, wp_lconst0, wp_lconst1, wp_aconst_null, wp_iload_0, wp_istore_0, wp_iload_1, wp_istore_1, wp_iload_2, wp_istore_2, wp_iload_3, wp_istore_3, wp_iload, wp_istore, wp_lload_0, wp_lstore_0, wp_lload_1, wp_lstore_1, wp_lload_2, wp_lstore_2, wp_lload_3, wp_lstore_3, wp_lload, wp_lstore, wp_aload_0, wp_astore_0, wp_aload_1, wp_astore_1, wp_aload_2, wp_astore_2, wp_aload_3, wp_astore_3, wp_aload, wp_astore, wp_iinc, wp_iadd, wp_isub, wp_imul, wp_iand, wp_ior, wp_ixor, wp_ishl, wp_ishr, wp_iushr, wp_irem, wp_ladd, wp_lsub, wp_lmul, wp_land, wp_lor, wp_lxor, wp_lshl, wp_lshr, wp_lushr, wp_lrem, wp_lcmp, wp_i2l, wp_l2i, wp_dupI, wp_dupA, wp_dup2J, wp_dup2IA, wp_popI, wp_popA, wp_pop2, wp_goto, wp_if_eq, wp_icmp_eq, wp_if_ne, wp_icmp_ne, wp_if_lt, wp_icmp_lt, wp_if_ge, wp_icmp_ge, wp_if_gt, wp_icmp_gt, wp_if_le, wp_icmp_le, wp_ifnull, wp_ifnonnull, wp_acmp_eq, wp_acmp_ne, wp_tableswitch, wp_get0, wp_put0, wp_get1, wp_put1, wp_get2, wp_put2, wp_get3, wp_put3, wp_new, wp_newarray, wp_anewarray, wp_alen, wp_iaload, wp_laload, wp_baload, wp_aaload, wp_iastore, wp_lastore, wp_bastore, wp_aastore, wp_return, wp_ireturnI, wp_ireturnZ, wp_lreturn, wp_areturnO, wp_areturnA, wp_max, wp_min, wp_obj, wp_virt, wp_nil, ld_I0, ld_Is, ld_J0, ld_Js, ld_A0, ld_As, ha_0, ha_s, cx_put1, cx_put2, cx_dl, cx_tgt, true_and, and_true, Nat.reduceAdd, Nat.reduceSub, Int.reduceAdd, Int.reduceNeg, Int.reduceToNat, Int.reduceSub, Int.cast_ofNat_Int, List.take_succ_cons, List.take_zero, List.drop_succ_cons, List.drop_zero, List.take_nil, List.drop_nil, Option.toList_some, Option.toList_none, List.cons_append, List.nil_append, wp_spec, ne_eq, Nat.reduceEqDiff, not_false_eq_true, true_or, or_true]
  refine v_put hY W B hz (by omega) (by decide) (by omega) ?_
  intro g W B
  refine bx_X11_write_238 hY (pf1_ok hY) ?_
  simp only [wp_iconst, wp_bipush, wp_sipush, wp_ldc, wp_ldc2_w, wp_lconst0, wp_lconst1, wp_aconst_null, wp_iload_0, wp_istore_0, wp_iload_1, wp_istore_1, wp_iload_2, wp_istore_2, wp_iload_3, wp_istore_3, wp_iload, wp_istore, wp_lload_0, wp_lstore_0, wp_lload_1, wp_lstore_1, wp_lload_2, wp_lstore_2, wp_lload_3, wp_lstore_3, wp_lload, wp_lstore, wp_aload_0, wp_astore_0, wp_aload_1, wp_astore_1, wp_aload_2, wp_astore_2, wp_aload_3, wp_astore_3, wp_aload, wp_astore, wp_iinc, wp_iadd, wp_isub, wp_imul, wp_iand, wp_ior, wp_ixor, wp_ishl, wp_ishr, wp_iushr, wp_irem, wp_ladd, wp_lsub, wp_lmul, wp_land, wp_lor, wp_lxor, wp_lshl, wp_lshr, wp_lushr, wp_lrem, wp_lcmp, wp_i2l, wp_l2i, wp_dupI, wp_dupA, wp_dup2J, wp_dup2IA, wp_popI, wp_popA, wp_pop2, wp_goto, wp_if_eq, wp_icmp_eq, wp_if_ne, wp_icmp_ne, wp_if_lt, wp_icmp_lt, wp_if_ge, wp_icmp_ge, wp_if_gt, wp_icmp_gt, wp_if_le, wp_icmp_le, wp_ifnull, wp_ifnonnull, wp_acmp_eq, wp_acmp_ne, wp_tableswitch, wp_get0, wp_put0, wp_get1, wp_put1, wp_get2, wp_put2, wp_get3, wp_put3, wp_new, wp_newarray, wp_anewarray, wp_alen, wp_iaload, wp_laload, wp_baload, wp_aaload, wp_iastore, wp_lastore, wp_bastore, wp_aastore, wp_return, wp_ireturnI, wp_ireturnZ, wp_lreturn, wp_areturnO, wp_areturnA, wp_max, wp_min, wp_obj, wp_virt, wp_nil, ld_I0, ld_Is, ld_J0, ld_Js, ld_A0, ld_As, ha_0, ha_s, cx_put1, cx_put2, cx_dl, cx_tgt, true_and, and_true, Nat.reduceAdd, Nat.reduceSub, Int.reduceAdd, Int.reduceNeg, Int.reduceToNat, Int.reduceSub, Int.cast_ofNat_Int, List.take_succ_cons, List.take_zero, List.drop_succ_cons, List.drop_zero, List.take_nil, List.drop_nil, Option.toList_some, Option.toList_none, List.cons_append, List.nil_append, wp_spec, ne_eq, Nat.reduceEqDiff, not_false_eq_true, true_or, or_true]
  refine v_put hY W B hz (by omega) (by decide) (by omega) ?_
  intro g W B
  rw [hb] at B
  have B : WV x s (cq_I g0 (x + 40) s) z 3 (wA (if cq_I g0 (x + 43) s = 0 then 2 else 1) u v) g0 g := B
  have W : WI x n L Q D U V h0 N O z m 3 g := W
  have hS := W.1.rS
  have f43 := B.I_ 43 s (by decide) (by decide) (by decide) (by omega) (by omega)
  have f14 := B.J_ 14 u (by decide) (by decide) (by decide) (by omega)
  refine bx_X11_write_245 hY (pf1_ok hY) ?_
  simp only [wp_iconst, wp_bipush, wp_sipush, wp_ldc, wp_ldc2_w, wp_lconst0, wp_lconst1, wp_aconst_null, wp_iload_0, wp_istore_0, wp_iload_1, wp_istore_1, wp_iload_2, wp_istore_2, wp_iload_3, wp_istore_3, wp_iload, wp_istore, wp_lload_0, wp_lstore_0, wp_lload_1, wp_lstore_1, wp_lload_2, wp_lstore_2, wp_lload_3, wp_lstore_3, wp_lload, wp_lstore, wp_aload_0, wp_astore_0, wp_aload_1, wp_astore_1, wp_aload_2, wp_astore_2, wp_aload_3, wp_astore_3, wp_aload, wp_astore, wp_iinc, wp_iadd, wp_isub, wp_imul, wp_iand, wp_ior, wp_ixor, wp_ishl, wp_ishr, wp_iushr, wp_irem, wp_ladd, wp_lsub, wp_lmul, wp_land, wp_lor, wp_lxor, wp_lshl, wp_lshr, wp_lushr, wp_lrem, wp_lcmp, wp_i2l, wp_l2i, wp_dupI, wp_dupA, wp_dup2J, wp_dup2IA, wp_popI, wp_popA, wp_pop2, wp_goto, wp_if_eq, wp_icmp_eq, wp_if_ne, wp_icmp_ne, wp_if_lt, wp_icmp_lt, wp_if_ge, wp_icmp_ge, wp_if_gt, wp_icmp_gt, wp_if_le, wp_icmp_le, wp_ifnull, wp_ifnonnull, wp_acmp_eq, wp_acmp_ne, wp_tableswitch, wp_get0, wp_put0, wp_get1, wp_put1, wp_get2, wp_put2, wp_get3, wp_put3, wp_new, wp_newarray, wp_anewarray, wp_alen, wp_iaload, wp_laload, wp_baload, wp_aaload, wp_iastore, wp_lastore, wp_bastore, wp_aastore, wp_return, wp_ireturnI, wp_ireturnZ, wp_lreturn, wp_areturnO, wp_areturnA, wp_max, wp_min, wp_obj, wp_virt, wp_nil, ld_I0, ld_Is, ld_J0, ld_Js, ld_A0, ld_As, ha_0, ha_s, cx_put1, cx_put2, cx_dl, cx_tgt, true_and, and_true, Nat.reduceAdd, Nat.reduceSub, Int.reduceAdd, Int.reduceNeg, Int.reduceToNat, Int.reduceSub, Int.cast_ofNat_Int, List.take_succ_cons, List.take_zero, List.drop_succ_cons, List.drop_zero, List.take_nil, List.drop_nil, Option.toList_some, Option.toList_none, List.cons_append, List.nil_append, wp_spec, ne_eq, Nat.reduceEqDiff, not_false_eq_true, true_or, or_true, rA_goesWith hS, rs_goesWith hS, rz_goesWith hS, ra_148, rA_identityOpen hS, rs_identityOpen hS, rz_identityOpen hS, ra_119, (hS).1, f43, f14]
  refine ⟨by omega, fun q => ?_, fun q => ⟨by omega, ?_⟩⟩
  · unfold wp0 wAB at hK
    rw [if_pos q, if_pos q] at hK
    rw [if_pos q] at B
    exact v_306 hY hQ W B e72 hz hs ht hm (by decide) tb hK
  rw [if_neg q] at B
  unfold wp0 wAB at hK
  rw [if_neg q, if_neg q] at hK
  refine v_put hY W B hz (by omega) (by decide) (by omega) ?_
  intro g W B
  have hS := W.1.rS
  have f45 := B.J_ 45 s (by decide) (by decide) (by decide) (by omega)
  refine bx_X11_write_267 hY (pf1_ok hY) ?_
  simp only [wp_iconst, wp_bipush, wp_sipush, wp_ldc, wp_ldc2_w, wp_lconst0, wp_lconst1, wp_aconst_null, wp_iload_0, wp_istore_0, wp_iload_1, wp_istore_1, wp_iload_2, wp_istore_2, wp_iload_3, wp_istore_3, wp_iload, wp_istore, wp_lload_0, wp_lstore_0, wp_lload_1, wp_lstore_1, wp_lload_2, wp_lstore_2, wp_lload_3, wp_lstore_3, wp_lload, wp_lstore, wp_aload_0, wp_astore_0, wp_aload_1, wp_astore_1, wp_aload_2, wp_astore_2, wp_aload_3, wp_astore_3, wp_aload, wp_astore, wp_iinc, wp_iadd, wp_isub, wp_imul, wp_iand, wp_ior, wp_ixor, wp_ishl, wp_ishr, wp_iushr, wp_irem, wp_ladd, wp_lsub, wp_lmul, wp_land, wp_lor, wp_lxor, wp_lshl, wp_lshr, wp_lushr, wp_lrem, wp_lcmp, wp_i2l, wp_l2i, wp_dupI, wp_dupA, wp_dup2J, wp_dup2IA, wp_popI, wp_popA, wp_pop2, wp_goto, wp_if_eq, wp_icmp_eq, wp_if_ne, wp_icmp_ne, wp_if_lt, wp_icmp_lt, wp_if_ge, wp_icmp_ge, wp_if_gt, wp_icmp_gt, wp_if_le, wp_icmp_le, wp_ifnull, wp_ifnonnull, wp_acmp_eq, wp_acmp_ne, wp_tableswitch, wp_get0, wp_put0, wp_get1, wp_put1, wp_get2, wp_put2, wp_get3, wp_put3, wp_new, wp_newarray, wp_anewarray, wp_alen, wp_iaload, wp_laload, wp_baload, wp_aaload, wp_iastore, wp_lastore, wp_bastore, wp_aastore, wp_return, wp_ireturnI, wp_ireturnZ, wp_lreturn, wp_areturnO, wp_areturnA, wp_max, wp_min, wp_obj, wp_virt, wp_nil, ld_I0, ld_Is, ld_J0, ld_Js, ld_A0, ld_As, ha_0, ha_s, cx_put1, cx_put2, cx_dl, cx_tgt, true_and, and_true, Nat.reduceAdd, Nat.reduceSub, Int.reduceAdd, Int.reduceNeg, Int.reduceToNat, Int.reduceSub, Int.cast_ofNat_Int, List.take_succ_cons, List.take_zero, List.drop_succ_cons, List.drop_zero, List.take_nil, List.drop_nil, Option.toList_some, Option.toList_none, List.cons_append, List.nil_append, wp_spec, ne_eq, Nat.reduceEqDiff, not_false_eq_true, true_or, or_true, rA_sE hS, rs_sE hS, rz_sE hS, ra_150, (hS).1, f45]
  refine ⟨by omega, ?_⟩
  refine v_put hY W B hz (by omega) (by decide) (by omega) ?_
  intro g W B
  have hS := W.1.rS
  have f46 := B.I_ 46 s (by decide) (by decide) (by decide) (by omega) (by omega)
  refine bx_X11_write_280 hY (pf1_ok hY) ?_
  simp only [wp_iconst, wp_bipush, wp_sipush, wp_ldc, wp_ldc2_w, wp_lconst0, wp_lconst1, wp_aconst_null, wp_iload_0, wp_istore_0, wp_iload_1, wp_istore_1, wp_iload_2, wp_istore_2, wp_iload_3, wp_istore_3, wp_iload, wp_istore, wp_lload_0, wp_lstore_0, wp_lload_1, wp_lstore_1, wp_lload_2, wp_lstore_2, wp_lload_3, wp_lstore_3, wp_lload, wp_lstore, wp_aload_0, wp_astore_0, wp_aload_1, wp_astore_1, wp_aload_2, wp_astore_2, wp_aload_3, wp_astore_3, wp_aload, wp_astore, wp_iinc, wp_iadd, wp_isub, wp_imul, wp_iand, wp_ior, wp_ixor, wp_ishl, wp_ishr, wp_iushr, wp_irem, wp_ladd, wp_lsub, wp_lmul, wp_land, wp_lor, wp_lxor, wp_lshl, wp_lshr, wp_lushr, wp_lrem, wp_lcmp, wp_i2l, wp_l2i, wp_dupI, wp_dupA, wp_dup2J, wp_dup2IA, wp_popI, wp_popA, wp_pop2, wp_goto, wp_if_eq, wp_icmp_eq, wp_if_ne, wp_icmp_ne, wp_if_lt, wp_icmp_lt, wp_if_ge, wp_icmp_ge, wp_if_gt, wp_icmp_gt, wp_if_le, wp_icmp_le, wp_ifnull, wp_ifnonnull, wp_acmp_eq, wp_acmp_ne, wp_tableswitch, wp_get0, wp_put0, wp_get1, wp_put1, wp_get2, wp_put2, wp_get3, wp_put3, wp_new, wp_newarray, wp_anewarray, wp_alen, wp_iaload, wp_laload, wp_baload, wp_aaload, wp_iastore, wp_lastore, wp_bastore, wp_aastore, wp_return, wp_ireturnI, wp_ireturnZ, wp_lreturn, wp_areturnO, wp_areturnA, wp_max, wp_min, wp_obj, wp_virt, wp_nil, ld_I0, ld_Is, ld_J0, ld_Js, ld_A0, ld_As, ha_0, ha_s, cx_put1, cx_put2, cx_dl, cx_tgt, true_and, and_true, Nat.reduceAdd, Nat.reduceSub, Int.reduceAdd, Int.reduceNeg, Int.reduceToNat, Int.reduceSub, Int.cast_ofNat_Int, List.take_succ_cons, List.take_zero, List.drop_succ_cons, List.drop_zero, List.take_nil, List.drop_nil, Option.toList_some, Option.toList_none, List.cons_append, List.nil_append, wp_spec, ne_eq, Nat.reduceEqDiff, not_false_eq_true, true_or, or_true, rA_sLent hS, rs_sLent hS, rz_sLent hS, ra_151, (hS).1, f46]
  refine ⟨by omega, ?_⟩
  refine v_put hY W B hz (by omega) (by decide) (by omega) ?_
  intro g W B
  have hS := W.1.rS
  have f47 := B.I_ 47 s (by decide) (by decide) (by decide) (by omega) (by omega)
  refine bx_X11_write_293 hY (pf1_ok hY) ?_
  simp only [wp_iconst, wp_bipush, wp_sipush, wp_ldc, wp_ldc2_w, wp_lconst0, wp_lconst1, wp_aconst_null, wp_iload_0, wp_istore_0, wp_iload_1, wp_istore_1, wp_iload_2, wp_istore_2, wp_iload_3, wp_istore_3, wp_iload, wp_istore, wp_lload_0, wp_lstore_0, wp_lload_1, wp_lstore_1, wp_lload_2, wp_lstore_2, wp_lload_3, wp_lstore_3, wp_lload, wp_lstore, wp_aload_0, wp_astore_0, wp_aload_1, wp_astore_1, wp_aload_2, wp_astore_2, wp_aload_3, wp_astore_3, wp_aload, wp_astore, wp_iinc, wp_iadd, wp_isub, wp_imul, wp_iand, wp_ior, wp_ixor, wp_ishl, wp_ishr, wp_iushr, wp_irem, wp_ladd, wp_lsub, wp_lmul, wp_land, wp_lor, wp_lxor, wp_lshl, wp_lshr, wp_lushr, wp_lrem, wp_lcmp, wp_i2l, wp_l2i, wp_dupI, wp_dupA, wp_dup2J, wp_dup2IA, wp_popI, wp_popA, wp_pop2, wp_goto, wp_if_eq, wp_icmp_eq, wp_if_ne, wp_icmp_ne, wp_if_lt, wp_icmp_lt, wp_if_ge, wp_icmp_ge, wp_if_gt, wp_icmp_gt, wp_if_le, wp_icmp_le, wp_ifnull, wp_ifnonnull, wp_acmp_eq, wp_acmp_ne, wp_tableswitch, wp_get0, wp_put0, wp_get1, wp_put1, wp_get2, wp_put2, wp_get3, wp_put3, wp_new, wp_newarray, wp_anewarray, wp_alen, wp_iaload, wp_laload, wp_baload, wp_aaload, wp_iastore, wp_lastore, wp_bastore, wp_aastore, wp_return, wp_ireturnI, wp_ireturnZ, wp_lreturn, wp_areturnO, wp_areturnA, wp_max, wp_min, wp_obj, wp_virt, wp_nil, ld_I0, ld_Is, ld_J0, ld_Js, ld_A0, ld_As, ha_0, ha_s, cx_put1, cx_put2, cx_dl, cx_tgt, true_and, and_true, Nat.reduceAdd, Nat.reduceSub, Int.reduceAdd, Int.reduceNeg, Int.reduceToNat, Int.reduceSub, Int.cast_ofNat_Int, List.take_succ_cons, List.take_zero, List.drop_succ_cons, List.drop_zero, List.take_nil, List.drop_nil, Option.toList_some, Option.toList_none, List.cons_append, List.nil_append, wp_spec, ne_eq, Nat.reduceEqDiff, not_false_eq_true, true_or, or_true, rA_sOnce hS, rs_sOnce hS, rz_sOnce hS, ra_152, (hS).1, f47]
  refine ⟨by omega, ?_⟩
  refine v_put hY W B hz (by omega) (by decide) (by omega) ?_
  intro g W B
  have B : WV x s (cq_I g0 (x + 40) s) z 23 (wB (wA 1 u v) (cq_J g0 (x + 14) u) (cq_J g0 (x + 45) s) (cq_I g0 (x + 46) s) (cq_I g0 (x + 47) s)) g0 g := B
  have W : WI x n L Q D U V h0 N O z m 23 g := W
  exact v_306 hY hQ W B e72 hz hs ht hm (by decide) tb hK
theorem v_110 {Y : cx_Y} (hY : cY Y) {K : Option cx_V → cx_Q → Prop} {u v N O : Int} (M : MI x n L Q D U V h0 h) (hT : TI x h N O) (hN : N ≤ 16800) (hQ : Q ≤ 200) (hu : 0 ≤ u ∧ u < 6) (hv : 0 ≤ v ∧ v < 6) (h72 : cq_I h x 72 ≠ 80) (tb : ∀ i, 0 ≤ i → i < cq_I h x 68 → 0 ≤ cq_I h (x + 61) i ∧ cq_I h (x + 61) i ≤ 255)
    (hK : ∀ h', MI x n L (Q + 1) D U V h0 h' → TI x h' (N + 1 + 1) O → WR x u v h h' → K (some (.inl (cq_I h x 72))) h') : cw Y mi_X11_write K 110 [some (.inr (.inr (some x))), some (.inl u), some (.inl v), some (.inl (6 * u + v)), none, none, none, none, none, none] [] h 0 0 := by
  have hS := M.rS
  have a29 := M.r29 (4 * (6 * u + v))
  have t50 := hT.2.2.2 50 (by decide)
  have a72 := M.x72
  have a68 := M.x68
  unfold WR wrS at hK
  refine bx_X11_write_110 hY (pf1_ok hY) ?_
  simp only [wp_iconst, wp_bipush, wp_sipush, wp_ldc, wp_ldc2_w, wp_lconst0, wp_lconst1, wp_aconst_null, wp_iload_0, wp_istore_0, wp_iload_1, wp_istore_1, wp_iload_2, wp_istore_2, wp_iload_3, wp_istore_3, wp_iload, wp_istore, wp_lload_0, wp_lstore_0, wp_lload_1, wp_lstore_1, wp_lload_2, wp_lstore_2, wp_lload_3, wp_lstore_3, wp_lload, wp_lstore, wp_aload_0, wp_astore_0, wp_aload_1, wp_astore_1, wp_aload_2, wp_astore_2, wp_aload_3, wp_astore_3, wp_aload, wp_astore, wp_iinc, wp_iadd, wp_isub, wp_imul, wp_iand, wp_ior, wp_ixor, wp_ishl, wp_ishr, wp_iushr, wp_irem, wp_ladd, wp_lsub, wp_lmul, wp_land, wp_lor, wp_lxor, wp_lshl, wp_lshr, wp_lushr, wp_lrem, wp_lcmp, wp_i2l, wp_l2i, wp_dupI, wp_dupA, wp_dup2J, wp_dup2IA, wp_popI, wp_popA, wp_pop2, wp_goto, wp_if_eq, wp_icmp_eq, wp_if_ne, wp_icmp_ne, wp_if_lt, wp_icmp_lt, wp_if_ge, wp_icmp_ge, wp_if_gt, wp_icmp_gt, wp_if_le, wp_icmp_le, wp_ifnull, wp_ifnonnull, wp_acmp_eq, wp_acmp_ne, wp_tableswitch, wp_get0, wp_put0, wp_get1, wp_put1, wp_get2, wp_put2, wp_get3, wp_put3, wp_new, wp_newarray, wp_anewarray, wp_alen, wp_iaload, wp_laload, wp_baload, wp_aaload, wp_iastore, wp_lastore, wp_bastore, wp_aastore, wp_return, wp_ireturnI, wp_ireturnZ, wp_lreturn, wp_areturnO, wp_areturnA, wp_max, wp_min, wp_obj, wp_virt, wp_nil, ld_I0, ld_Is, ld_J0, ld_Js, ld_A0, ld_As, ha_0, ha_s, cx_put1, cx_put2, cx_dl, cx_tgt, true_and, and_true, Nat.reduceAdd, Nat.reduceSub, Int.reduceAdd, Int.reduceNeg, Int.reduceToNat, Int.reduceSub, Int.cast_ofNat_Int, List.take_succ_cons, List.take_zero, List.drop_succ_cons, List.drop_zero, List.take_nil, List.drop_nil, Option.toList_some, Option.toList_none, List.cons_append, List.nil_append, wp_spec, ne_eq, Nat.reduceEqDiff, not_false_eq_true, true_or, or_true, wf_X11_mix, wf_X11_key, wf_X11_times, wf_X11_timesQ, wf_X11_power, wf_X11_common, wf_X11_modQ, wf_X11_asSecret, wf_X11_sumOf, cx_sz, cx_c2, cond_true, cond_false, Nat.reduceLeDiff, rA_order hS, rs_order hS, rz_order hS, ra_134, rA_sSend hS, rs_sSend hS, rz_sSend hS, ra_137, rA_tSend hS, rs_tSend hS, rz_tSend hS, ra_155, (hS).1, cx_rg]
  generalize cq_I h (x + 29) (4 * (6 * u + v)) = s at a29 hK ⊢
  (repeat' (with_reducible (first | refine And.intro ?_ ?_ | intro _)))
  all_goals (try omega)
  have t50s := t50 s
  refine cl_X11_term (Nat.le_of_ble_eq_true rfl) hS.1 (Nat.le_refl _) (Nat.le_refl _) (c_X11_term hY hS hT (by omega) t50s (by decide) (by decide) (by decide) ?_)
  intro t g1 c1 c2 E1 T1
  have M1 := M.eT E1
  have hS1 := M1.rS
  have t50b := T1.2.2.2 50 (by decide) s
  refine bx_X11_write_150 hY (pf1_ok hY) ?_
  simp only [wp_iconst, wp_bipush, wp_sipush, wp_ldc, wp_ldc2_w, wp_lconst0, wp_lconst1, wp_aconst_null, wp_iload_0, wp_istore_0, wp_iload_1, wp_istore_1, wp_iload_2, wp_istore_2, wp_iload_3, wp_istore_3, wp_iload, wp_istore, wp_lload_0, wp_lstore_0, wp_lload_1, wp_lstore_1, wp_lload_2, wp_lstore_2, wp_lload_3, wp_lstore_3, wp_lload, wp_lstore, wp_aload_0, wp_astore_0, wp_aload_1, wp_astore_1, wp_aload_2, wp_astore_2, wp_aload_3, wp_astore_3, wp_aload, wp_astore, wp_iinc, wp_iadd, wp_isub, wp_imul, wp_iand, wp_ior, wp_ixor, wp_ishl, wp_ishr, wp_iushr, wp_irem, wp_ladd, wp_lsub, wp_lmul, wp_land, wp_lor, wp_lxor, wp_lshl, wp_lshr, wp_lushr, wp_lrem, wp_lcmp, wp_i2l, wp_l2i, wp_dupI, wp_dupA, wp_dup2J, wp_dup2IA, wp_popI, wp_popA, wp_pop2, wp_goto, wp_if_eq, wp_icmp_eq, wp_if_ne, wp_icmp_ne, wp_if_lt, wp_icmp_lt, wp_if_ge, wp_icmp_ge, wp_if_gt, wp_icmp_gt, wp_if_le, wp_icmp_le, wp_ifnull, wp_ifnonnull, wp_acmp_eq, wp_acmp_ne, wp_tableswitch, wp_get0, wp_put0, wp_get1, wp_put1, wp_get2, wp_put2, wp_get3, wp_put3, wp_new, wp_newarray, wp_anewarray, wp_alen, wp_iaload, wp_laload, wp_baload, wp_aaload, wp_iastore, wp_lastore, wp_bastore, wp_aastore, wp_return, wp_ireturnI, wp_ireturnZ, wp_lreturn, wp_areturnO, wp_areturnA, wp_max, wp_min, wp_obj, wp_virt, wp_nil, ld_I0, ld_Is, ld_J0, ld_Js, ld_A0, ld_As, ha_0, ha_s, cx_put1, cx_put2, cx_dl, cx_tgt, true_and, and_true, Nat.reduceAdd, Nat.reduceSub, Int.reduceAdd, Int.reduceNeg, Int.reduceToNat, Int.reduceSub, Int.cast_ofNat_Int, List.take_succ_cons, List.take_zero, List.drop_succ_cons, List.drop_zero, List.take_nil, List.drop_nil, Option.toList_some, Option.toList_none, List.cons_append, List.nil_append, wp_spec, ne_eq, Nat.reduceEqDiff, not_false_eq_true, true_or, or_true, rA_tSend hS1, rs_tSend hS1, rz_tSend hS1, ra_155, (hS1).1, cx_rg]
  (repeat' (with_reducible (first | refine And.intro ?_ ?_ | intro _)))
  all_goals (try omega)
  refine cl_X11_term (Nat.le_of_ble_eq_true rfl) hS1.1 (Nat.le_refl _) (Nat.le_refl _) (c_X11_term hY hS1 T1 (by omega) t50b (by decide) (by decide) (by decide) ?_)
  intro t2 g2 d1 d2 E2 T2
  have M2 := M1.eT E2
  have hS2 := M2.rS
  have E3 := E1.trans E2
  have f72 : cq_I g2 x 72 = cq_I h x 72 := E3.xI (by decide) (by decide) (by decide)
  have f68 : cq_I g2 x 68 = cq_I h x 68 := E3.xI (by decide) (by decide) (by decide)
  have f32 : cq_J g2 (x + 32) = cq_J h (x + 32) := E3.fJ (by decide) (by decide)
  have f43 : cq_I g2 (x + 43) = cq_I h (x + 43) := E3.fI (by decide) (by decide)
  refine bx_X11_write_174 hY (pf1_ok hY) ?_
  simp only [wp_iconst, wp_bipush, wp_sipush, wp_ldc, wp_ldc2_w, wp_lconst0, wp_lconst1, wp_aconst_null, wp_iload_0, wp_istore_0, wp_iload_1, wp_istore_1, wp_iload_2, wp_istore_2, wp_iload_3, wp_istore_3, wp_iload, wp_istore, wp_lload_0, wp_lstore_0, wp_lload_1, wp_lstore_1, wp_lload_2, wp_lstore_2, wp_lload_3, wp_lstore_3, wp_lload, wp_lstore, wp_aload_0, wp_astore_0, wp_aload_1, wp_astore_1, wp_aload_2, wp_astore_2, wp_aload_3, wp_astore_3, wp_aload, wp_astore, wp_iinc, wp_iadd, wp_isub, wp_imul, wp_iand, wp_ior, wp_ixor, wp_ishl, wp_ishr, wp_iushr, wp_irem, wp_ladd, wp_lsub, wp_lmul, wp_land, wp_lor, wp_lxor, wp_lshl, wp_lshr, wp_lushr, wp_lrem, wp_lcmp, wp_i2l, wp_l2i, wp_dupI, wp_dupA, wp_dup2J, wp_dup2IA, wp_popI, wp_popA, wp_pop2, wp_goto, wp_if_eq, wp_icmp_eq, wp_if_ne, wp_icmp_ne, wp_if_lt, wp_icmp_lt, wp_if_ge, wp_icmp_ge, wp_if_gt, wp_icmp_gt, wp_if_le, wp_icmp_le, wp_ifnull, wp_ifnonnull, wp_acmp_eq, wp_acmp_ne, wp_tableswitch, wp_get0, wp_put0, wp_get1, wp_put1, wp_get2, wp_put2, wp_get3, wp_put3, wp_new, wp_newarray, wp_anewarray, wp_alen, wp_iaload, wp_laload, wp_baload, wp_aaload, wp_iastore, wp_lastore, wp_bastore, wp_aastore, wp_return, wp_ireturnI, wp_ireturnZ, wp_lreturn, wp_areturnO, wp_areturnA, wp_max, wp_min, wp_obj, wp_virt, wp_nil, ld_I0, ld_Is, ld_J0, ld_Js, ld_A0, ld_As, ha_0, ha_s, cx_put1, cx_put2, cx_dl, cx_tgt, true_and, and_true, Nat.reduceAdd, Nat.reduceSub, Int.reduceAdd, Int.reduceNeg, Int.reduceToNat, Int.reduceSub, Int.cast_ofNat_Int, List.take_succ_cons, List.take_zero, List.drop_succ_cons, List.drop_zero, List.take_nil, List.drop_nil, Option.toList_some, Option.toList_none, List.cons_append, List.nil_append, wp_spec, ne_eq, Nat.reduceEqDiff, not_false_eq_true, true_or, or_true, wf_X11_mix, wf_X11_key, wf_X11_times, wf_X11_timesQ, wf_X11_power, wf_X11_common, wf_X11_modQ, wf_X11_asSecret, wf_X11_sumOf, cx_sz, cx_c2, cond_true, cond_false, Nat.reduceLeDiff, rA_tSend hS2, rs_tSend hS2, rz_tSend hS2, ra_155, rA_sSend hS2, rs_sSend hS2, rz_sSend hS2, ra_137, rA_goesWith hS2, rs_goesWith hS2, rz_goesWith hS2, ra_148, (hS2).1, mm_sI, mm_sJ, mm_sA, mm_IJ, mm_IA, mm_JI, mm_JA, mm_AI, mm_AJ, mm_ssI, mm_ssJ, mm_ssA, mm_zI, mm_zJ, mm_zA, mm_nI, mm_nJ, mm_nA, Nat.left_eq_add, Nat.add_eq_left, Nat.add_left_cancel_iff, Nat.reduceEqDiff, Int.reduceEq, false_and, and_false, if_false, if_true, and_self, true_and, true_or, or_true, false_or, or_false, f72, f32, f43, cx_rg]
  have ek : f_key 4 (cq_J h (x + 32) s) (Int64.ofInt 0) = nx1 (cq_J h (x + 32) s) := rfl
  have el : f_key 3 (cq_J h (x + 32) s) (Int64.ofInt 0) = lkC (cq_J h (x + 32) s) := rfl
  rw [ek, el]
  have W : WI x n L Q D U V h0 (N + 1 + 1) O (cq_I h x 72) (cq_I h x 68) 0 (cq_sI (cq_sJ (cq_sI g2 (x + 50) s t2) (x + 32) s (nx1 (cq_J h (x + 32) s))) x 76 (100 * cq_I h x 72)) := by
    refine ⟨?_, ?_, ?_, ?_, ?_⟩
    · (repeat' (first | with_reducible assumption | with_reducible refine MI.sJx ?_ | with_reducible refine MI.sJ ?_ (by decide) | with_reducible refine MI.sx ?_ ?_ (by decide) | with_reducible refine MI.sI ?_ ?_ (by decide) (by decide) | with_reducible refine MI.draw ?_)) <;> (try first | exact True.intro | exact ⟨by omega, by omega⟩)
    · repeat' (first | with_reducible assumption | with_reducible refine TI.sJ ?_ | (with_reducible refine TI.s2 ?_ ?_ ?_; rotate_left; omega; omega) | (with_reducible refine TI.s10 ?_ ?_ ?_; rotate_left; omega; omega) | (with_reducible refine TI.s33 ?_ ?_ ?_; rotate_left; omega; omega) | (with_reducible refine TI.sF ?_ ?_ ?_ ?_; rotate_left; decide; decide; decide) | (with_reducible refine TI.sT ?_ ?_ ?_; rotate_left; decide; first | exact fun q => absurd q (by decide) | exact fun _ => ⟨by omega, by omega⟩))
    · simp only [mm_sI, mm_sJ, mm_sA, mm_IJ, mm_IA, mm_JI, mm_JA, mm_AI, mm_AJ, mm_ssI, mm_ssJ, mm_ssA, mm_zI, mm_zJ, mm_zA, mm_nI, mm_nJ, mm_nA, Nat.left_eq_add, Nat.add_eq_left, Nat.add_left_cancel_iff, Nat.reduceEqDiff, Int.reduceEq, false_and, and_false, if_false, if_true, and_self, true_and, true_or, or_true, false_or, or_false]; omega
    · simp only [mm_sI, mm_sJ, mm_sA, mm_IJ, mm_IA, mm_JI, mm_JA, mm_AI, mm_AJ, mm_ssI, mm_ssJ, mm_ssA, mm_zI, mm_zJ, mm_zA, mm_nI, mm_nJ, mm_nA, Nat.left_eq_add, Nat.add_eq_left, Nat.add_left_cancel_iff, Nat.reduceEqDiff, Int.reduceEq, false_and, and_false, if_false, if_true, and_self, true_and, true_or, or_true, false_or, or_false]; exact f72
    · simp only [mm_sI, mm_sJ, mm_sA, mm_IJ, mm_IA, mm_JI, mm_JA, mm_AI, mm_AJ, mm_ssI, mm_ssJ, mm_ssA, mm_zI, mm_zJ, mm_zA, mm_nI, mm_nJ, mm_nA, Nat.left_eq_add, Nat.add_eq_left, Nat.add_left_cancel_iff, Nat.reduceEqDiff, Int.reduceEq, false_and, and_false, if_false, if_true, and_self, true_and, true_or, or_true, false_or, or_false]; exact f68
  have B : WV x s (cq_I h (x + 40) s) (cq_I h x 72) 0 (fun _ => 0) h (cq_sI (cq_sJ (cq_sI g2 (x + 50) s t2) (x + 32) s (nx1 (cq_J h (x + 32) s))) x 76 (100 * cq_I h x 72)) := by
    have n50 : 50 ∈ tL := by decide
    refine ⟨fun j w1 w2 w3 w4 => ?_, fun o j w1 w2 w3 w4 w5 => ?_, fun o j w1 w2 w3 w4 => ?_, ?_, ?_, fun j k0 k1 => by omega⟩
    · rw [mm_sI, if_neg (fun q => w4 q.2), mm_IJ, mm_sI, if_neg (fun q => by omega)]
      exact E3.xI w1 w2 w3
    · have n5 : o ≠ 50 := fun q => w3 (by rw [q]; exact n50)
      rw [mm_sI, if_neg (fun q => by omega), mm_IJ, mm_sI, if_neg (fun q => n5 (by omega)), E3.fI w1 w3]
    · rw [mm_JI, mm_sJ, if_neg (fun q => w4 ⟨by omega, q.2⟩), mm_JI, E3.fJ w1 w3]
    · rw [mm_sI, if_neg (fun q => by omega), mm_IJ, mm_sI, if_neg (fun q => by omega), E3.fI (by decide) (by decide)]
    · rw [mm_JI, mm_sJ, if_pos ⟨rfl, rfl⟩]
  have hK' : WK x n L (Q + 1) D U V h0 (N + 1 + 1) O s (wrZ x h s) (wrB x h u v s) h K := hK
  generalize cq_sI (cq_sJ (cq_sI g2 (x + 50) s t2) (x + 32) s (nx1 (cq_J h (x + 32) s))) x 76 (100 * cq_I h x 72) = gg at W B
  (repeat' (with_reducible (first | refine And.intro ?_ ?_ | intro _)))
  all_goals (try omega)
  · rename_i q
    refine bx_X11_write_224 hY (pf1_ok hY) ?_
    simp only [wp_iconst, wp_bipush, wp_sipush, wp_ldc, wp_ldc2_w, wp_lconst0, wp_lconst1, wp_aconst_null, wp_iload_0, wp_istore_0, wp_iload_1, wp_istore_1, wp_iload_2, wp_istore_2, wp_iload_3, wp_istore_3, wp_iload, wp_istore, wp_lload_0, wp_lstore_0, wp_lload_1, wp_lstore_1, wp_lload_2, wp_lstore_2, wp_lload_3, wp_lstore_3, wp_lload, wp_lstore, wp_aload_0, wp_astore_0, wp_aload_1, wp_astore_1, wp_aload_2, wp_astore_2, wp_aload_3, wp_astore_3, wp_aload, wp_astore, wp_iinc, wp_iadd, wp_isub, wp_imul, wp_iand, wp_ior, wp_ixor, wp_ishl, wp_ishr, wp_iushr, wp_irem, wp_ladd, wp_lsub, wp_lmul, wp_land, wp_lor, wp_lxor, wp_lshl, wp_lshr, wp_lushr, wp_lrem, wp_lcmp, wp_i2l, wp_l2i, wp_dupI, wp_dupA, wp_dup2J, wp_dup2IA, wp_popI, wp_popA, wp_pop2, wp_goto, wp_if_eq, wp_icmp_eq, wp_if_ne, wp_icmp_ne, wp_if_lt, wp_icmp_lt, wp_if_ge, wp_icmp_ge, wp_if_gt, wp_icmp_gt, wp_if_le, wp_icmp_le, wp_ifnull, wp_ifnonnull, wp_acmp_eq, wp_acmp_ne, wp_tableswitch, wp_get0, wp_put0, wp_get1, wp_put1, wp_get2, wp_put2, wp_get3, wp_put3, wp_new, wp_newarray, wp_anewarray, wp_alen, wp_iaload, wp_laload, wp_baload, wp_aaload, wp_iastore, wp_lastore, wp_bastore, wp_aastore, wp_return, wp_ireturnI, wp_ireturnZ, wp_lreturn, wp_areturnO, wp_areturnA, wp_max, wp_min, wp_obj, wp_virt, wp_nil, ld_I0, ld_Is, ld_J0, ld_Js, ld_A0, ld_As, ha_0, ha_s, cx_put1, cx_put2, cx_dl, cx_tgt, true_and, and_true, Nat.reduceAdd, Nat.reduceSub, Int.reduceAdd, Int.reduceNeg, Int.reduceToNat, Int.reduceSub, Int.cast_ofNat_Int, List.take_succ_cons, List.take_zero, List.drop_succ_cons, List.drop_zero, List.take_nil, List.drop_nil, Option.toList_some, Option.toList_none, List.cons_append, List.nil_append, wp_spec, ne_eq, Nat.reduceEqDiff, not_false_eq_true, true_or, or_true]
    exact v_227 hY hQ W B rfl rfl hu (by omega) (by omega) (by omega) a68 tb (by rw [if_pos q]) hK'
  · rename_i q
    exact v_227 hY hQ W B rfl rfl hu (by omega) (by omega) (by omega) a68 tb (by rw [if_neg q]) hK'
end
/-! the reference, exactly: write, called -/
section
variable {x : Nat} {n L Q D : Int} {U V : Int → Int} {h0 h : cx_Q}
/-- what begin leaves as it was, and the row that has one more -/
theorem begin_r {u v : Int} (h4 : ∀ j, 0 ≤ cq_I h (x + 30) j ∧ cq_I h (x + 30) j ≤ 4) : (∀ o j, 1 ≤ o → o ≠ 12 → o ≠ 27 → o ≠ 29 → o ≠ 30 → ¬ ((31 ≤ o ∧ o ≤ 47) ∨ o = 53) → cq_I (m_begin h x u v) (x + o) j = cq_I h (x + o) j) ∧ 0 < cq_I (m_begin h x u v) (x + 30) (6 * u + v) := by
  have Q0 := bn0_q (x := x) (g := h) (v := v)
  have D0 := draw_q (x := x) (u := u) (g := cq_sI (m_bn0 h x v) x 63 (cq_I h x 63 + 1))
  have e : ∀ o j, 1 ≤ o → o ≠ 12 → o ≠ 27 → cq_I (m_draw (cq_sI (m_bn0 h x v) x 63 (cq_I h x 63 + 1)) x u) (x + o) j = cq_I h (x + o) j := fun o j w1 w2 w3 => by
    rw [D0.I_ o j w1 (fun z => w2 z.1), mm_sI, if_neg (fun z => by omega), Q0.I_ o j w1 (fun z => w3 z.1)]
  unfold m_begin m_bnC
  generalize m_bnR _ _ _ _ _ _ = R
  have r4 := h4 (6 * u + v)
  rw [← e 30 _ (by decide) (by decide) (by decide)] at r4
  have B := bn2_q (x := x) (g := m_draw (cq_sI (m_bn0 h x v) x 63 (cq_I h x 63 + 1)) x u) (u := u) (v := v) (k := m_leastOnce h x v) (R := R) (ot := cq_J h (x + 20) v) (eO := cq_J (m_draw (cq_sI (m_bn0 h x v) x 63 (cq_I h x 63 + 1)) x u) x 32) r4
  refine ⟨fun o j w1 w2 w3 w4 w5 w6 => ?_, ?_⟩
  · rw [B.I_ o j w1 (fun z => w2 z.1) (fun z => w5 z.1) (fun z => w4 z.1) (fun z => w6 z.1), e o j w1 w2 w3]
  · have := B.nq.1
    generalize m_draw (cq_sI (m_bn0 h x v) x 63 (cq_I h x 63 + 1)) x u = gg at this r4 ⊢
    rw [this]
    unfold rw1
    split <;> omega
theorem begin_61 {u v j : Int} (h4 : ∀ j, 0 ≤ cq_I h (x + 30) j ∧ cq_I h (x + 30) j ≤ 4) : cq_I (m_begin h x u v) (x + 61) j = cq_I h (x + 61) j := (begin_r h4).1 61 j (by decide) (by decide) (by decide) (by decide) (by decide) (by omega)
theorem begin_tb {u v : Int} {g : cx_Q} (e : eT x (m_begin h x u v) g) (h4 : ∀ j, 0 ≤ cq_I h (x + 30) j ∧ cq_I h (x + 30) j ≤ 4) (tb : ∀ i, 0 ≤ i → i < cq_I h x 68 → 0 ≤ cq_I h (x + 61) i ∧ cq_I h (x + 61) i ≤ 255) : ∀ i, 0 ≤ i → i < cq_I g x 68 → 0 ≤ cq_I g (x + 61) i ∧ cq_I g (x + 61) i ≤ 255 := by
  intro i i0 i1
  rw [e.xI (by decide) (by decide) (by decide), begin_x (by decide)] at i1
  rw [e.fI (by decide) (by decide), begin_61 h4]
  exact tb i i0 i1
theorem v_X11_write {Y : cx_Y} (hY : cY Y) {K : Option cx_V → cx_Q → Prop} {u v N O : Int} (M : MI x n L Q D U V h0 h) (hT : TI x h N O) (hN : N ≤ 16700) (hO : O ≤ 1900) (hD : D ≤ 800000) (hQ : 0 ≤ Q ∧ Q ≤ 98) (hn : 2 ≤ n ∧ n ≤ 6) (h63 : cq_I h x 63 < 100) (tb : ∀ i, 0 ≤ i → i < cq_I h x 68 → 0 ≤ cq_I h (x + 61) i ∧ cq_I h (x + 61) i ≤ 255)
    (hB : ¬ (((0 ≤ u ∧ u < n) ∧ (0 ≤ v ∧ v < n) ∧ u ≠ v) ∧ cq_I h x 68 ≠ 0) → K (some (.inl (-1))) h)
    (hNn : ((0 ≤ u ∧ u < n) ∧ (0 ≤ v ∧ v < n) ∧ u ≠ v) ∧ cq_I h x 68 ≠ 0 → cq_I h (x + 11) u = 0 ∨ cq_I h (x + 11) v = 0 → K (some (.inl (-2))) h)
    (hF : ((0 ≤ u ∧ u < n) ∧ (0 ≤ v ∧ v < n) ∧ u ≠ v) ∧ cq_I h x 68 ≠ 0 → ¬ (cq_I h (x + 11) u = 0 ∨ cq_I h (x + 11) v = 0) → cq_I h x 72 = 80 → K (some (.inl (-3))) h)
    (h10 : ((0 ≤ u ∧ u < n) ∧ (0 ≤ v ∧ v < n) ∧ u ≠ v) ∧ cq_I h x 68 ≠ 0 → ¬ (cq_I h (x + 11) u = 0 ∨ cq_I h (x + 11) v = 0) → cq_I h x 72 ≠ 80 → cq_I h (x + 30) (6 * u + v) = 0 → ¬ m_seal h x v → MI x n L (Q + 1) (D + 1 + 1) U V h0 (m_bn0 h x v) → TI x (m_bn0 h x v) (N + 94) (O + 2) → K (some (.inl (-10))) (m_bn0 h x v))
    (h1 : ((0 ≤ u ∧ u < n) ∧ (0 ≤ v ∧ v < n) ∧ u ≠ v) ∧ cq_I h x 68 ≠ 0 → ¬ (cq_I h (x + 11) u = 0 ∨ cq_I h (x + 11) v = 0) → cq_I h x 72 ≠ 80 → cq_I h (x + 30) (6 * u + v) = 0 → m_seal h x v → ∀ g h', eT x (m_begin h x u v) g → MI x n L (Q + 1) (D + 1 + 1) U V h0 h' → TI x h' (N + 94) (O + 2) → WR x u v g h' → K (some (.inl (cq_I h x 72))) h')
    (h2 : ((0 ≤ u ∧ u < n) ∧ (0 ≤ v ∧ v < n) ∧ u ≠ v) ∧ cq_I h x 68 ≠ 0 → ¬ (cq_I h (x + 11) u = 0 ∨ cq_I h (x + 11) v = 0) → cq_I h x 72 ≠ 80 → cq_I h (x + 30) (6 * u + v) ≠ 0 → ∀ h', MI x n L (Q + 1) (D + 1 + 1) U V h0 h' → TI x h' (N + 94) (O + 2) → WR x u v h h' → K (some (.inl (cq_I h x 72))) h') : cw Y mi_X11_write K 0 [some (.inr (.inr (some x))), some (.inl u), some (.inl v), none, none, none, none, none, none, none] [] h 0 0 := by
  have hS := M.rS
  have e0 : cq_I h x 0 = n := M.2.2.2.2.2.2.1
  have a30 := M.r30 (6 * u + v)
  have a72 := M.x72
  have a68 := M.x68
  have j28 : ¬ (((0 ≤ u ∧ u < n) ∧ (0 ≤ v ∧ v < n) ∧ u ≠ v) ∧ cq_I h x 68 ≠ 0) → ∀ lv, cw Y mi_X11_write K 28 lv [] h 0 0 := by
    intro q lv
    refine bx_X11_write_28 hY (pf1_ok hY) ?_
    simp only [wp_iconst, wp_bipush, wp_sipush, wp_ldc, wp_ldc2_w, wp_lconst0, wp_lconst1, wp_aconst_null, wp_iload_0, wp_istore_0, wp_iload_1, wp_istore_1, wp_iload_2, wp_istore_2, wp_iload_3, wp_istore_3, wp_iload, wp_istore, wp_lload_0, wp_lstore_0, wp_lload_1, wp_lstore_1, wp_lload_2, wp_lstore_2, wp_lload_3, wp_lstore_3, wp_lload, wp_lstore, wp_aload_0, wp_astore_0, wp_aload_1, wp_astore_1, wp_aload_2, wp_astore_2, wp_aload_3, wp_astore_3, wp_aload, wp_astore, wp_iinc, wp_iadd, wp_isub, wp_imul, wp_iand, wp_ior, wp_ixor, wp_ishl, wp_ishr, wp_iushr, wp_irem, wp_ladd, wp_lsub, wp_lmul, wp_land, wp_lor, wp_lxor, wp_lshl, wp_lshr, wp_lushr, wp_lrem, wp_lcmp, wp_i2l, wp_l2i, wp_dupI, wp_dupA, wp_dup2J, wp_dup2IA, wp_popI, wp_popA, wp_pop2, wp_goto, wp_if_eq, wp_icmp_eq, wp_if_ne, wp_icmp_ne, wp_if_lt, wp_icmp_lt, wp_if_ge, wp_icmp_ge, wp_if_gt, wp_icmp_gt, wp_if_le, wp_icmp_le, wp_ifnull, wp_ifnonnull, wp_acmp_eq, wp_acmp_ne, wp_tableswitch, wp_get0, wp_put0, wp_get1, wp_put1, wp_get2, wp_put2, wp_get3, wp_put3, wp_new, wp_newarray, wp_anewarray, wp_alen, wp_iaload, wp_laload, wp_baload, wp_aaload, wp_iastore, wp_lastore, wp_bastore, wp_aastore, wp_return, wp_ireturnI, wp_ireturnZ, wp_lreturn, wp_areturnO, wp_areturnA, wp_max, wp_min, wp_obj, wp_virt, wp_nil, ld_I0, ld_Is, ld_J0, ld_Js, ld_A0, ld_As, ha_0, ha_s, cx_put1, cx_put2, cx_dl, cx_tgt, true_and, and_true, Nat.reduceAdd, Nat.reduceSub, Int.reduceAdd, Int.reduceNeg, Int.reduceToNat, Int.reduceSub, Int.cast_ofNat_Int, List.take_succ_cons, List.take_zero, List.drop_succ_cons, List.drop_zero, List.take_nil, List.drop_nil, Option.toList_some, Option.toList_none, List.cons_append, List.nil_append, wp_spec, ne_eq, Nat.reduceEqDiff, not_false_eq_true, true_or, or_true]
    exact hB q
  refine bx_X11_write_0 hY (pf1_ok hY) ?_
  simp only [wp_iconst, wp_bipush, wp_sipush, wp_ldc, wp_ldc2_w, wp_lconst0, wp_lconst1, wp_aconst_null, wp_iload_0, wp_istore_0, wp_iload_1, wp_istore_1, wp_iload_2, wp_istore_2, wp_iload_3, wp_istore_3, wp_iload, wp_istore, wp_lload_0, wp_lstore_0, wp_lload_1, wp_lstore_1, wp_lload_2, wp_lstore_2, wp_lload_3, wp_lstore_3, wp_lload, wp_lstore, wp_aload_0, wp_astore_0, wp_aload_1, wp_astore_1, wp_aload_2, wp_astore_2, wp_aload_3, wp_astore_3, wp_aload, wp_astore, wp_iinc, wp_iadd, wp_isub, wp_imul, wp_iand, wp_ior, wp_ixor, wp_ishl, wp_ishr, wp_iushr, wp_irem, wp_ladd, wp_lsub, wp_lmul, wp_land, wp_lor, wp_lxor, wp_lshl, wp_lshr, wp_lushr, wp_lrem, wp_lcmp, wp_i2l, wp_l2i, wp_dupI, wp_dupA, wp_dup2J, wp_dup2IA, wp_popI, wp_popA, wp_pop2, wp_goto, wp_if_eq, wp_icmp_eq, wp_if_ne, wp_icmp_ne, wp_if_lt, wp_icmp_lt, wp_if_ge, wp_icmp_ge, wp_if_gt, wp_icmp_gt, wp_if_le, wp_icmp_le, wp_ifnull, wp_ifnonnull, wp_acmp_eq, wp_acmp_ne, wp_tableswitch, wp_get0, wp_put0, wp_get1, wp_put1, wp_get2, wp_put2, wp_get3, wp_put3, wp_new, wp_newarray, wp_anewarray, wp_alen, wp_iaload, wp_laload, wp_baload, wp_aaload, wp_iastore, wp_lastore, wp_bastore, wp_aastore, wp_return, wp_ireturnI, wp_ireturnZ, wp_lreturn, wp_areturnO, wp_areturnA, wp_max, wp_min, wp_obj, wp_virt, wp_nil, ld_I0, ld_Is, ld_J0, ld_Js, ld_A0, ld_As, ha_0, ha_s, cx_put1, cx_put2, cx_dl, cx_tgt, true_and, and_true, Nat.reduceAdd, Nat.reduceSub, Int.reduceAdd, Int.reduceNeg, Int.reduceToNat, Int.reduceSub, Int.cast_ofNat_Int, List.take_succ_cons, List.take_zero, List.drop_succ_cons, List.drop_zero, List.take_nil, List.drop_nil, Option.toList_some, Option.toList_none, List.cons_append, List.nil_append, wp_spec, ne_eq, Nat.reduceEqDiff, not_false_eq_true, true_or, or_true]
  refine cl_X11_isThere (Nat.le_of_ble_eq_true rfl) hS.1 (Nat.le_refl _) (Nat.le_refl _) (c_X11_isThere hY hS ?_)
  refine bx_X11_write_5 hY (pf1_ok hY) ?_
  simp only [wp_iconst, wp_bipush, wp_sipush, wp_ldc, wp_ldc2_w, wp_lconst0, wp_lconst1, wp_aconst_null, wp_iload_0, wp_istore_0, wp_iload_1, wp_istore_1, wp_iload_2, wp_istore_2, wp_iload_3, wp_istore_3, wp_iload, wp_istore, wp_lload_0, wp_lstore_0, wp_lload_1, wp_lstore_1, wp_lload_2, wp_lstore_2, wp_lload_3, wp_lstore_3, wp_lload, wp_lstore, wp_aload_0, wp_astore_0, wp_aload_1, wp_astore_1, wp_aload_2, wp_astore_2, wp_aload_3, wp_astore_3, wp_aload, wp_astore, wp_iinc, wp_iadd, wp_isub, wp_imul, wp_iand, wp_ior, wp_ixor, wp_ishl, wp_ishr, wp_iushr, wp_irem, wp_ladd, wp_lsub, wp_lmul, wp_land, wp_lor, wp_lxor, wp_lshl, wp_lshr, wp_lushr, wp_lrem, wp_lcmp, wp_i2l, wp_l2i, wp_dupI, wp_dupA, wp_dup2J, wp_dup2IA, wp_popI, wp_popA, wp_pop2, wp_goto, wp_if_eq, wp_icmp_eq, wp_if_ne, wp_icmp_ne, wp_if_lt, wp_icmp_lt, wp_if_ge, wp_icmp_ge, wp_if_gt, wp_icmp_gt, wp_if_le, wp_icmp_le, wp_ifnull, wp_ifnonnull, wp_acmp_eq, wp_acmp_ne, wp_tableswitch, wp_get0, wp_put0, wp_get1, wp_put1, wp_get2, wp_put2, wp_get3, wp_put3, wp_new, wp_newarray, wp_anewarray, wp_alen, wp_iaload, wp_laload, wp_baload, wp_aaload, wp_iastore, wp_lastore, wp_bastore, wp_aastore, wp_return, wp_ireturnI, wp_ireturnZ, wp_lreturn, wp_areturnO, wp_areturnA, wp_max, wp_min, wp_obj, wp_virt, wp_nil, ld_I0, ld_Is, ld_J0, ld_Js, ld_A0, ld_As, ha_0, ha_s, cx_put1, cx_put2, cx_dl, cx_tgt, true_and, and_true, Nat.reduceAdd, Nat.reduceSub, Int.reduceAdd, Int.reduceNeg, Int.reduceToNat, Int.reduceSub, Int.cast_ofNat_Int, List.take_succ_cons, List.take_zero, List.drop_succ_cons, List.drop_zero, List.take_nil, List.drop_nil, Option.toList_some, Option.toList_none, List.cons_append, List.nil_append, wp_spec, ne_eq, Nat.reduceEqDiff, not_false_eq_true, true_or, or_true, ifu, Classical.not_not]
  refine ⟨fun q => j28 (fun w => q (by show 0 ≤ u ∧ u < cq_I h x 0; rw [e0]; exact w.1.1)) _, fun hu => ?_⟩
  have hu : 0 ≤ u ∧ u < cq_I h x 0 := hu
  rw [e0] at hu
  refine cl_X11_isThere (Nat.le_of_ble_eq_true rfl) hS.1 (Nat.le_refl _) (Nat.le_refl _) (c_X11_isThere hY hS ?_)
  refine bx_X11_write_13 hY (pf1_ok hY) ?_
  simp only [wp_iconst, wp_bipush, wp_sipush, wp_ldc, wp_ldc2_w, wp_lconst0, wp_lconst1, wp_aconst_null, wp_iload_0, wp_istore_0, wp_iload_1, wp_istore_1, wp_iload_2, wp_istore_2, wp_iload_3, wp_istore_3, wp_iload, wp_istore, wp_lload_0, wp_lstore_0, wp_lload_1, wp_lstore_1, wp_lload_2, wp_lstore_2, wp_lload_3, wp_lstore_3, wp_lload, wp_lstore, wp_aload_0, wp_astore_0, wp_aload_1, wp_astore_1, wp_aload_2, wp_astore_2, wp_aload_3, wp_astore_3, wp_aload, wp_astore, wp_iinc, wp_iadd, wp_isub, wp_imul, wp_iand, wp_ior, wp_ixor, wp_ishl, wp_ishr, wp_iushr, wp_irem, wp_ladd, wp_lsub, wp_lmul, wp_land, wp_lor, wp_lxor, wp_lshl, wp_lshr, wp_lushr, wp_lrem, wp_lcmp, wp_i2l, wp_l2i, wp_dupI, wp_dupA, wp_dup2J, wp_dup2IA, wp_popI, wp_popA, wp_pop2, wp_goto, wp_if_eq, wp_icmp_eq, wp_if_ne, wp_icmp_ne, wp_if_lt, wp_icmp_lt, wp_if_ge, wp_icmp_ge, wp_if_gt, wp_icmp_gt, wp_if_le, wp_icmp_le, wp_ifnull, wp_ifnonnull, wp_acmp_eq, wp_acmp_ne, wp_tableswitch, wp_get0, wp_put0, wp_get1, wp_put1, wp_get2, wp_put2, wp_get3, wp_put3, wp_new, wp_newarray, wp_anewarray, wp_alen, wp_iaload, wp_laload, wp_baload, wp_aaload, wp_iastore, wp_lastore, wp_bastore, wp_aastore, wp_return, wp_ireturnI, wp_ireturnZ, wp_lreturn, wp_areturnO, wp_areturnA, wp_max, wp_min, wp_obj, wp_virt, wp_nil, ld_I0, ld_Is, ld_J0, ld_Js, ld_A0, ld_As, ha_0, ha_s, cx_put1, cx_put2, cx_dl, cx_tgt, true_and, and_true, Nat.reduceAdd, Nat.reduceSub, Int.reduceAdd, Int.reduceNeg, Int.reduceToNat, Int.reduceSub, Int.cast_ofNat_Int, List.take_succ_cons, List.take_zero, List.drop_succ_cons, List.drop_zero, List.take_nil, List.drop_nil, Option.toList_some, Option.toList_none, List.cons_append, List.nil_append, wp_spec, ne_eq, Nat.reduceEqDiff, not_false_eq_true, true_or, or_true, ifu, Classical.not_not, hS.1]
  refine ⟨fun q => j28 (fun w => q (by show 0 ≤ v ∧ v < cq_I h x 0; rw [e0]; exact w.1.2.1)) _, fun hv => ⟨fun q => j28 (fun w => w.1.2.2 q) _, fun q1 => ⟨fun q2 => ?_, fun q => j28 (fun w => w.2 q) _⟩⟩⟩
  have hv : 0 ≤ v ∧ v < cq_I h x 0 := hv
  rw [e0] at hv
  have ok : ((0 ≤ u ∧ u < n) ∧ (0 ≤ v ∧ v < n) ∧ u ≠ v) ∧ cq_I h x 68 ≠ 0 := ⟨⟨hu, hv, q1⟩, q2⟩
  have j48 : (cq_I h (x + 11) u = 0 ∨ cq_I h (x + 11) v = 0) → ∀ lv, cw Y mi_X11_write K 48 lv [] h 0 0 := by
    intro q lv
    refine bx_X11_write_48 hY (pf1_ok hY) ?_
    simp only [wp_iconst, wp_bipush, wp_sipush, wp_ldc, wp_ldc2_w, wp_lconst0, wp_lconst1, wp_aconst_null, wp_iload_0, wp_istore_0, wp_iload_1, wp_istore_1, wp_iload_2, wp_istore_2, wp_iload_3, wp_istore_3, wp_iload, wp_istore, wp_lload_0, wp_lstore_0, wp_lload_1, wp_lstore_1, wp_lload_2, wp_lstore_2, wp_lload_3, wp_lstore_3, wp_lload, wp_lstore, wp_aload_0, wp_astore_0, wp_aload_1, wp_astore_1, wp_aload_2, wp_astore_2, wp_aload_3, wp_astore_3, wp_aload, wp_astore, wp_iinc, wp_iadd, wp_isub, wp_imul, wp_iand, wp_ior, wp_ixor, wp_ishl, wp_ishr, wp_iushr, wp_irem, wp_ladd, wp_lsub, wp_lmul, wp_land, wp_lor, wp_lxor, wp_lshl, wp_lshr, wp_lushr, wp_lrem, wp_lcmp, wp_i2l, wp_l2i, wp_dupI, wp_dupA, wp_dup2J, wp_dup2IA, wp_popI, wp_popA, wp_pop2, wp_goto, wp_if_eq, wp_icmp_eq, wp_if_ne, wp_icmp_ne, wp_if_lt, wp_icmp_lt, wp_if_ge, wp_icmp_ge, wp_if_gt, wp_icmp_gt, wp_if_le, wp_icmp_le, wp_ifnull, wp_ifnonnull, wp_acmp_eq, wp_acmp_ne, wp_tableswitch, wp_get0, wp_put0, wp_get1, wp_put1, wp_get2, wp_put2, wp_get3, wp_put3, wp_new, wp_newarray, wp_anewarray, wp_alen, wp_iaload, wp_laload, wp_baload, wp_aaload, wp_iastore, wp_lastore, wp_bastore, wp_aastore, wp_return, wp_ireturnI, wp_ireturnZ, wp_lreturn, wp_areturnO, wp_areturnA, wp_max, wp_min, wp_obj, wp_virt, wp_nil, ld_I0, ld_Is, ld_J0, ld_Js, ld_A0, ld_As, ha_0, ha_s, cx_put1, cx_put2, cx_dl, cx_tgt, true_and, and_true, Nat.reduceAdd, Nat.reduceSub, Int.reduceAdd, Int.reduceNeg, Int.reduceToNat, Int.reduceSub, Int.cast_ofNat_Int, List.take_succ_cons, List.take_zero, List.drop_succ_cons, List.drop_zero, List.take_nil, List.drop_nil, Option.toList_some, Option.toList_none, List.cons_append, List.nil_append, wp_spec, ne_eq, Nat.reduceEqDiff, not_false_eq_true, true_or, or_true]
    exact hNn ok q
  refine bx_X11_write_30 hY (pf1_ok hY) ?_
  simp only [wp_iconst, wp_bipush, wp_sipush, wp_ldc, wp_ldc2_w, wp_lconst0, wp_lconst1, wp_aconst_null, wp_iload_0, wp_istore_0, wp_iload_1, wp_istore_1, wp_iload_2, wp_istore_2, wp_iload_3, wp_istore_3, wp_iload, wp_istore, wp_lload_0, wp_lstore_0, wp_lload_1, wp_lstore_1, wp_lload_2, wp_lstore_2, wp_lload_3, wp_lstore_3, wp_lload, wp_lstore, wp_aload_0, wp_astore_0, wp_aload_1, wp_astore_1, wp_aload_2, wp_astore_2, wp_aload_3, wp_astore_3, wp_aload, wp_astore, wp_iinc, wp_iadd, wp_isub, wp_imul, wp_iand, wp_ior, wp_ixor, wp_ishl, wp_ishr, wp_iushr, wp_irem, wp_ladd, wp_lsub, wp_lmul, wp_land, wp_lor, wp_lxor, wp_lshl, wp_lshr, wp_lushr, wp_lrem, wp_lcmp, wp_i2l, wp_l2i, wp_dupI, wp_dupA, wp_dup2J, wp_dup2IA, wp_popI, wp_popA, wp_pop2, wp_goto, wp_if_eq, wp_icmp_eq, wp_if_ne, wp_icmp_ne, wp_if_lt, wp_icmp_lt, wp_if_ge, wp_icmp_ge, wp_if_gt, wp_icmp_gt, wp_if_le, wp_icmp_le, wp_ifnull, wp_ifnonnull, wp_acmp_eq, wp_acmp_ne, wp_tableswitch, wp_get0, wp_put0, wp_get1, wp_put1, wp_get2, wp_put2, wp_get3, wp_put3, wp_new, wp_newarray, wp_anewarray, wp_alen, wp_iaload, wp_laload, wp_baload, wp_aaload, wp_iastore, wp_lastore, wp_bastore, wp_aastore, wp_return, wp_ireturnI, wp_ireturnZ, wp_lreturn, wp_areturnO, wp_areturnA, wp_max, wp_min, wp_obj, wp_virt, wp_nil, ld_I0, ld_Is, ld_J0, ld_Js, ld_A0, ld_As, ha_0, ha_s, cx_put1, cx_put2, cx_dl, cx_tgt, true_and, and_true, Nat.reduceAdd, Nat.reduceSub, Int.reduceAdd, Int.reduceNeg, Int.reduceToNat, Int.reduceSub, Int.cast_ofNat_Int, List.take_succ_cons, List.take_zero, List.drop_succ_cons, List.drop_zero, List.take_nil, List.drop_nil, Option.toList_some, Option.toList_none, List.cons_append, List.nil_append, wp_spec, ne_eq, Nat.reduceEqDiff, not_false_eq_true, true_or, or_true, rA_isUser hS, rs_isUser hS, rz_isUser hS, ra_116, (hS).1]
  refine ⟨by omega, fun q => j48 (Or.inl q) _, fun q3 => ⟨by omega, fun q4 => ?_, fun q => j48 (Or.inr (by omega)) _⟩⟩
  have no : ¬ (cq_I h (x + 11) u = 0 ∨ cq_I h (x + 11) v = 0) := fun z => z.elim q3 q4
  have j85 : cq_I h x 72 = 80 → ∀ lv, cw Y mi_X11_write K 85 lv [] h 0 0 := by
    intro q lv
    refine bx_X11_write_85 hY (pf1_ok hY) ?_
    simp only [wp_iconst, wp_bipush, wp_sipush, wp_ldc, wp_ldc2_w, wp_lconst0, wp_lconst1, wp_aconst_null, wp_iload_0, wp_istore_0, wp_iload_1, wp_istore_1, wp_iload_2, wp_istore_2, wp_iload_3, wp_istore_3, wp_iload, wp_istore, wp_lload_0, wp_lstore_0, wp_lload_1, wp_lstore_1, wp_lload_2, wp_lstore_2, wp_lload_3, wp_lstore_3, wp_lload, wp_lstore, wp_aload_0, wp_astore_0, wp_aload_1, wp_astore_1, wp_aload_2, wp_astore_2, wp_aload_3, wp_astore_3, wp_aload, wp_astore, wp_iinc, wp_iadd, wp_isub, wp_imul, wp_iand, wp_ior, wp_ixor, wp_ishl, wp_ishr, wp_iushr, wp_irem, wp_ladd, wp_lsub, wp_lmul, wp_land, wp_lor, wp_lxor, wp_lshl, wp_lshr, wp_lushr, wp_lrem, wp_lcmp, wp_i2l, wp_l2i, wp_dupI, wp_dupA, wp_dup2J, wp_dup2IA, wp_popI, wp_popA, wp_pop2, wp_goto, wp_if_eq, wp_icmp_eq, wp_if_ne, wp_icmp_ne, wp_if_lt, wp_icmp_lt, wp_if_ge, wp_icmp_ge, wp_if_gt, wp_icmp_gt, wp_if_le, wp_icmp_le, wp_ifnull, wp_ifnonnull, wp_acmp_eq, wp_acmp_ne, wp_tableswitch, wp_get0, wp_put0, wp_get1, wp_put1, wp_get2, wp_put2, wp_get3, wp_put3, wp_new, wp_newarray, wp_anewarray, wp_alen, wp_iaload, wp_laload, wp_baload, wp_aaload, wp_iastore, wp_lastore, wp_bastore, wp_aastore, wp_return, wp_ireturnI, wp_ireturnZ, wp_lreturn, wp_areturnO, wp_areturnA, wp_max, wp_min, wp_obj, wp_virt, wp_nil, ld_I0, ld_Is, ld_J0, ld_Js, ld_A0, ld_As, ha_0, ha_s, cx_put1, cx_put2, cx_dl, cx_tgt, true_and, and_true, Nat.reduceAdd, Nat.reduceSub, Int.reduceAdd, Int.reduceNeg, Int.reduceToNat, Int.reduceSub, Int.cast_ofNat_Int, List.take_succ_cons, List.take_zero, List.drop_succ_cons, List.drop_zero, List.take_nil, List.drop_nil, Option.toList_some, Option.toList_none, List.cons_append, List.nil_append, wp_spec, ne_eq, Nat.reduceEqDiff, not_false_eq_true, true_or, or_true]
    exact hF ok no q
  have j88 : cq_I h x 72 ≠ 80 → cw Y mi_X11_write K 88 [some (.inr (.inr (some x))), some (.inl u), some (.inl v), some (.inl (6 * u + v)), none, none, none, none, none, none] [] h 0 0 := by
    intro h72
    refine bx_X11_write_88 hY (pf1_ok hY) ?_
    simp only [wp_iconst, wp_bipush, wp_sipush, wp_ldc, wp_ldc2_w, wp_lconst0, wp_lconst1, wp_aconst_null, wp_iload_0, wp_istore_0, wp_iload_1, wp_istore_1, wp_iload_2, wp_istore_2, wp_iload_3, wp_istore_3, wp_iload, wp_istore, wp_lload_0, wp_lstore_0, wp_lload_1, wp_lstore_1, wp_lload_2, wp_lstore_2, wp_lload_3, wp_lstore_3, wp_lload, wp_lstore, wp_aload_0, wp_astore_0, wp_aload_1, wp_astore_1, wp_aload_2, wp_astore_2, wp_aload_3, wp_astore_3, wp_aload, wp_astore, wp_iinc, wp_iadd, wp_isub, wp_imul, wp_iand, wp_ior, wp_ixor, wp_ishl, wp_ishr, wp_iushr, wp_irem, wp_ladd, wp_lsub, wp_lmul, wp_land, wp_lor, wp_lxor, wp_lshl, wp_lshr, wp_lushr, wp_lrem, wp_lcmp, wp_i2l, wp_l2i, wp_dupI, wp_dupA, wp_dup2J, wp_dup2IA, wp_popI, wp_popA, wp_pop2, wp_goto, wp_if_eq, wp_icmp_eq, wp_if_ne, wp_icmp_ne, wp_if_lt, wp_icmp_lt, wp_if_ge, wp_icmp_ge, wp_if_gt, wp_icmp_gt, wp_if_le, wp_icmp_le, wp_ifnull, wp_ifnonnull, wp_acmp_eq, wp_acmp_ne, wp_tableswitch, wp_get0, wp_put0, wp_get1, wp_put1, wp_get2, wp_put2, wp_get3, wp_put3, wp_new, wp_newarray, wp_anewarray, wp_alen, wp_iaload, wp_laload, wp_baload, wp_aaload, wp_iastore, wp_lastore, wp_bastore, wp_aastore, wp_return, wp_ireturnI, wp_ireturnZ, wp_lreturn, wp_areturnO, wp_areturnA, wp_max, wp_min, wp_obj, wp_virt, wp_nil, ld_I0, ld_Is, ld_J0, ld_Js, ld_A0, ld_As, ha_0, ha_s, cx_put1, cx_put2, cx_dl, cx_tgt, true_and, and_true, Nat.reduceAdd, Nat.reduceSub, Int.reduceAdd, Int.reduceNeg, Int.reduceToNat, Int.reduceSub, Int.cast_ofNat_Int, List.take_succ_cons, List.take_zero, List.drop_succ_cons, List.drop_zero, List.take_nil, List.drop_nil, Option.toList_some, Option.toList_none, List.cons_append, List.nil_append, wp_spec, ne_eq, Nat.reduceEqDiff, not_false_eq_true, true_or, or_true, rA_rowMany hS, rs_rowMany hS, rz_rowMany hS, ra_135, (hS).1]
    refine ⟨by omega, fun z => ?_, fun z => ?_⟩
    · exact v_110 hY M hT (by omega) (by omega) (by omega) (by omega) h72 tb (fun h' m t w => h2 ok no h72 z h' (m.up (by omega) (by omega)) (t.le (by omega) (by omega)) w)
    · have z : cq_I h (x + 30) (6 * u + v) = 0 := by omega
      refine cl_X11_beginNow (Nat.le_of_ble_eq_true rfl) hS.1 (Nat.le_refl _) (Nat.le_refl _) (c_X11_beginNow hY hS hT (by omega) (by omega) (by omega) (by omega) (M.r23 v) M.r30 M.r29 M.x63 M.r12 (by omega) ?_ ?_)
      · intro w
        refine bx_X11_write_103 hY (pf1_ok hY) ?_
        simp only [wp_iconst, wp_bipush, wp_sipush, wp_ldc, wp_ldc2_w, wp_lconst0, wp_lconst1, wp_aconst_null, wp_iload_0, wp_istore_0, wp_iload_1, wp_istore_1, wp_iload_2, wp_istore_2, wp_iload_3, wp_istore_3, wp_iload, wp_istore, wp_lload_0, wp_lstore_0, wp_lload_1, wp_lstore_1, wp_lload_2, wp_lstore_2, wp_lload_3, wp_lstore_3, wp_lload, wp_lstore, wp_aload_0, wp_astore_0, wp_aload_1, wp_astore_1, wp_aload_2, wp_astore_2, wp_aload_3, wp_astore_3, wp_aload, wp_astore, wp_iinc, wp_iadd, wp_isub, wp_imul, wp_iand, wp_ior, wp_ixor, wp_ishl, wp_ishr, wp_iushr, wp_irem, wp_ladd, wp_lsub, wp_lmul, wp_land, wp_lor, wp_lxor, wp_lshl, wp_lshr, wp_lushr, wp_lrem, wp_lcmp, wp_i2l, wp_l2i, wp_dupI, wp_dupA, wp_dup2J, wp_dup2IA, wp_popI, wp_popA, wp_pop2, wp_goto, wp_if_eq, wp_icmp_eq, wp_if_ne, wp_icmp_ne, wp_if_lt, wp_icmp_lt, wp_if_ge, wp_icmp_ge, wp_if_gt, wp_icmp_gt, wp_if_le, wp_icmp_le, wp_ifnull, wp_ifnonnull, wp_acmp_eq, wp_acmp_ne, wp_tableswitch, wp_get0, wp_put0, wp_get1, wp_put1, wp_get2, wp_put2, wp_get3, wp_put3, wp_new, wp_newarray, wp_anewarray, wp_alen, wp_iaload, wp_laload, wp_baload, wp_aaload, wp_iastore, wp_lastore, wp_bastore, wp_aastore, wp_return, wp_ireturnI, wp_ireturnZ, wp_lreturn, wp_areturnO, wp_areturnA, wp_max, wp_min, wp_obj, wp_virt, wp_nil, ld_I0, ld_Is, ld_J0, ld_Js, ld_A0, ld_As, ha_0, ha_s, cx_put1, cx_put2, cx_dl, cx_tgt, true_and, and_true, Nat.reduceAdd, Nat.reduceSub, Int.reduceAdd, Int.reduceNeg, Int.reduceToNat, Int.reduceSub, Int.cast_ofNat_Int, List.take_succ_cons, List.take_zero, List.drop_succ_cons, List.drop_zero, List.take_nil, List.drop_nil, Option.toList_some, Option.toList_none, List.cons_append, List.nil_append, wp_spec, ne_eq, Nat.reduceEqDiff, not_false_eq_true, true_or, or_true]
        refine ⟨fun q => absurd q (by decide), fun _ => h10 ok no h72 z w (M.bn0.up (by omega) (by omega)) ?_⟩
        unfold m_bn0
        split
        · exact hT.le (by omega) (by omega)
        · exact TI.sT (hT.le (by omega) (by omega)) (by decide) (fun q => absurd q (by decide))
      · intro w g e t
        have Mg := (M.begin hQ.1 (u := u) (v := v) (by omega) (by omega) (by omega)).eT e
        have f72 : cq_I g x 72 = cq_I h x 72 := (e.xI (by decide) (by decide) (by decide)).trans (begin_x (by decide))
        refine bx_X11_write_103 hY (pf1_ok hY) ?_
        simp only [wp_iconst, wp_bipush, wp_sipush, wp_ldc, wp_ldc2_w, wp_lconst0, wp_lconst1, wp_aconst_null, wp_iload_0, wp_istore_0, wp_iload_1, wp_istore_1, wp_iload_2, wp_istore_2, wp_iload_3, wp_istore_3, wp_iload, wp_istore, wp_lload_0, wp_lstore_0, wp_lload_1, wp_lstore_1, wp_lload_2, wp_lstore_2, wp_lload_3, wp_lstore_3, wp_lload, wp_lstore, wp_aload_0, wp_astore_0, wp_aload_1, wp_astore_1, wp_aload_2, wp_astore_2, wp_aload_3, wp_astore_3, wp_aload, wp_astore, wp_iinc, wp_iadd, wp_isub, wp_imul, wp_iand, wp_ior, wp_ixor, wp_ishl, wp_ishr, wp_iushr, wp_irem, wp_ladd, wp_lsub, wp_lmul, wp_land, wp_lor, wp_lxor, wp_lshl, wp_lshr, wp_lushr, wp_lrem, wp_lcmp, wp_i2l, wp_l2i, wp_dupI, wp_dupA, wp_dup2J, wp_dup2IA, wp_popI, wp_popA, wp_pop2, wp_goto, wp_if_eq, wp_icmp_eq, wp_if_ne, wp_icmp_ne, wp_if_lt, wp_icmp_lt, wp_if_ge, wp_icmp_ge, wp_if_gt, wp_icmp_gt, wp_if_le, wp_icmp_le, wp_ifnull, wp_ifnonnull, wp_acmp_eq, wp_acmp_ne, wp_tableswitch, wp_get0, wp_put0, wp_get1, wp_put1, wp_get2, wp_put2, wp_get3, wp_put3, wp_new, wp_newarray, wp_anewarray, wp_alen, wp_iaload, wp_laload, wp_baload, wp_aaload, wp_iastore, wp_lastore, wp_bastore, wp_aastore, wp_return, wp_ireturnI, wp_ireturnZ, wp_lreturn, wp_areturnO, wp_areturnA, wp_max, wp_min, wp_obj, wp_virt, wp_nil, ld_I0, ld_Is, ld_J0, ld_Js, ld_A0, ld_As, ha_0, ha_s, cx_put1, cx_put2, cx_dl, cx_tgt, true_and, and_true, Nat.reduceAdd, Nat.reduceSub, Int.reduceAdd, Int.reduceNeg, Int.reduceToNat, Int.reduceSub, Int.cast_ofNat_Int, List.take_succ_cons, List.take_zero, List.drop_succ_cons, List.drop_zero, List.take_nil, List.drop_nil, Option.toList_some, Option.toList_none, List.cons_append, List.nil_append, wp_spec, ne_eq, Nat.reduceEqDiff, not_false_eq_true, true_or, or_true]
        refine ⟨fun _ => ?_, fun q => absurd trivial q⟩
        exact v_110 hY Mg t (by omega) (by omega) (by omega) (by omega) (by omega) (begin_tb e M.r30 tb) (fun h' m t w2 => by rw [f72]; exact h1 ok no h72 z w g h' e (m.up (by omega) (by omega)) (t.le (by omega) (by omega)) w2)
  refine bx_X11_write_51 hY (pf1_ok hY) ?_
  simp only [wp_iconst, wp_bipush, wp_sipush, wp_ldc, wp_ldc2_w, wp_lconst0, wp_lconst1, wp_aconst_null, wp_iload_0, wp_istore_0, wp_iload_1, wp_istore_1, wp_iload_2, wp_istore_2, wp_iload_3, wp_istore_3, wp_iload, wp_istore, wp_lload_0, wp_lstore_0, wp_lload_1, wp_lstore_1, wp_lload_2, wp_lstore_2, wp_lload_3, wp_lstore_3, wp_lload, wp_lstore, wp_aload_0, wp_astore_0, wp_aload_1, wp_astore_1, wp_aload_2, wp_astore_2, wp_aload_3, wp_astore_3, wp_aload, wp_astore, wp_iinc, wp_iadd, wp_isub, wp_imul, wp_iand, wp_ior, wp_ixor, wp_ishl, wp_ishr, wp_iushr, wp_irem, wp_ladd, wp_lsub, wp_lmul, wp_land, wp_lor, wp_lxor, wp_lshl, wp_lshr, wp_lushr, wp_lrem, wp_lcmp, wp_i2l, wp_l2i, wp_dupI, wp_dupA, wp_dup2J, wp_dup2IA, wp_popI, wp_popA, wp_pop2, wp_goto, wp_if_eq, wp_icmp_eq, wp_if_ne, wp_icmp_ne, wp_if_lt, wp_icmp_lt, wp_if_ge, wp_icmp_ge, wp_if_gt, wp_icmp_gt, wp_if_le, wp_icmp_le, wp_ifnull, wp_ifnonnull, wp_acmp_eq, wp_acmp_ne, wp_tableswitch, wp_get0, wp_put0, wp_get1, wp_put1, wp_get2, wp_put2, wp_get3, wp_put3, wp_new, wp_newarray, wp_anewarray, wp_alen, wp_iaload, wp_laload, wp_baload, wp_aaload, wp_iastore, wp_lastore, wp_bastore, wp_aastore, wp_return, wp_ireturnI, wp_ireturnZ, wp_lreturn, wp_areturnO, wp_areturnA, wp_max, wp_min, wp_obj, wp_virt, wp_nil, ld_I0, ld_Is, ld_J0, ld_Js, ld_A0, ld_As, ha_0, ha_s, cx_put1, cx_put2, cx_dl, cx_tgt, true_and, and_true, Nat.reduceAdd, Nat.reduceSub, Int.reduceAdd, Int.reduceNeg, Int.reduceToNat, Int.reduceSub, Int.cast_ofNat_Int, List.take_succ_cons, List.take_zero, List.drop_succ_cons, List.drop_zero, List.take_nil, List.drop_nil, Option.toList_some, Option.toList_none, List.cons_append, List.nil_append, wp_spec, ne_eq, Nat.reduceEqDiff, not_false_eq_true, true_or, or_true, rA_rowMany hS, rs_rowMany hS, rz_rowMany hS, ra_135, (hS).1, cx_rg]
  (repeat' (with_reducible (first | refine And.intro ?_ ?_ | intro _)))
  all_goals (try omega)
  all_goals (first | exact j85 (by omega) _ | exact j88 (by omega) | exact j88 (by assumption))
end
/-! class and reference side by side: a SESSION is other; a letter is written -/
theorem wD_c {tp tp' : Int → Int} {key : Int64} {p : Int} : ∀ {r : Nat} {i : Int} {ws : Int → Int}, (∀ k, i ≤ k → k < i + r → tp k = tp' k) → wD tp key p r i ws = wD tp' key p r i ws := by
  intro r
  induction r with
  | zero =>
    intro i ws _
    rw [wD_0, wD_0]
  | succ r ih =>
    intro i ws e
    rw [wD_s, wD_s, e i (Int.le_refl _) (by omega)]
    exact ih (fun k k0 k1 => e k (by omega) (by omega))
section
variable {c x : Nat} {n : Int} {pe : Int → Nat} {ro : Int → Int → Nat} {pa lb tp rd en op ob : Nat} {T Lf : Int → Nat} {h g h' g' : cx_Q} {P : Nat → Prop}
/-- one SESSION alone is other -/
theorem FX.upT (F : FX c x n pe ro pa lb tp rd en op ob T Lf h g) {u0 v0 i0 s : Int} (hu : 0 ≤ u0 ∧ u0 < n) (hv : 0 ≤ v0 ∧ v0 < n) (hi : 0 ≤ i0 ∧ i0 < cq_I g (x + 30) (6 * u0 + v0)) (es : cq_I g (x + 29) (4 * (6 * u0 + v0) + i0) = s) (e : evx P h h') (hP : ∀ a, P a → scl (T s) a) (eg : eqR x (inS s) g g') (ex : ∀ j, (j = 0 ∨ j = 63 ∨ j = 68 ∨ j = 72 ∨ j = 73 ∨ j = 75 ∨ j = 84 ∨ j = 85 ∨ j = 86) → cq_I g' x j = cq_I g x j) (sr : SR x (T s) s h' g') : FX c x n pe ro pa lb tp rd en op ob T Lf h' g' := by
  have fo := F.fo u0 v0 hu.1 hu.2 hv.1 hv.2
  have sl := fo.sl i0 hi.1 hi.2
  have sr0 := fo.ss i0 hi.1 hi.2
  rw [es] at sl sr0
  have g29 : ∀ j, cq_I g' (x + 29) j = cq_I g (x + 29) j := fun j => (eg 29 j (by decide) (by decide) (by decide) (fun z => by unfold inS at z; omega)).1
  have g30 : ∀ j, cq_I g' (x + 30) j = cq_I g (x + 30) j := fun j => (eg 30 j (by decide) (by decide) (by decide) (fun z => by unfold inS at z; omega)).1
  have np : ∀ a, (cq_s h a = 5 ∨ cq_s h a = 182) → ¬ P a := fun a w z => by
    have := sr0.cl (hP a z)
    omega
  refine F.upO hu hv e (fun o j h1 h2 h3 w => eg o j h1 h2 h3 (fun z => w (by unfold inS at z; unfold inO; omega))) (fun a w => Or.inr (Or.inr ⟨i0, hi.1, hi.2, by rw [es]; exact hP a w⟩)) ex (fun _ _ => rfl) (fo.ex e (np _ (Or.inl fo.s0)) (np _ (Or.inr fo.s1)) (fun j => g29 _) (g30 _) (fun i i1 i2 => ?_)) (fun i j a1 a2 a3 a4 ne => ?_) (fun i u v j a1 a2 b1 b2 b3 b4 ne a3 a4 => ?_)
  · by_cases w : i = i0
    · rw [w, es]
      exact sr
    · have sri := fo.ss i i1 i2
      have ne := F.ti u0 v0 u0 v0 i i0 hu.1 hu.2 hv.1 hv.2 hu.1 hu.2 hv.1 hv.2 i1 i2 hi.1 hi.2 (fun z => w z.2.2)
      have dn : cq_I g (x + 29) (4 * (6 * u0 + v0) + i) ≠ s := fun z => by
        rw [es, z] at ne
        exact ne rfl
      rw [es] at ne
      have q : ∀ a, scl (T (cq_I g (x + 29) (4 * (6 * u0 + v0) + i))) a → ¬ P a := fun a w z => sri.ne sr0 ne w (hP a z)
      refine sri.ex e (q _ (Or.inl rfl)) (q _ (Or.inr (Or.inl rfl))) (q _ (Or.inr (Or.inr (Or.inl rfl)))) (q _ (Or.inr (Or.inr (Or.inr (Or.inl rfl))))) (q _ (Or.inr (Or.inr (Or.inr (Or.inr rfl))))) (fun o j z => ?_)
      obtain ⟨q1, q2, q3⟩ := inS_r z
      exact eg o j q1 q2 q3 (fun z2 => by unfold inS at z z2; omega)
  · rw [g30] at a2 a4
    rw [g29, g29]
    exact F.ti u0 v0 u0 v0 i j hu.1 hu.2 hv.1 hv.2 hu.1 hu.2 hv.1 hv.2 a1 a2 a3 a4 (fun z => ne z.2.2)
  · rw [g30] at a2
    rw [g29]
    exact F.ti u0 v0 u v i j hu.1 hu.2 hv.1 hv.2 b1 b2 b3 b4 a1 a2 a3 a4 (fun z => ne ⟨z.1.symm, z.2.1.symm⟩)
/-- a SESSION that has written -/
theorem SR.wrote {a : Nat} {s i : Int} {j : Int64} (F : SR x a s h g) (e40 : cq_I g' (x + 40) s = i) (e32 : cq_J g' (x + 32) s = j) (eI : ∀ o k, inS s o k → o ≠ 40 → cq_I g' (x + o) k = cq_I g (x + o) k) (eJ : ∀ o k, inS s o k → o ≠ 32 → cq_J g' (x + o) k = cq_J g (x + o) k) : SR x a s (cq_sI (cq_sJ h a 8 j) a 16 i) g' := by
  have hI : ∀ k, k ≠ 16 → cq_I (cq_sI (cq_sJ h a 8 j) a 16 i) a k = cq_I h a k := fun k w => by rw [mm_sI, if_neg (fun q => w q.2), mm_IJ]
  have hJ : ∀ k, k ≠ 8 → cq_J (cq_sI (cq_sJ h a 8 j) a 16 i) a k = cq_J h a k := fun k w => by rw [mm_JI, mm_sJ, if_neg (fun q => w q.2)]
  have hA : cq_A (cq_sI (cq_sJ h a 8 j) a 16 i) = cq_A h := rfl
  have oI : ∀ b, b ≠ a → cq_I (cq_sI (cq_sJ h a 8 j) a 16 i) b = cq_I h b := fun b w => by funext k; rw [mm_sI, if_neg (fun q => w q.1), mm_IJ]
  have oJ : ∀ b, b ≠ a → cq_J (cq_sI (cq_sJ h a 8 j) a 16 i) b = cq_J h b := fun b w => by funext k; rw [mm_JI, mm_sJ, if_neg (fun q => w q.1)]
  have gI : ∀ o, ((31 ≤ o ∧ o ≤ 47) ∨ o = 53) → o ≠ 40 → cq_I g' (x + o) s = cq_I g (x + o) s := fun o w w2 => eI o s (Or.inl ⟨w, rfl⟩) w2
  have gJ : ∀ o, ((31 ≤ o ∧ o ≤ 47) ∨ o = 53) → o ≠ 32 → cq_J g' (x + o) s = cq_J g (x + o) s := fun o w w2 => eJ o s (Or.inl ⟨w, rfl⟩) w2
  have k20 := F.k20
  have s0 := F.s0
  refine ⟨F.s0, F.s1, F.s2, F.s3, F.s4, F.a19, F.k0, F.k1, F.k2, by rw [hI 0 (by decide), gI 44 (by omega) (by decide)]; exact F.bg, by rw [hJ 2 (by decide), gJ 45 (by omega) (by decide)]; exact F.be, by rw [hI 5 (by decide), gI 43 (by omega) (by decide)]; exact F.gw, by rw [hI 3 (by decide), hI 4 (by decide), gI 43 (by omega) (by decide), gI 46 (by omega) (by decide), gI 47 (by omega) (by decide)]; exact F.gl, by rw [hJ 6 (by decide), gJ 31 (by omega) (by decide)]; exact F.rt, by rw [mm_JI, mm_sJ, if_pos ⟨rfl, rfl⟩, e32], F.s9, by rw [gI 33 (by omega) (by decide)]; exact F.hs, by rw [hA, gI 35 (by omega) (by decide)]; exact F.hr, by rw [hJ 10 (by decide), gI 35 (by omega) (by decide), gJ 34 (by omega) (by decide)]; exact F.rc, by rw [hJ 10 (by decide), gI 35 (by omega) (by decide)]; exact F.rz, ?_, by rw [hJ 13 (by decide), gJ 38 (by omega) (by decide)]; exact F.ot, by rw [hI 15 (by decide), gI 39 (by omega) (by decide)]; exact F.ho, by rw [mm_sI, if_pos ⟨rfl, rfl⟩, e40], by rw [hI 17 (by decide), gI 41 (by omega) (by decide)]; exact F.nr, by rw [hI 18 (by decide), gI 42 (by omega) (by decide)]; exact F.pn, by rw [oI (a + 1) (by omega), gI 53 (by omega) (by decide)]; exact F.km, by rw [gI 53 (by omega) (by decide)]; exact F.k20, fun k k1 k2 => ?_⟩
  · obtain ⟨w, q1, q2, q3, q4⟩ := F.ow
    have wa : w ≠ a := fun z => by rw [z, s0] at q2; exact absurd q2 (by decide)
    exact ⟨w, q1, q2, by rw [oJ w wa, gJ 36 (by omega) (by decide)]; exact q3, by rw [oJ w wa, gJ 37 (by omega) (by decide)]; exact q4⟩
  · rw [gI 53 (by omega) (by decide)] at k2
    rw [oJ (a + 2) (by omega), oI (a + 3) (by omega), oJ (a + 4) (by omega), eJ 54 (20 * s + k) (Or.inr ⟨Or.inl rfl, by omega, by omega⟩) (by decide), eI 55 (20 * s + k) (Or.inr ⟨Or.inr (Or.inl rfl), by omega, by omega⟩) (by decide), eJ 56 (20 * s + k) (Or.inr ⟨Or.inr (Or.inr rfl), by omega, by omega⟩) (by decide)]
    exact F.kk k k1 k2
/-- the SESSION's part of a letter that is written -/
theorem fx_wrote (F : FX c x n pe ro pa lb tp rd en op ob T Lf h g) {u v s : Int} (hu : 0 ≤ u ∧ u < n) (hv : 0 ≤ v ∧ v < n) (hr : 0 < cq_I g (x + 30) (6 * u + v)) (es : cq_I g (x + 29) (4 * (6 * u + v)) = s) {i : Int} {j : Int64} : FX c x n pe ro pa lb tp rd en op ob T Lf (cq_sI (cq_sJ h (T s) 8 j) (T s) 16 i) (cq_sI (cq_sJ g (x + 32) s j) (x + 40) s i) := by
  have es' : cq_I g (x + 29) (4 * (6 * u + v) + 0) = s := by rw [Int.add_zero]; exact es
  have sr := (F.fo u v hu.1 hu.2 hv.1 hv.2).ss 0 (Int.le_refl _) hr
  rw [es'] at sr
  have e0 : evx (fun a => a = T s) h (cq_sI (cq_sJ h (T s) 8 j) (T s) 16 i) := evx.sI (P := fun a => a = T s) (evx.sJ (P := fun a => a = T s) evx.refl rfl (by rw [sr.s0]; decide)) rfl
  refine F.upT hu hv (i0 := 0) (s := s) ⟨Int.le_refl _, hr⟩ es' e0 (fun a w => Or.inl w) (fun o k h1 h2 h3 w => ⟨?_, ?_⟩) (fun k _ => ?_) (sr.wrote ?_ ?_ (fun o k w w2 => ?_) (fun o k w w2 => ?_))
  · rw [mm_sI, if_neg (fun q => w (Or.inl ⟨by omega, q.2⟩)), mm_IJ]
  · rw [mm_JI, mm_sJ, if_neg (fun q => w (Or.inl ⟨by omega, q.2⟩))]
  · rw [mm_sI, if_neg (fun q => by omega), mm_IJ]
  · rw [mm_sI, if_pos ⟨rfl, rfl⟩]
  · rw [mm_JI, mm_sJ, if_pos ⟨rfl, rfl⟩]
  · rw [mm_sI, if_neg (fun q => w2 (by omega)), mm_IJ]
  · rw [mm_JI, mm_sJ, if_neg (fun q => w2 (by omega))]
end
/-! class and reference side by side: write -/
theorem wAB_c {go u v : Int} {idn eO : Int64} {ln on ln' on' : Int} (e : go ≠ 0 → ln = ln' ∧ on = on') : wAB go u v idn eO ln on = wAB go u v idn eO ln' on' := by
  unfold wAB
  by_cases w : go = 0
  · rw [if_pos w, if_pos w]
  · rw [if_neg w, if_neg w, (e w).1, (e w).2]
theorem wAll_c {go u v : Int} {idn eO own : Int64} {ln on ln' on' pn ns m : Int} {tp tp' : Int → Int} {key : Int64} (hm : 0 ≤ m) (e : go ≠ 0 → ln = ln' ∧ on = on') (et : ∀ k, 0 ≤ k → k < m → tp k = tp' k) : wAll go u v idn eO ln on own pn ns m tp key = wAll go u v idn eO ln' on' own pn ns m tp' key := by
  unfold wAll
  rw [wAB_c e, wD_c (tp := tp) (tp' := tp') (fun k k0 k1 => et k k0 (by omega))]
section
variable {Y : cx_Y} {K : Option cx_V → cx_Q → Prop} {c x : Nat} {n L Z : Int} {E : Nat → Option Int} {h0 : cx_Q} {h g g' : cx_Q} {pe : Int → Nat} {ro : Int → Int → Nat} {pa lb tp rd en op ob : Nat} {T Lf : Int → Nat}
theorem WR.eT {g1 : cx_Q} {u v : Int} (e : eT x g g1) (W : WR x u v g1 g') : WR x u v g g' := by
  have eS : wrS x g1 u v = wrS x g u v := by unfold wrS; rw [e.fI (by decide) (by decide)]
  have x72 : cq_I g1 x 72 = cq_I g x 72 := e.xI (by decide) (by decide) (by decide)
  have eZ : ∀ s, wrZ x g1 s = wrZ x g s := fun s => by unfold wrZ; rw [e.fI (by decide) (by decide), e.xI (j := 68) (by decide) (by decide) (by decide)]
  have eB : ∀ s, wrB x g1 u v s = wrB x g u v s := fun s => by
    unfold wrB
    rw [e.fI (o := 43) (by decide) (by decide), e.fJ (o := 14) (by decide) (by decide), e.fJ (o := 45) (by decide) (by decide), e.fI (o := 46) (by decide) (by decide), e.fI (o := 47) (by decide) (by decide), e.fJ (o := 37) (by decide) (by decide), e.fI (o := 42) (by decide) (by decide), e.fI (o := 40) (by decide) (by decide), e.xI (j := 68) (by decide) (by decide) (by decide), e.fI (o := 61) (by decide) (by decide), e.fJ (o := 32) (by decide) (by decide)]
  unfold WR at W ⊢
  rw [eS, eZ, eB] at W
  generalize wrS x g u v = s at W ⊢
  refine ⟨fun j w1 w2 w3 w4 w5 w6 => (W.x_ j w1 w2 w3 w4 w5 w6).trans (e.xI w4 w5 w6), by rw [W.x72, x72], W.x68, fun o j w1 w2 w3 w4 w5 w6 => by rw [W.I_ o j w1 w2 w3 w4 (by rw [x72]; exact w5) (by rw [x72]; exact w6), e.fI w1 w3], fun o j w1 w2 w3 w4 => by rw [W.J_ o j w1 w2 w3 w4, e.fJ w1 w3], by rw [W.i40, e.fI (by decide) (by decide)], by rw [W.j32, e.fJ (by decide) (by decide)], by rw [← x72]; exact W.z, fun k k0 k1 => by rw [← x72]; exact W.b_ k k0 k1⟩
theorem f_write93 (hY : cY Y) {u v : Int} {z4 : Option cx_V} (H : CI c n L Z E h0 [] h) (hZ : Z ≤ 1000000) (F : FX c x n pe ro pa lb tp rd en op ob T Lf h g) (hu : 0 ≤ u ∧ u < n) (hv : 0 ≤ v ∧ v < n) (hU : cq_I g (x + 11) u ≠ 0) (hr : 0 < cq_I g (x + 30) (6 * u + v)) (h72 : cq_I g x 72 < 80) (hK : ∀ h' Lf', CI c n L (Z + 1) E h0 [] h' → (∀ g', WR x u v g g' → FX c x n pe ro pa lb tp rd en op ob T Lf' h' g') → K (some (.inl (cq_I g x 72))) h') : cw Y mi_X10_write K 93 [some (.inr (.inr (some c))), some (.inl u), some (.inl v), some (.inr (.inr (some (ro u v)))), z4] [] h 2 104 := by
  have hc := H.cs
  have i9 := H.i9_9 hc
  have fs := F.fs
  have fu := F.fu u hu.1 hu.2
  have fo := F.fo u v hu.1 hu.2 hv.1 hv.2
  have at0 := fo.at_ 0 (Int.le_refl _) hr
  have sr := fo.ss 0 (Int.le_refl _) hr
  rw [Int.add_zero] at at0 sr
  unfold WR at hK
  have eS : cq_I g (x + 29) (4 * (6 * u + v)) = wrS x g u v := rfl
  rw [eS] at at0 sr
  generalize wrS x g u v = s at hK at0 sr eS
  have ss := sr.s0
  have lb1 := F.a1
  have slb := F.s1
  obtain ⟨d, ed, sd, jd0, jd1, _, _, _⟩ := fu.n1 hU
  obtain ⟨w, ew, sw, jw0, jw1⟩ := sr.ow
  refine bx_X10_write_93 hY (pf2_ok hY) ?_
  simp only [wp_iconst, wp_bipush, wp_sipush, wp_ldc, wp_ldc2_w, wp_lconst0, wp_lconst1, wp_aconst_null, wp_iload_0, wp_istore_0, wp_iload_1, wp_istore_1, wp_iload_2, wp_istore_2, wp_iload_3, wp_istore_3, wp_iload, wp_istore, wp_lload_0, wp_lstore_0, wp_lload_1, wp_lstore_1, wp_lload_2, wp_lstore_2, wp_lload_3, wp_lstore_3, wp_lload, wp_lstore, wp_aload_0, wp_astore_0, wp_aload_1, wp_astore_1, wp_aload_2, wp_astore_2, wp_aload_3, wp_astore_3, wp_aload, wp_astore, wp_iinc, wp_iadd, wp_isub, wp_imul, wp_iand, wp_ior, wp_ixor, wp_ishl, wp_ishr, wp_iushr, wp_irem, wp_ladd, wp_lsub, wp_lmul, wp_land, wp_lor, wp_lxor, wp_lshl, wp_lshr, wp_lushr, wp_lrem, wp_lcmp, wp_i2l, wp_l2i, wp_dupI, wp_dupA, wp_dup2J, wp_dup2IA, wp_popI, wp_popA, wp_pop2, wp_goto, wp_if_eq, wp_icmp_eq, wp_if_ne, wp_icmp_ne, wp_if_lt, wp_icmp_lt, wp_if_ge, wp_icmp_ge, wp_if_gt, wp_icmp_gt, wp_if_le, wp_icmp_le, wp_ifnull, wp_ifnonnull, wp_acmp_eq, wp_acmp_ne, wp_tableswitch, wp_get0, wp_put0, wp_get1, wp_put1, wp_get2, wp_put2, wp_get3, wp_put3, wp_new, wp_newarray, wp_anewarray, wp_alen, wp_iaload, wp_laload, wp_baload, wp_aaload, wp_iastore, wp_lastore, wp_bastore, wp_aastore, wp_return, wp_ireturnI, wp_ireturnZ, wp_lreturn, wp_areturnO, wp_areturnA, wp_max, wp_min, wp_obj, wp_virt, wp_nil, ld_I0, ld_Is, ld_J0, ld_Js, ld_A0, ld_As, ha_0, ha_s, cx_put1, cx_put2, cx_dl, cx_tgt, true_and, and_true, Nat.reduceAdd, Nat.reduceSub, Int.reduceAdd, Int.reduceNeg, Int.reduceToNat, Int.reduceSub, Int.cast_ofNat_Int, List.take_succ_cons, List.take_zero, List.drop_succ_cons, List.drop_zero, List.take_nil, List.drop_nil, Option.toList_some, Option.toList_none, List.cons_append, List.nil_append, wp_spec, ne_eq, Nat.reduceEqDiff, not_false_eq_true, true_or, or_true]
  refine cl_X6_at (Nat.le_of_ble_eq_true rfl) fo.s0 (by omega) (by omega) (c_X6_at hY H List.not_mem_nil fo.s0 (fun q => ?_) (fun _ _ t et _ _ => ?_))
  · have := fo.rm
    omega
  have ett : t = T s := by
    rw [at0] at et
    exact (Option.some.inj et).symm
  rw [ett]
  clear et ett
  refine bx_X10_write_98 hY (pf2_ok hY) ?_
  simp only [wp_iconst, wp_bipush, wp_sipush, wp_ldc, wp_ldc2_w, wp_lconst0, wp_lconst1, wp_aconst_null, wp_iload_0, wp_istore_0, wp_iload_1, wp_istore_1, wp_iload_2, wp_istore_2, wp_iload_3, wp_istore_3, wp_iload, wp_istore, wp_lload_0, wp_lstore_0, wp_lload_1, wp_lstore_1, wp_lload_2, wp_lstore_2, wp_lload_3, wp_lstore_3, wp_lload, wp_lstore, wp_aload_0, wp_astore_0, wp_aload_1, wp_astore_1, wp_aload_2, wp_astore_2, wp_aload_3, wp_astore_3, wp_aload, wp_astore, wp_iinc, wp_iadd, wp_isub, wp_imul, wp_iand, wp_ior, wp_ixor, wp_ishl, wp_ishr, wp_iushr, wp_irem, wp_ladd, wp_lsub, wp_lmul, wp_land, wp_lor, wp_lxor, wp_lshl, wp_lshr, wp_lushr, wp_lrem, wp_lcmp, wp_i2l, wp_l2i, wp_dupI, wp_dupA, wp_dup2J, wp_dup2IA, wp_popI, wp_popA, wp_pop2, wp_goto, wp_if_eq, wp_icmp_eq, wp_if_ne, wp_icmp_ne, wp_if_lt, wp_icmp_lt, wp_if_ge, wp_icmp_ge, wp_if_gt, wp_icmp_gt, wp_if_le, wp_icmp_le, wp_ifnull, wp_ifnonnull, wp_acmp_eq, wp_acmp_ne, wp_tableswitch, wp_get0, wp_put0, wp_get1, wp_put1, wp_get2, wp_put2, wp_get3, wp_put3, wp_new, wp_newarray, wp_anewarray, wp_alen, wp_iaload, wp_laload, wp_baload, wp_aaload, wp_iastore, wp_lastore, wp_bastore, wp_aastore, wp_return, wp_ireturnI, wp_ireturnZ, wp_lreturn, wp_areturnO, wp_areturnA, wp_max, wp_min, wp_obj, wp_virt, wp_nil, ld_I0, ld_Is, ld_J0, ld_Js, ld_A0, ld_As, ha_0, ha_s, cx_put1, cx_put2, cx_dl, cx_tgt, true_and, and_true, Nat.reduceAdd, Nat.reduceSub, Int.reduceAdd, Int.reduceNeg, Int.reduceToNat, Int.reduceSub, Int.cast_ofNat_Int, List.take_succ_cons, List.take_zero, List.drop_succ_cons, List.drop_zero, List.take_nil, List.drop_nil, Option.toList_some, Option.toList_none, List.cons_append, List.nil_append, wp_spec, ne_eq, Nat.reduceEqDiff, not_false_eq_true, true_or, or_true]
  refine ⟨fun i _ => ?_, fun q => (nomatch q)⟩
  refine bx_X10_write_107 hY (pf2_ok hY) ?_
  simp only [wp_iconst, wp_bipush, wp_sipush, wp_ldc, wp_ldc2_w, wp_lconst0, wp_lconst1, wp_aconst_null, wp_iload_0, wp_istore_0, wp_iload_1, wp_istore_1, wp_iload_2, wp_istore_2, wp_iload_3, wp_istore_3, wp_iload, wp_istore, wp_lload_0, wp_lstore_0, wp_lload_1, wp_lstore_1, wp_lload_2, wp_lstore_2, wp_lload_3, wp_lstore_3, wp_lload, wp_lstore, wp_aload_0, wp_astore_0, wp_aload_1, wp_astore_1, wp_aload_2, wp_astore_2, wp_aload_3, wp_astore_3, wp_aload, wp_astore, wp_iinc, wp_iadd, wp_isub, wp_imul, wp_iand, wp_ior, wp_ixor, wp_ishl, wp_ishr, wp_iushr, wp_irem, wp_ladd, wp_lsub, wp_lmul, wp_land, wp_lor, wp_lxor, wp_lshl, wp_lshr, wp_lushr, wp_lrem, wp_lcmp, wp_i2l, wp_l2i, wp_dupI, wp_dupA, wp_dup2J, wp_dup2IA, wp_popI, wp_popA, wp_pop2, wp_goto, wp_if_eq, wp_icmp_eq, wp_if_ne, wp_icmp_ne, wp_if_lt, wp_icmp_lt, wp_if_ge, wp_icmp_ge, wp_if_gt, wp_icmp_gt, wp_if_le, wp_icmp_le, wp_ifnull, wp_ifnonnull, wp_acmp_eq, wp_acmp_ne, wp_tableswitch, wp_get0, wp_put0, wp_get1, wp_put1, wp_get2, wp_put2, wp_get3, wp_put3, wp_new, wp_newarray, wp_anewarray, wp_alen, wp_iaload, wp_laload, wp_baload, wp_aaload, wp_iastore, wp_lastore, wp_bastore, wp_aastore, wp_return, wp_ireturnI, wp_ireturnZ, wp_lreturn, wp_areturnO, wp_areturnA, wp_max, wp_min, wp_obj, wp_virt, wp_nil, ld_I0, ld_Is, ld_J0, ld_Js, ld_A0, ld_As, ha_0, ha_s, cx_put1, cx_put2, cx_dl, cx_tgt, true_and, and_true, Nat.reduceAdd, Nat.reduceSub, Int.reduceAdd, Int.reduceNeg, Int.reduceToNat, Int.reduceSub, Int.cast_ofNat_Int, List.take_succ_cons, List.take_zero, List.drop_succ_cons, List.drop_zero, List.take_nil, List.drop_nil, Option.toList_some, Option.toList_none, List.cons_append, List.nil_append, wp_spec, ne_eq, Nat.reduceEqDiff, not_false_eq_true, true_or, or_true, hc, lb1]
  refine cl_X10_writeIn (Nat.le_of_ble_eq_true rfl) hc (by omega) (by omega) (e_X10_writeIn hY H (by omega) ss sr.s9 hu F.a0 (F.pa_ u hu.1 hu.2) ed ew fs.a8 (fun m G km st a0 s1 z1 b1 => ?_))
  have F1 := fx_wrote F hu hv hr eS (i := cq_I h (T s) 16 + 1) (j := nx1 (cq_J h (T s) 8))
  have es1 : ∀ q, cq_s (cq_sI (cq_sJ h (T s) 8 (nx1 (cq_J h (T s) 8))) (T s) 16 (cq_I h (T s) 16 + 1)) q = cq_s h q := fun _ => rfl
  have eA1 : cq_A (cq_sI (cq_sJ h (T s) 8 (nx1 (cq_J h (T s) 8))) (T s) 16 (cq_I h (T s) 16 + 1)) = cq_A h := rfl
  have ncT : c ≠ T s := ns hc ss (by decide)
  have ec1 : cq_I (cq_sI (cq_sJ h (T s) 8 (nx1 (cq_J h (T s) 8))) (T s) 16 (cq_I h (T s) 16 + 1)) c = cq_I h c := by
    funext k
    rw [mm_sI, if_neg (fun q => ncT q.1), mm_IJ]
  have bb : ∀ k, wAll (cq_I h (T s) 5) u v (cq_J h d 1) (cq_J h (T s) 2) (cq_I h (T s) 3) (cq_I h (T s) 4) (cq_J h w 1) (cq_I h (T s) 18) (cq_I h (T s) 16) (cq_I h c 9) (cq_I h tp) (lkC (cq_J h (T s) 8)) k = wrB x g u v s k := fun k => by
    unfold wrB
    rw [sr.gw, jd1, sr.be, jw1, sr.pn, sr.ns, fs.tc, sr.sn]
    rw [wAll_c (ln' := cq_I g (x + 46) s) (on' := cq_I g (x + 47) s) (tp' := cq_I g (x + 61)) (by rw [← fs.tc]; exact i9.1) sr.gl fs.tp_]
  have zz : wp0 (cq_I h (T s) 5) + 13 + cq_I h c 9 + 8 = wrZ x g s := by unfold wrZ; rw [sr.gw, fs.tc]
  have zr : 0 ≤ wrZ x g s ∧ wrZ x g s ≤ 100 := by
    rw [← zz]
    unfold wp0
    split <;> omega
  rw [zz] at z1 b1
  have e40 := sr.ns
  have e32 := sr.sn
  generalize cq_sI (cq_sJ h (T s) 8 (nx1 (cq_J h (T s) 8))) (T s) 16 (cq_I h (T s) 16 + 1) = h1 at km F1 es1 eA1 ec1
  rw [e40, e32] at F1
  have gc := G.cs
  have hc1 : cq_s h1 c = 9 := by rw [es1]; exact hc
  have gI : cq_I m c = cq_I h c := by rw [km.I hc1 rfl, ec1]
  have gA : cq_A m c = cq_A h c := by rw [km.A hc1 rfl, eA1]
  have sl1 : cq_s h1 lb = 102 := by rw [es1]; exact slb
  have gsl : cq_s m lb = 102 := km.s sl1 (by decide)
  have gzl : cq_z m lb = 80 := G.tz gsl
  have gl : cq_A m c 1 = some lb := by rw [gA]; exact lb1
  have gAl : cq_A m lb = cq_A h lb := by rw [km.A sl1 rfl, eA1]
  have lc := fs.lc
  have l80 := F.l80
  have nc : ¬ c = lb := ns gc gsl (by decide)
  have G1 := G.more gl gsl st (by rw [gI]; omega)
  rw [gI] at G1
  have G2 := G1.sI (a := c) (j := 9) (v := 0) gc (own_9 (by decide)) ⟨by omega, by omega⟩ rfl
  have ft : cq_s h1 h.1 = 99 := by rw [es1]; exact H.al h.1 (Nat.le_refl _)
  have ft1 : cq_s h1 (h.1 + 1) = 99 := by rw [es1]; exact H.al _ (by omega)
  refine bx_X10_write_123 hY (pf2_ok hY) ?_
  simp only [wp_iconst, wp_bipush, wp_sipush, wp_ldc, wp_ldc2_w, wp_lconst0, wp_lconst1, wp_aconst_null, wp_iload_0, wp_istore_0, wp_iload_1, wp_istore_1, wp_iload_2, wp_istore_2, wp_iload_3, wp_istore_3, wp_iload, wp_istore, wp_lload_0, wp_lstore_0, wp_lload_1, wp_lstore_1, wp_lload_2, wp_lstore_2, wp_lload_3, wp_lstore_3, wp_lload, wp_lstore, wp_aload_0, wp_astore_0, wp_aload_1, wp_astore_1, wp_aload_2, wp_astore_2, wp_aload_3, wp_astore_3, wp_aload, wp_astore, wp_iinc, wp_iadd, wp_isub, wp_imul, wp_iand, wp_ior, wp_ixor, wp_ishl, wp_ishr, wp_iushr, wp_irem, wp_ladd, wp_lsub, wp_lmul, wp_land, wp_lor, wp_lxor, wp_lshl, wp_lshr, wp_lushr, wp_lrem, wp_lcmp, wp_i2l, wp_l2i, wp_dupI, wp_dupA, wp_dup2J, wp_dup2IA, wp_popI, wp_popA, wp_pop2, wp_goto, wp_if_eq, wp_icmp_eq, wp_if_ne, wp_icmp_ne, wp_if_lt, wp_icmp_lt, wp_if_ge, wp_icmp_ge, wp_if_gt, wp_icmp_gt, wp_if_le, wp_icmp_le, wp_ifnull, wp_ifnonnull, wp_acmp_eq, wp_acmp_ne, wp_tableswitch, wp_get0, wp_put0, wp_get1, wp_put1, wp_get2, wp_put2, wp_get3, wp_put3, wp_new, wp_newarray, wp_anewarray, wp_alen, wp_iaload, wp_laload, wp_baload, wp_aaload, wp_iastore, wp_lastore, wp_bastore, wp_aastore, wp_return, wp_ireturnI, wp_ireturnZ, wp_lreturn, wp_areturnO, wp_areturnA, wp_max, wp_min, wp_obj, wp_virt, wp_nil, ld_I0, ld_Is, ld_J0, ld_Js, ld_A0, ld_As, ha_0, ha_s, cx_put1, cx_put2, cx_dl, cx_tgt, true_and, and_true, Nat.reduceAdd, Nat.reduceSub, Int.reduceAdd, Int.reduceNeg, Int.reduceToNat, Int.reduceSub, Int.cast_ofNat_Int, List.take_succ_cons, List.take_zero, List.drop_succ_cons, List.drop_zero, List.take_nil, List.drop_nil, Option.toList_some, Option.toList_none, List.cons_append, List.nil_append, wp_spec, ne_eq, Nat.reduceEqDiff, not_false_eq_true, true_or, or_true, gc, gsl, gzl, gI, ra_102, mm_sI, mm_sJ, mm_sA, mm_IJ, mm_IA, mm_JI, mm_JA, mm_AI, mm_AJ, mm_ssI, mm_ssJ, mm_ssA, mm_zI, mm_zJ, mm_zA, mm_nI, mm_nJ, mm_nA, Nat.left_eq_add, Nat.add_eq_left, Nat.add_left_cancel_iff, Nat.reduceEqDiff, Int.reduceEq, false_and, and_false, if_false, if_true, and_self, true_and, true_or, or_true, false_or, or_false, cx_rg]
  (repeat' (with_reducible (first | refine And.intro ?_ ?_ | intro _)))
  all_goals (try omega)
  · exact st
  have ans : cq_I h c 2 + 1 - 1 = cq_I g x 72 := by omega
  rw [ans]
  refine hK _ (fun l => if l = cq_I g x 72 then h.1 else Lf l) G2 (fun g' W => ?_)
  have nt : ¬ h.1 = lb := fun z => by rw [z, sl1] at ft; exact absurd ft (by decide)
  have nt1 : ¬ h.1 + 1 = c := fun z => by rw [z, hc1] at ft1; exact absurd ft1 (by decide)
  have ex : evx (fun a => a = c ∨ a = lb) h1 (cq_sI (cq_sI (cq_sA m lb (cq_I h c 2) (some h.1)) c 2 (cq_I h c 2 + 1)) c 9 0) := ((km.x.sA (Or.inr rfl)).sI (Or.inl rfl)).sI (Or.inl rfl)
  have eA' : cq_A (cq_sI (cq_sI (cq_sA m lb (cq_I h c 2) (some h.1)) c 2 (cq_I h c 2 + 1)) c 9 0) c = cq_A h1 c := by
    rw [eA1, ← gA]
    funext j
    simp only [mm_sI, mm_sJ, mm_sA, mm_IJ, mm_IA, mm_JI, mm_JA, mm_AI, mm_AJ, mm_ssI, mm_ssJ, mm_ssA, mm_zI, mm_zJ, mm_zA, mm_nI, mm_nJ, mm_nA, nc, Nat.left_eq_add, Nat.add_eq_left, Nat.add_left_cancel_iff, Nat.reduceEqDiff, Int.reduceEq, false_and, and_false, if_false, if_true, and_self, true_and, true_or, or_true, false_or, or_false]
  have eI : ∀ j, j ≠ 2 → j ≠ 9 → cq_I (cq_sI (cq_sI (cq_sA m lb (cq_I h c 2) (some h.1)) c 2 (cq_I h c 2 + 1)) c 9 0) c j = cq_I h c j := fun j w1 w2 => by
    rw [mm_sI, if_neg (fun q => w2 q.2), mm_sI, if_neg (fun q => w1 q.2), mm_IA, gI]
  have i2' : cq_I (cq_sI (cq_sI (cq_sA m lb (cq_I h c 2) (some h.1)) c 2 (cq_I h c 2 + 1)) c 9 0) c 2 = cq_I h c 2 + 1 := by
    rw [mm_sI, if_neg (fun q => absurd q.2 (by decide)), mm_sI, if_pos ⟨rfl, rfl⟩]
  have i9' : cq_I (cq_sI (cq_sI (cq_sA m lb (cq_I h c 2) (some h.1)) c 2 (cq_I h c 2 + 1)) c 9 0) c 9 = 0 := by
    rw [mm_sI, if_pos ⟨rfl, rfl⟩]
  have lbA : ∀ j, cq_A (cq_sI (cq_sI (cq_sA m lb (cq_I h c 2) (some h.1)) c 2 (cq_I h c 2 + 1)) c 9 0) lb j = if j = cq_I g x 72 then some h.1 else cq_A h1 lb j := fun j => by
    rw [eA1, ← gAl]
    simp only [mm_sI, mm_sJ, mm_sA, mm_IJ, mm_IA, mm_JI, mm_JA, mm_AI, mm_AJ, mm_ssI, mm_ssJ, mm_ssA, mm_zI, mm_zJ, mm_zA, mm_nI, mm_nJ, mm_nA, Nat.left_eq_add, Nat.add_eq_left, Nat.add_left_cancel_iff, Nat.reduceEqDiff, Int.reduceEq, false_and, and_false, if_false, if_true, and_self, true_and, true_or, or_true, false_or, or_false]
    rw [lc]
  have tA : cq_A (cq_sI (cq_sI (cq_sA m lb (cq_I h c 2) (some h.1)) c 2 (cq_I h c 2 + 1)) c 9 0) h.1 0 = some (h.1 + 1) := by
    simp only [mm_sI, mm_sJ, mm_sA, mm_IJ, mm_IA, mm_JI, mm_JA, mm_AI, mm_AJ, mm_ssI, mm_ssJ, mm_ssA, mm_zI, mm_zJ, mm_zA, mm_nI, mm_nJ, mm_nA, nt, Nat.left_eq_add, Nat.add_eq_left, Nat.add_left_cancel_iff, Nat.reduceEqDiff, Int.reduceEq, false_and, and_false, if_false, if_true, and_self, true_and, true_or, or_true, false_or, or_false]
    exact a0
  have tI : ∀ k, 0 ≤ k → k < wrZ x g s → cq_I (cq_sI (cq_sI (cq_sA m lb (cq_I h c 2) (some h.1)) c 2 (cq_I h c 2 + 1)) c 9 0) (h.1 + 1) k = wrB x g u v s k := fun k k0 k1 => by
    simp only [mm_sI, mm_sJ, mm_sA, mm_IJ, mm_IA, mm_JI, mm_JA, mm_AI, mm_AJ, mm_ssI, mm_ssJ, mm_ssA, mm_zI, mm_zJ, mm_zA, mm_nI, mm_nJ, mm_nA, nt1, Nat.left_eq_add, Nat.add_eq_left, Nat.add_left_cancel_iff, Nat.reduceEqDiff, Int.reduceEq, false_and, and_false, if_false, if_true, and_self, true_and, true_or, or_true, false_or, or_false]
    rw [b1 k k0 k1]
    exact bb k
  have tz : cq_z (cq_sI (cq_sI (cq_sA m lb (cq_I h c 2) (some h.1)) c 2 (cq_I h c 2 + 1)) c 9 0) (h.1 + 1) = wrZ x g s := z1
  have ts : cq_s (cq_sI (cq_sI (cq_sA m lb (cq_I h c 2) (some h.1)) c 2 (cq_I h c 2 + 1)) c 9 0) h.1 = 2 := st
  have ts1 : cq_s (cq_sI (cq_sI (cq_sA m lb (cq_I h c 2) (some h.1)) c 2 (cq_I h c 2 + 1)) c 9 0) (h.1 + 1) = 100 := s1
  generalize cq_sI (cq_sI (cq_sA m lb (cq_I h c 2) (some h.1)) c 2 (cq_I h c 2 + 1)) c 9 0 = h2 at ex eA' eI i2' i9' lbA tA tI tz ts ts1 ⊢
  -- the reference between
  have gx : ∀ j, cq_I (cq_sI (cq_sJ g (x + 32) s (nx1 (cq_J g (x + 32) s))) (x + 40) s (cq_I g (x + 40) s + 1)) x j = cq_I g x j := fun j => by rw [mm_sI, if_neg (fun q => by omega), mm_IJ]
  have go : ∀ o j, cq_I (cq_sI (cq_sJ g (x + 32) s (nx1 (cq_J g (x + 32) s))) (x + 40) s (cq_I g (x + 40) s + 1)) (x + o) j = if o = 40 ∧ j = s then cq_I g (x + 40) s + 1 else cq_I g (x + o) j := fun o j => by
    rw [mm_sI, mm_IJ]
    by_cases w : o = 40 ∧ j = s
    · rw [if_pos w, if_pos ⟨by omega, w.2⟩]
    · rw [if_neg w, if_neg (fun q => w ⟨by omega, q.2⟩)]
  have gj : ∀ o j, cq_J (cq_sI (cq_sJ g (x + 32) s (nx1 (cq_J g (x + 32) s))) (x + 40) s (cq_I g (x + 40) s + 1)) (x + o) j = if o = 32 ∧ j = s then nx1 (cq_J g (x + 32) s) else cq_J g (x + o) j := fun o j => by
    rw [mm_JI, mm_sJ]
    by_cases w : o = 32 ∧ j = s
    · rw [if_pos w, if_pos ⟨by omega, w.2⟩]
    · rw [if_neg w, if_neg (fun q => w ⟨by omega, q.2⟩)]
  generalize cq_sI (cq_sJ g (x + 32) s (nx1 (cq_J g (x + 32) s))) (x + 40) s (cq_I g (x + 40) s + 1) = g1 at F1 gx go gj
  have Q : CQ x (wrZ x g s) (wrB x g u v s) g1 g' := by
    refine ⟨fun j w1 w2 w3 w4 w5 w6 w7 => by rw [gx]; exact W.x_ j w1 w3 w4 w5 w6 w7, by rw [gx]; exact W.x72, fun o j w1 w2 w3 w4 w5 => ?_, fun o j w1 w2 w3 => ?_, by rw [gx]; exact W.z, fun k k0 k1 => by rw [gx]; exact W.b_ k k0 k1⟩
    · rw [gx] at w4 w5
      rw [go]
      by_cases q : o = 40 ∧ j = s
      · rw [if_pos q, q.1, q.2]
        exact W.i40
      · rw [if_neg q]
        exact W.I_ o j w1 w2 w3 q w4 w5
    · rw [gj]
      by_cases q : o = 32 ∧ j = s
      · rw [if_pos q, q.1, q.2]
        exact W.j32
      · rw [if_neg q]
        exact W.J_ o j w1 w2 w3 q
  have wx : ∀ j, j ≠ 72 → j ≠ 76 → j ≠ 68 → j ≠ 2 → j ≠ 10 → j ≠ 33 → cq_I g' x j = cq_I g x j := W.x_
  have w72 := W.x72
  have w68 := W.x68
  have w65 : ∀ k, cq_I g' (x + 65) k = cq_I g (x + 65) k := fun k => W.I_ 65 k (by decide) (by decide) (by decide) (by omega) (by omega) (by omega)
  clear W
  have FF := fx_more F1 Q zr (by rw [gx]; exact h72) ex (fun a w => w) ft ts ts1 tA tz tI eA' (by rw [gx]; exact lbA) ⟨ex.s F1.fs.s0 (by decide), ex.s F1.fs.s1 (by decide), ex.s F1.fs.s2 (by decide), by rw [eA']; exact F1.fs.a8, by rw [eA']; exact F1.fs.a10, by rw [i2', w72, lc], by rw [eI 3 (by decide) (by decide), wx 73 (by decide) (by decide) (by decide) (by decide) (by decide) (by decide)]; exact fs.cc, by rw [eI 4 (by decide) (by decide), wx 63 (by decide) (by decide) (by decide) (by decide) (by decide) (by decide)]; exact fs.bc, by rw [eI 5 (by decide) (by decide), wx 85 (by decide) (by decide) (by decide) (by decide) (by decide) (by decide)]; exact fs.mc, by rw [eI 6 (by decide) (by decide), wx 84 (by decide) (by decide) (by decide) (by decide) (by decide) (by decide)]; exact fs.oc, by rw [eI 7 (by decide) (by decide), wx 86 (by decide) (by decide) (by decide) (by decide) (by decide) (by decide)]; exact fs.kc, by rw [i9', w68], by rw [eI 11 (by decide) (by decide), wx 75 (by decide) (by decide) (by decide) (by decide) (by decide) (by decide)]; exact fs.rc, fun k k0 k1 => by rw [w68] at k1; omega, fun k k0 k1 => ?_, fun k k0 k1 => by rw [w68] at k1; omega⟩
  · rw [gx] at FF
    exact FF
  · rw [wx 75 (by decide) (by decide) (by decide) (by decide) (by decide) (by decide)] at k1
    have f := F1.fs.rd_ k k0 (by rw [gx]; exact k1)
    rw [go, if_neg (by omega)] at f
    rw [ex.I F1.fs.s2 rfl (fun z => z.elim (ns F1.fs.s2 F1.fs.s0 (by decide)) (ns F1.fs.s2 F1.s1 (by decide))), w65]
    exact f
end
/-! class and reference side by side: write, called -/
section
variable {Y : cx_Y} {K : Option cx_V → cx_Q → Prop} {c x : Nat} {n L Z : Int} {E : Nat → Option Int} {h0 : cx_Q} {h g g' : cx_Q} {pe : Int → Nat} {ro : Int → Int → Nat} {pa lb tp rd en op ob : Nat} {T Lf : Int → Nat}
theorem f_X10_write (hY : cY Y) {u v : Int} (H : CI c n L Z E h0 [] h) (hZ : Z ≤ 700000) (F : FX c x n pe ro pa lb tp rd en op ob T Lf h g) (h63 : cq_I g x 63 < 100) (h4 : ∀ j, 0 ≤ cq_I g (x + 30) j ∧ cq_I g (x + 30) j ≤ 4)
    (hB : ¬ (((0 ≤ u ∧ u < n) ∧ (0 ≤ v ∧ v < n) ∧ u ≠ v) ∧ cq_I g x 68 ≠ 0) → K (some (.inl (-1))) h)
    (hNn : ((0 ≤ u ∧ u < n) ∧ (0 ≤ v ∧ v < n) ∧ u ≠ v) ∧ cq_I g x 68 ≠ 0 → cq_I g (x + 11) u = 0 ∨ cq_I g (x + 11) v = 0 → K (some (.inl (-2))) h)
    (hF : ((0 ≤ u ∧ u < n) ∧ (0 ≤ v ∧ v < n) ∧ u ≠ v) ∧ cq_I g x 68 ≠ 0 → ¬ (cq_I g (x + 11) u = 0 ∨ cq_I g (x + 11) v = 0) → cq_I g x 72 = 80 → K (some (.inl (-3))) h)
    (h10 : ((0 ≤ u ∧ u < n) ∧ (0 ≤ v ∧ v < n) ∧ u ≠ v) ∧ cq_I g x 68 ≠ 0 → ¬ (cq_I g (x + 11) u = 0 ∨ cq_I g (x + 11) v = 0) → cq_I g x 72 ≠ 80 → cq_I g (x + 30) (6 * u + v) = 0 → ¬ m_seal g x v → ∀ h', CI c n L (Z + 3) E h0 [] h' → FX c x n pe ro pa lb tp rd en op ob T Lf h' (m_bn0 g x v) → K (some (.inl (-10))) h')
    (h1 : ((0 ≤ u ∧ u < n) ∧ (0 ≤ v ∧ v < n) ∧ u ≠ v) ∧ cq_I g x 68 ≠ 0 → ¬ (cq_I g (x + 11) u = 0 ∨ cq_I g (x + 11) v = 0) → cq_I g x 72 ≠ 80 → cq_I g (x + 30) (6 * u + v) = 0 → m_seal g x v → ∀ h' T' Lf', CI c n L (Z + 3) E h0 [] h' → (∀ g1 g', eT x (m_begin g x u v) g1 → WR x u v g1 g' → FX c x n pe ro pa lb tp rd en op ob T' Lf' h' g') → K (some (.inl (cq_I g x 72))) h')
    (h2 : ((0 ≤ u ∧ u < n) ∧ (0 ≤ v ∧ v < n) ∧ u ≠ v) ∧ cq_I g x 68 ≠ 0 → ¬ (cq_I g (x + 11) u = 0 ∨ cq_I g (x + 11) v = 0) → cq_I g x 72 ≠ 80 → cq_I g (x + 30) (6 * u + v) ≠ 0 → ∀ h' Lf', CI c n L (Z + 3) E h0 [] h' → (∀ g', WR x u v g g' → FX c x n pe ro pa lb tp rd en op ob T Lf' h' g') → K (some (.inl (cq_I g x 72))) h') : cw Y mi_X10_write K 0 [some (.inr (.inr (some c))), some (.inl u), some (.inl v), none, none] [] h 17 407 := by
  have hc := H.cs
  have tc := F.fs.tc
  have lc := F.fs.lc
  have l80 := F.l80
  have j16 : ¬ (((0 ≤ u ∧ u < n) ∧ (0 ≤ v ∧ v < n) ∧ u ≠ v) ∧ cq_I g x 68 ≠ 0) → ∀ lv bc bs, cw Y mi_X10_write K 16 lv [] h bc bs := by
    intro q lv bc bs
    refine bx_X10_write_16 hY (pf2_ok hY) ?_
    simp only [wp_iconst, wp_bipush, wp_sipush, wp_ldc, wp_ldc2_w, wp_lconst0, wp_lconst1, wp_aconst_null, wp_iload_0, wp_istore_0, wp_iload_1, wp_istore_1, wp_iload_2, wp_istore_2, wp_iload_3, wp_istore_3, wp_iload, wp_istore, wp_lload_0, wp_lstore_0, wp_lload_1, wp_lstore_1, wp_lload_2, wp_lstore_2, wp_lload_3, wp_lstore_3, wp_lload, wp_lstore, wp_aload_0, wp_astore_0, wp_aload_1, wp_astore_1, wp_aload_2, wp_astore_2, wp_aload_3, wp_astore_3, wp_aload, wp_astore, wp_iinc, wp_iadd, wp_isub, wp_imul, wp_iand, wp_ior, wp_ixor, wp_ishl, wp_ishr, wp_iushr, wp_irem, wp_ladd, wp_lsub, wp_lmul, wp_land, wp_lor, wp_lxor, wp_lshl, wp_lshr, wp_lushr, wp_lrem, wp_lcmp, wp_i2l, wp_l2i, wp_dupI, wp_dupA, wp_dup2J, wp_dup2IA, wp_popI, wp_popA, wp_pop2, wp_goto, wp_if_eq, wp_icmp_eq, wp_if_ne, wp_icmp_ne, wp_if_lt, wp_icmp_lt, wp_if_ge, wp_icmp_ge, wp_if_gt, wp_icmp_gt, wp_if_le, wp_icmp_le, wp_ifnull, wp_ifnonnull, wp_acmp_eq, wp_acmp_ne, wp_tableswitch, wp_get0, wp_put0, wp_get1, wp_put1, wp_get2, wp_put2, wp_get3, wp_put3, wp_new, wp_newarray, wp_anewarray, wp_alen, wp_iaload, wp_laload, wp_baload, wp_aaload, wp_iastore, wp_lastore, wp_bastore, wp_aastore, wp_return, wp_ireturnI, wp_ireturnZ, wp_lreturn, wp_areturnO, wp_areturnA, wp_max, wp_min, wp_obj, wp_virt, wp_nil, ld_I0, ld_Is, ld_J0, ld_Js, ld_A0, ld_As, ha_0, ha_s, cx_put1, cx_put2, cx_dl, cx_tgt, true_and, and_true, Nat.reduceAdd, Nat.reduceSub, Int.reduceAdd, Int.reduceNeg, Int.reduceToNat, Int.reduceSub, Int.cast_ofNat_Int, List.take_succ_cons, List.take_zero, List.drop_succ_cons, List.drop_zero, List.take_nil, List.drop_nil, Option.toList_some, Option.toList_none, List.cons_append, List.nil_append, wp_spec, ne_eq, Nat.reduceEqDiff, not_false_eq_true, true_or, or_true]
    exact hB q
  refine bx_X10_write_0 hY (pf2_ok hY) ?_
  simp only [wp_iconst, wp_bipush, wp_sipush, wp_ldc, wp_ldc2_w, wp_lconst0, wp_lconst1, wp_aconst_null, wp_iload_0, wp_istore_0, wp_iload_1, wp_istore_1, wp_iload_2, wp_istore_2, wp_iload_3, wp_istore_3, wp_iload, wp_istore, wp_lload_0, wp_lstore_0, wp_lload_1, wp_lstore_1, wp_lload_2, wp_lstore_2, wp_lload_3, wp_lstore_3, wp_lload, wp_lstore, wp_aload_0, wp_astore_0, wp_aload_1, wp_astore_1, wp_aload_2, wp_astore_2, wp_aload_3, wp_astore_3, wp_aload, wp_astore, wp_iinc, wp_iadd, wp_isub, wp_imul, wp_iand, wp_ior, wp_ixor, wp_ishl, wp_ishr, wp_iushr, wp_irem, wp_ladd, wp_lsub, wp_lmul, wp_land, wp_lor, wp_lxor, wp_lshl, wp_lshr, wp_lushr, wp_lrem, wp_lcmp, wp_i2l, wp_l2i, wp_dupI, wp_dupA, wp_dup2J, wp_dup2IA, wp_popI, wp_popA, wp_pop2, wp_goto, wp_if_eq, wp_icmp_eq, wp_if_ne, wp_icmp_ne, wp_if_lt, wp_icmp_lt, wp_if_ge, wp_icmp_ge, wp_if_gt, wp_icmp_gt, wp_if_le, wp_icmp_le, wp_ifnull, wp_ifnonnull, wp_acmp_eq, wp_acmp_ne, wp_tableswitch, wp_get0, wp_put0, wp_get1, wp_put1, wp_get2, wp_put2, wp_get3, wp_put3, wp_new, wp_newarray, wp_anewarray, wp_alen, wp_iaload, wp_laload, wp_baload, wp_aaload, wp_iastore, wp_lastore, wp_bastore, wp_aastore, wp_return, wp_ireturnI, wp_ireturnZ, wp_lreturn, wp_areturnO, wp_areturnA, wp_max, wp_min, wp_obj, wp_virt, wp_nil, ld_I0, ld_Is, ld_J0, ld_Js, ld_A0, ld_As, ha_0, ha_s, cx_put1, cx_put2, cx_dl, cx_tgt, true_and, and_true, Nat.reduceAdd, Nat.reduceSub, Int.reduceAdd, Int.reduceNeg, Int.reduceToNat, Int.reduceSub, Int.cast_ofNat_Int, List.take_succ_cons, List.take_zero, List.drop_succ_cons, List.drop_zero, List.take_nil, List.drop_nil, Option.toList_some, Option.toList_none, List.cons_append, List.nil_append, wp_spec, ne_eq, Nat.reduceEqDiff, not_false_eq_true, true_or, or_true]
  refine cl_X10_arePair (Nat.le_of_ble_eq_true rfl) hc (by omega) (by omega) (e_X10_arePair hY H (fun q => ?_) (fun hu hv nuv => ?_))
  · refine bx_X10_write_6 hY (pf2_ok hY) ?_
    simp only [wp_iconst, wp_bipush, wp_sipush, wp_ldc, wp_ldc2_w, wp_lconst0, wp_lconst1, wp_aconst_null, wp_iload_0, wp_istore_0, wp_iload_1, wp_istore_1, wp_iload_2, wp_istore_2, wp_iload_3, wp_istore_3, wp_iload, wp_istore, wp_lload_0, wp_lstore_0, wp_lload_1, wp_lstore_1, wp_lload_2, wp_lstore_2, wp_lload_3, wp_lstore_3, wp_lload, wp_lstore, wp_aload_0, wp_astore_0, wp_aload_1, wp_astore_1, wp_aload_2, wp_astore_2, wp_aload_3, wp_astore_3, wp_aload, wp_astore, wp_iinc, wp_iadd, wp_isub, wp_imul, wp_iand, wp_ior, wp_ixor, wp_ishl, wp_ishr, wp_iushr, wp_irem, wp_ladd, wp_lsub, wp_lmul, wp_land, wp_lor, wp_lxor, wp_lshl, wp_lshr, wp_lushr, wp_lrem, wp_lcmp, wp_i2l, wp_l2i, wp_dupI, wp_dupA, wp_dup2J, wp_dup2IA, wp_popI, wp_popA, wp_pop2, wp_goto, wp_if_eq, wp_icmp_eq, wp_if_ne, wp_icmp_ne, wp_if_lt, wp_icmp_lt, wp_if_ge, wp_icmp_ge, wp_if_gt, wp_icmp_gt, wp_if_le, wp_icmp_le, wp_ifnull, wp_ifnonnull, wp_acmp_eq, wp_acmp_ne, wp_tableswitch, wp_get0, wp_put0, wp_get1, wp_put1, wp_get2, wp_put2, wp_get3, wp_put3, wp_new, wp_newarray, wp_anewarray, wp_alen, wp_iaload, wp_laload, wp_baload, wp_aaload, wp_iastore, wp_lastore, wp_bastore, wp_aastore, wp_return, wp_ireturnI, wp_ireturnZ, wp_lreturn, wp_areturnO, wp_areturnA, wp_max, wp_min, wp_obj, wp_virt, wp_nil, ld_I0, ld_Is, ld_J0, ld_Js, ld_A0, ld_As, ha_0, ha_s, cx_put1, cx_put2, cx_dl, cx_tgt, true_and, and_true, Nat.reduceAdd, Nat.reduceSub, Int.reduceAdd, Int.reduceNeg, Int.reduceToNat, Int.reduceSub, Int.cast_ofNat_Int, List.take_succ_cons, List.take_zero, List.drop_succ_cons, List.drop_zero, List.take_nil, List.drop_nil, Option.toList_some, Option.toList_none, List.cons_append, List.nil_append, wp_spec, ne_eq, Nat.reduceEqDiff, not_false_eq_true, true_or, or_true, Nat.left_eq_add, Nat.add_eq_left, Nat.add_left_cancel_iff, Nat.reduceEqDiff, Int.reduceEq, false_and, and_false, if_false, if_true, and_self, true_and, true_or, or_true, false_or, or_false, hc]
    exact ⟨fun _ => j16 (fun w => q w.1) _ _ _, fun w => absurd trivial w⟩
  refine bx_X10_write_6 hY (pf2_ok hY) ?_
  simp only [wp_iconst, wp_bipush, wp_sipush, wp_ldc, wp_ldc2_w, wp_lconst0, wp_lconst1, wp_aconst_null, wp_iload_0, wp_istore_0, wp_iload_1, wp_istore_1, wp_iload_2, wp_istore_2, wp_iload_3, wp_istore_3, wp_iload, wp_istore, wp_lload_0, wp_lstore_0, wp_lload_1, wp_lstore_1, wp_lload_2, wp_lstore_2, wp_lload_3, wp_lstore_3, wp_lload, wp_lstore, wp_aload_0, wp_astore_0, wp_aload_1, wp_astore_1, wp_aload_2, wp_astore_2, wp_aload_3, wp_astore_3, wp_aload, wp_astore, wp_iinc, wp_iadd, wp_isub, wp_imul, wp_iand, wp_ior, wp_ixor, wp_ishl, wp_ishr, wp_iushr, wp_irem, wp_ladd, wp_lsub, wp_lmul, wp_land, wp_lor, wp_lxor, wp_lshl, wp_lshr, wp_lushr, wp_lrem, wp_lcmp, wp_i2l, wp_l2i, wp_dupI, wp_dupA, wp_dup2J, wp_dup2IA, wp_popI, wp_popA, wp_pop2, wp_goto, wp_if_eq, wp_icmp_eq, wp_if_ne, wp_icmp_ne, wp_if_lt, wp_icmp_lt, wp_if_ge, wp_icmp_ge, wp_if_gt, wp_icmp_gt, wp_if_le, wp_icmp_le, wp_ifnull, wp_ifnonnull, wp_acmp_eq, wp_acmp_ne, wp_tableswitch, wp_get0, wp_put0, wp_get1, wp_put1, wp_get2, wp_put2, wp_get3, wp_put3, wp_new, wp_newarray, wp_anewarray, wp_alen, wp_iaload, wp_laload, wp_baload, wp_aaload, wp_iastore, wp_lastore, wp_bastore, wp_aastore, wp_return, wp_ireturnI, wp_ireturnZ, wp_lreturn, wp_areturnO, wp_areturnA, wp_max, wp_min, wp_obj, wp_virt, wp_nil, ld_I0, ld_Is, ld_J0, ld_Js, ld_A0, ld_As, ha_0, ha_s, cx_put1, cx_put2, cx_dl, cx_tgt, true_and, and_true, Nat.reduceAdd, Nat.reduceSub, Int.reduceAdd, Int.reduceNeg, Int.reduceToNat, Int.reduceSub, Int.cast_ofNat_Int, List.take_succ_cons, List.take_zero, List.drop_succ_cons, List.drop_zero, List.take_nil, List.drop_nil, Option.toList_some, Option.toList_none, List.cons_append, List.nil_append, wp_spec, ne_eq, Nat.reduceEqDiff, not_false_eq_true, true_or, or_true, Nat.left_eq_add, Nat.add_eq_left, Nat.add_left_cancel_iff, Nat.reduceEqDiff, Int.reduceEq, false_and, and_false, if_false, if_true, and_self, true_and, true_or, or_true, false_or, or_false, hc]
  refine ⟨fun w => absurd w (by decide), fun _ => ⟨fun q68 => ?_, fun q => j16 (fun w => w.2 (by omega)) _ _ _⟩⟩
  have ok : ((0 ≤ u ∧ u < n) ∧ (0 ≤ v ∧ v < n) ∧ u ≠ v) ∧ cq_I g x 68 ≠ 0 := ⟨⟨hu, hv, nuv⟩, by omega⟩
  have j42 : (cq_I g (x + 11) u = 0 ∨ cq_I g (x + 11) v = 0) → ∀ lv bc bs, cw Y mi_X10_write K 42 lv [] h bc bs := by
    intro q lv bc bs
    refine bx_X10_write_42 hY (pf2_ok hY) ?_
    simp only [wp_iconst, wp_bipush, wp_sipush, wp_ldc, wp_ldc2_w, wp_lconst0, wp_lconst1, wp_aconst_null, wp_iload_0, wp_istore_0, wp_iload_1, wp_istore_1, wp_iload_2, wp_istore_2, wp_iload_3, wp_istore_3, wp_iload, wp_istore, wp_lload_0, wp_lstore_0, wp_lload_1, wp_lstore_1, wp_lload_2, wp_lstore_2, wp_lload_3, wp_lstore_3, wp_lload, wp_lstore, wp_aload_0, wp_astore_0, wp_aload_1, wp_astore_1, wp_aload_2, wp_astore_2, wp_aload_3, wp_astore_3, wp_aload, wp_astore, wp_iinc, wp_iadd, wp_isub, wp_imul, wp_iand, wp_ior, wp_ixor, wp_ishl, wp_ishr, wp_iushr, wp_irem, wp_ladd, wp_lsub, wp_lmul, wp_land, wp_lor, wp_lxor, wp_lshl, wp_lshr, wp_lushr, wp_lrem, wp_lcmp, wp_i2l, wp_l2i, wp_dupI, wp_dupA, wp_dup2J, wp_dup2IA, wp_popI, wp_popA, wp_pop2, wp_goto, wp_if_eq, wp_icmp_eq, wp_if_ne, wp_icmp_ne, wp_if_lt, wp_icmp_lt, wp_if_ge, wp_icmp_ge, wp_if_gt, wp_icmp_gt, wp_if_le, wp_icmp_le, wp_ifnull, wp_ifnonnull, wp_acmp_eq, wp_acmp_ne, wp_tableswitch, wp_get0, wp_put0, wp_get1, wp_put1, wp_get2, wp_put2, wp_get3, wp_put3, wp_new, wp_newarray, wp_anewarray, wp_alen, wp_iaload, wp_laload, wp_baload, wp_aaload, wp_iastore, wp_lastore, wp_bastore, wp_aastore, wp_return, wp_ireturnI, wp_ireturnZ, wp_lreturn, wp_areturnO, wp_areturnA, wp_max, wp_min, wp_obj, wp_virt, wp_nil, ld_I0, ld_Is, ld_J0, ld_Js, ld_A0, ld_As, ha_0, ha_s, cx_put1, cx_put2, cx_dl, cx_tgt, true_and, and_true, Nat.reduceAdd, Nat.reduceSub, Int.reduceAdd, Int.reduceNeg, Int.reduceToNat, Int.reduceSub, Int.cast_ofNat_Int, List.take_succ_cons, List.take_zero, List.drop_succ_cons, List.drop_zero, List.take_nil, List.drop_nil, Option.toList_some, Option.toList_none, List.cons_append, List.nil_append, wp_spec, ne_eq, Nat.reduceEqDiff, not_false_eq_true, true_or, or_true]
    exact hNn ok q
  have sp := (F.fu u hu.1 hu.2).s0
  have sq := (F.fu v hv.1 hv.2).s0
  have ep := F.a0
  have spa := F.s0
  have zpa : cq_z h pa = n := H.tz spa
  have e := F.pa_ u hu.1 hu.2
  have e' := F.pa_ v hv.1 hv.2
  have r13 := F.r13 u hu.1 hu.2
  have zr : cq_z h (pe u + 6) = n := H.tz r13.2
  have era := F.ra u v hu.1 hu.2 hv.1 hv.2
  have fo := F.fo u v hu.1 hu.2 hv.1 hv.2
  refine bx_X10_write_18 hY (pf2_ok hY) ?_
  simp only [wp_iconst, wp_bipush, wp_sipush, wp_ldc, wp_ldc2_w, wp_lconst0, wp_lconst1, wp_aconst_null, wp_iload_0, wp_istore_0, wp_iload_1, wp_istore_1, wp_iload_2, wp_istore_2, wp_iload_3, wp_istore_3, wp_iload, wp_istore, wp_lload_0, wp_lstore_0, wp_lload_1, wp_lstore_1, wp_lload_2, wp_lstore_2, wp_lload_3, wp_lstore_3, wp_lload, wp_lstore, wp_aload_0, wp_astore_0, wp_aload_1, wp_astore_1, wp_aload_2, wp_astore_2, wp_aload_3, wp_astore_3, wp_aload, wp_astore, wp_iinc, wp_iadd, wp_isub, wp_imul, wp_iand, wp_ior, wp_ixor, wp_ishl, wp_ishr, wp_iushr, wp_irem, wp_ladd, wp_lsub, wp_lmul, wp_land, wp_lor, wp_lxor, wp_lshl, wp_lshr, wp_lushr, wp_lrem, wp_lcmp, wp_i2l, wp_l2i, wp_dupI, wp_dupA, wp_dup2J, wp_dup2IA, wp_popI, wp_popA, wp_pop2, wp_goto, wp_if_eq, wp_icmp_eq, wp_if_ne, wp_icmp_ne, wp_if_lt, wp_icmp_lt, wp_if_ge, wp_icmp_ge, wp_if_gt, wp_icmp_gt, wp_if_le, wp_icmp_le, wp_ifnull, wp_ifnonnull, wp_acmp_eq, wp_acmp_ne, wp_tableswitch, wp_get0, wp_put0, wp_get1, wp_put1, wp_get2, wp_put2, wp_get3, wp_put3, wp_new, wp_newarray, wp_anewarray, wp_alen, wp_iaload, wp_laload, wp_baload, wp_aaload, wp_iastore, wp_lastore, wp_bastore, wp_aastore, wp_return, wp_ireturnI, wp_ireturnZ, wp_lreturn, wp_areturnO, wp_areturnA, wp_max, wp_min, wp_obj, wp_virt, wp_nil, ld_I0, ld_Is, ld_J0, ld_Js, ld_A0, ld_As, ha_0, ha_s, cx_put1, cx_put2, cx_dl, cx_tgt, true_and, and_true, Nat.reduceAdd, Nat.reduceSub, Int.reduceAdd, Int.reduceNeg, Int.reduceToNat, Int.reduceSub, Int.cast_ofNat_Int, List.take_succ_cons, List.take_zero, List.drop_succ_cons, List.drop_zero, List.take_nil, List.drop_nil, Option.toList_some, Option.toList_none, List.cons_append, List.nil_append, wp_spec, ne_eq, Nat.reduceEqDiff, not_false_eq_true, true_or, or_true, hc, ep, spa, zpa, e, ra_105]
  refine ⟨by omega, ?_⟩
  refine cl_X5_isRegistered (Nat.le_of_ble_eq_true rfl) sp (by omega) (by omega) (c_X5_isRegistered hY H sp (fun z => ?_) (fun ku eU => ?_))
  · refine bx_X10_write_27 hY (pf2_ok hY) ?_
    simp only [wp_iconst, wp_bipush, wp_sipush, wp_ldc, wp_ldc2_w, wp_lconst0, wp_lconst1, wp_aconst_null, wp_iload_0, wp_istore_0, wp_iload_1, wp_istore_1, wp_iload_2, wp_istore_2, wp_iload_3, wp_istore_3, wp_iload, wp_istore, wp_lload_0, wp_lstore_0, wp_lload_1, wp_lstore_1, wp_lload_2, wp_lstore_2, wp_lload_3, wp_lstore_3, wp_lload, wp_lstore, wp_aload_0, wp_astore_0, wp_aload_1, wp_astore_1, wp_aload_2, wp_astore_2, wp_aload_3, wp_astore_3, wp_aload, wp_astore, wp_iinc, wp_iadd, wp_isub, wp_imul, wp_iand, wp_ior, wp_ixor, wp_ishl, wp_ishr, wp_iushr, wp_irem, wp_ladd, wp_lsub, wp_lmul, wp_land, wp_lor, wp_lxor, wp_lshl, wp_lshr, wp_lushr, wp_lrem, wp_lcmp, wp_i2l, wp_l2i, wp_dupI, wp_dupA, wp_dup2J, wp_dup2IA, wp_popI, wp_popA, wp_pop2, wp_goto, wp_if_eq, wp_icmp_eq, wp_if_ne, wp_icmp_ne, wp_if_lt, wp_icmp_lt, wp_if_ge, wp_icmp_ge, wp_if_gt, wp_icmp_gt, wp_if_le, wp_icmp_le, wp_ifnull, wp_ifnonnull, wp_acmp_eq, wp_acmp_ne, wp_tableswitch, wp_get0, wp_put0, wp_get1, wp_put1, wp_get2, wp_put2, wp_get3, wp_put3, wp_new, wp_newarray, wp_anewarray, wp_alen, wp_iaload, wp_laload, wp_baload, wp_aaload, wp_iastore, wp_lastore, wp_bastore, wp_aastore, wp_return, wp_ireturnI, wp_ireturnZ, wp_lreturn, wp_areturnO, wp_areturnA, wp_max, wp_min, wp_obj, wp_virt, wp_nil, ld_I0, ld_Is, ld_J0, ld_Js, ld_A0, ld_As, ha_0, ha_s, cx_put1, cx_put2, cx_dl, cx_tgt, true_and, and_true, Nat.reduceAdd, Nat.reduceSub, Int.reduceAdd, Int.reduceNeg, Int.reduceToNat, Int.reduceSub, Int.cast_ofNat_Int, List.take_succ_cons, List.take_zero, List.drop_succ_cons, List.drop_zero, List.take_nil, List.drop_nil, Option.toList_some, Option.toList_none, List.cons_append, List.nil_append, wp_spec, ne_eq, Nat.reduceEqDiff, not_false_eq_true, true_or, or_true, Nat.left_eq_add, Nat.add_eq_left, Nat.add_left_cancel_iff, Nat.reduceEqDiff, Int.reduceEq, false_and, and_false, if_false, if_true, and_self, true_and, true_or, or_true, false_or, or_false, hc, ep, spa, zpa, e', ra_105]
    exact ⟨fun _ => j42 (Or.inl ((F.reg H hu).mp z)) _ _ _, fun w => absurd trivial w⟩
  have iu : cq_I g (x + 11) u ≠ 0 := fun z => by
    have := (F.reg H hu).mpr z
    rw [eU] at this
    cases this
  refine bx_X10_write_27 hY (pf2_ok hY) ?_
  simp only [wp_iconst, wp_bipush, wp_sipush, wp_ldc, wp_ldc2_w, wp_lconst0, wp_lconst1, wp_aconst_null, wp_iload_0, wp_istore_0, wp_iload_1, wp_istore_1, wp_iload_2, wp_istore_2, wp_iload_3, wp_istore_3, wp_iload, wp_istore, wp_lload_0, wp_lstore_0, wp_lload_1, wp_lstore_1, wp_lload_2, wp_lstore_2, wp_lload_3, wp_lstore_3, wp_lload, wp_lstore, wp_aload_0, wp_astore_0, wp_aload_1, wp_astore_1, wp_aload_2, wp_astore_2, wp_aload_3, wp_astore_3, wp_aload, wp_astore, wp_iinc, wp_iadd, wp_isub, wp_imul, wp_iand, wp_ior, wp_ixor, wp_ishl, wp_ishr, wp_iushr, wp_irem, wp_ladd, wp_lsub, wp_lmul, wp_land, wp_lor, wp_lxor, wp_lshl, wp_lshr, wp_lushr, wp_lrem, wp_lcmp, wp_i2l, wp_l2i, wp_dupI, wp_dupA, wp_dup2J, wp_dup2IA, wp_popI, wp_popA, wp_pop2, wp_goto, wp_if_eq, wp_icmp_eq, wp_if_ne, wp_icmp_ne, wp_if_lt, wp_icmp_lt, wp_if_ge, wp_icmp_ge, wp_if_gt, wp_icmp_gt, wp_if_le, wp_icmp_le, wp_ifnull, wp_ifnonnull, wp_acmp_eq, wp_acmp_ne, wp_tableswitch, wp_get0, wp_put0, wp_get1, wp_put1, wp_get2, wp_put2, wp_get3, wp_put3, wp_new, wp_newarray, wp_anewarray, wp_alen, wp_iaload, wp_laload, wp_baload, wp_aaload, wp_iastore, wp_lastore, wp_bastore, wp_aastore, wp_return, wp_ireturnI, wp_ireturnZ, wp_lreturn, wp_areturnO, wp_areturnA, wp_max, wp_min, wp_obj, wp_virt, wp_nil, ld_I0, ld_Is, ld_J0, ld_Js, ld_A0, ld_As, ha_0, ha_s, cx_put1, cx_put2, cx_dl, cx_tgt, true_and, and_true, Nat.reduceAdd, Nat.reduceSub, Int.reduceAdd, Int.reduceNeg, Int.reduceToNat, Int.reduceSub, Int.cast_ofNat_Int, List.take_succ_cons, List.take_zero, List.drop_succ_cons, List.drop_zero, List.take_nil, List.drop_nil, Option.toList_some, Option.toList_none, List.cons_append, List.nil_append, wp_spec, ne_eq, Nat.reduceEqDiff, not_false_eq_true, true_or, or_true, Nat.left_eq_add, Nat.add_eq_left, Nat.add_left_cancel_iff, Nat.reduceEqDiff, Int.reduceEq, false_and, and_false, if_false, if_true, and_self, true_and, true_or, or_true, false_or, or_false, hc, ep, spa, zpa, e', ra_105]
  refine ⟨fun w => absurd w (by decide), fun _ => ⟨by omega, ?_⟩⟩
  refine cl_X5_isRegistered (Nat.le_of_ble_eq_true rfl) sq (by omega) (by omega) (c_X5_isRegistered hY H sq (fun z => ?_) (fun kv eV => ?_))
  · refine bx_X10_write_39 hY (pf2_ok hY) ?_
    simp only [wp_iconst, wp_bipush, wp_sipush, wp_ldc, wp_ldc2_w, wp_lconst0, wp_lconst1, wp_aconst_null, wp_iload_0, wp_istore_0, wp_iload_1, wp_istore_1, wp_iload_2, wp_istore_2, wp_iload_3, wp_istore_3, wp_iload, wp_istore, wp_lload_0, wp_lstore_0, wp_lload_1, wp_lstore_1, wp_lload_2, wp_lstore_2, wp_lload_3, wp_lstore_3, wp_lload, wp_lstore, wp_aload_0, wp_astore_0, wp_aload_1, wp_astore_1, wp_aload_2, wp_astore_2, wp_aload_3, wp_astore_3, wp_aload, wp_astore, wp_iinc, wp_iadd, wp_isub, wp_imul, wp_iand, wp_ior, wp_ixor, wp_ishl, wp_ishr, wp_iushr, wp_irem, wp_ladd, wp_lsub, wp_lmul, wp_land, wp_lor, wp_lxor, wp_lshl, wp_lshr, wp_lushr, wp_lrem, wp_lcmp, wp_i2l, wp_l2i, wp_dupI, wp_dupA, wp_dup2J, wp_dup2IA, wp_popI, wp_popA, wp_pop2, wp_goto, wp_if_eq, wp_icmp_eq, wp_if_ne, wp_icmp_ne, wp_if_lt, wp_icmp_lt, wp_if_ge, wp_icmp_ge, wp_if_gt, wp_icmp_gt, wp_if_le, wp_icmp_le, wp_ifnull, wp_ifnonnull, wp_acmp_eq, wp_acmp_ne, wp_tableswitch, wp_get0, wp_put0, wp_get1, wp_put1, wp_get2, wp_put2, wp_get3, wp_put3, wp_new, wp_newarray, wp_anewarray, wp_alen, wp_iaload, wp_laload, wp_baload, wp_aaload, wp_iastore, wp_lastore, wp_bastore, wp_aastore, wp_return, wp_ireturnI, wp_ireturnZ, wp_lreturn, wp_areturnO, wp_areturnA, wp_max, wp_min, wp_obj, wp_virt, wp_nil, ld_I0, ld_Is, ld_J0, ld_Js, ld_A0, ld_As, ha_0, ha_s, cx_put1, cx_put2, cx_dl, cx_tgt, true_and, and_true, Nat.reduceAdd, Nat.reduceSub, Int.reduceAdd, Int.reduceNeg, Int.reduceToNat, Int.reduceSub, Int.cast_ofNat_Int, List.take_succ_cons, List.take_zero, List.drop_succ_cons, List.drop_zero, List.take_nil, List.drop_nil, Option.toList_some, Option.toList_none, List.cons_append, List.nil_append, wp_spec, ne_eq, Nat.reduceEqDiff, not_false_eq_true, true_or, or_true, Nat.left_eq_add, Nat.add_eq_left, Nat.add_left_cancel_iff, Nat.reduceEqDiff, Int.reduceEq, false_and, and_false, if_false, if_true, and_self, true_and, true_or, or_true, false_or, or_false]
    exact ⟨fun w => absurd trivial w, fun _ => j42 (Or.inr ((F.reg H hv).mp z)) _ _ _⟩
  have iv : cq_I g (x + 11) v ≠ 0 := fun z => by
    have := (F.reg H hv).mpr z
    rw [eV] at this
    cases this
  have no : ¬ (cq_I g (x + 11) u = 0 ∨ cq_I g (x + 11) v = 0) := fun z => z.elim iu iv
  refine bx_X10_write_39 hY (pf2_ok hY) ?_
  simp only [wp_iconst, wp_bipush, wp_sipush, wp_ldc, wp_ldc2_w, wp_lconst0, wp_lconst1, wp_aconst_null, wp_iload_0, wp_istore_0, wp_iload_1, wp_istore_1, wp_iload_2, wp_istore_2, wp_iload_3, wp_istore_3, wp_iload, wp_istore, wp_lload_0, wp_lstore_0, wp_lload_1, wp_lstore_1, wp_lload_2, wp_lstore_2, wp_lload_3, wp_lstore_3, wp_lload, wp_lstore, wp_aload_0, wp_astore_0, wp_aload_1, wp_astore_1, wp_aload_2, wp_astore_2, wp_aload_3, wp_astore_3, wp_aload, wp_astore, wp_iinc, wp_iadd, wp_isub, wp_imul, wp_iand, wp_ior, wp_ixor, wp_ishl, wp_ishr, wp_iushr, wp_irem, wp_ladd, wp_lsub, wp_lmul, wp_land, wp_lor, wp_lxor, wp_lshl, wp_lshr, wp_lushr, wp_lrem, wp_lcmp, wp_i2l, wp_l2i, wp_dupI, wp_dupA, wp_dup2J, wp_dup2IA, wp_popI, wp_popA, wp_pop2, wp_goto, wp_if_eq, wp_icmp_eq, wp_if_ne, wp_icmp_ne, wp_if_lt, wp_icmp_lt, wp_if_ge, wp_icmp_ge, wp_if_gt, wp_icmp_gt, wp_if_le, wp_icmp_le, wp_ifnull, wp_ifnonnull, wp_acmp_eq, wp_acmp_ne, wp_tableswitch, wp_get0, wp_put0, wp_get1, wp_put1, wp_get2, wp_put2, wp_get3, wp_put3, wp_new, wp_newarray, wp_anewarray, wp_alen, wp_iaload, wp_laload, wp_baload, wp_aaload, wp_iastore, wp_lastore, wp_bastore, wp_aastore, wp_return, wp_ireturnI, wp_ireturnZ, wp_lreturn, wp_areturnO, wp_areturnA, wp_max, wp_min, wp_obj, wp_virt, wp_nil, ld_I0, ld_Is, ld_J0, ld_Js, ld_A0, ld_As, ha_0, ha_s, cx_put1, cx_put2, cx_dl, cx_tgt, true_and, and_true, Nat.reduceAdd, Nat.reduceSub, Int.reduceAdd, Int.reduceNeg, Int.reduceToNat, Int.reduceSub, Int.cast_ofNat_Int, List.take_succ_cons, List.take_zero, List.drop_succ_cons, List.drop_zero, List.take_nil, List.drop_nil, Option.toList_some, Option.toList_none, List.cons_append, List.nil_append, wp_spec, ne_eq, Nat.reduceEqDiff, not_false_eq_true, true_or, or_true, Nat.left_eq_add, Nat.add_eq_left, Nat.add_left_cancel_iff, Nat.reduceEqDiff, Int.reduceEq, false_and, and_false, if_false, if_true, and_self, true_and, true_or, or_true, false_or, or_false]
  refine ⟨fun _ => ?_, fun w => absurd (by decide) w⟩
  refine bx_X10_write_45 hY (pf2_ok hY) ?_
  simp only [wp_iconst, wp_bipush, wp_sipush, wp_ldc, wp_ldc2_w, wp_lconst0, wp_lconst1, wp_aconst_null, wp_iload_0, wp_istore_0, wp_iload_1, wp_istore_1, wp_iload_2, wp_istore_2, wp_iload_3, wp_istore_3, wp_iload, wp_istore, wp_lload_0, wp_lstore_0, wp_lload_1, wp_lstore_1, wp_lload_2, wp_lstore_2, wp_lload_3, wp_lstore_3, wp_lload, wp_lstore, wp_aload_0, wp_astore_0, wp_aload_1, wp_astore_1, wp_aload_2, wp_astore_2, wp_aload_3, wp_astore_3, wp_aload, wp_astore, wp_iinc, wp_iadd, wp_isub, wp_imul, wp_iand, wp_ior, wp_ixor, wp_ishl, wp_ishr, wp_iushr, wp_irem, wp_ladd, wp_lsub, wp_lmul, wp_land, wp_lor, wp_lxor, wp_lshl, wp_lshr, wp_lushr, wp_lrem, wp_lcmp, wp_i2l, wp_l2i, wp_dupI, wp_dupA, wp_dup2J, wp_dup2IA, wp_popI, wp_popA, wp_pop2, wp_goto, wp_if_eq, wp_icmp_eq, wp_if_ne, wp_icmp_ne, wp_if_lt, wp_icmp_lt, wp_if_ge, wp_icmp_ge, wp_if_gt, wp_icmp_gt, wp_if_le, wp_icmp_le, wp_ifnull, wp_ifnonnull, wp_acmp_eq, wp_acmp_ne, wp_tableswitch, wp_get0, wp_put0, wp_get1, wp_put1, wp_get2, wp_put2, wp_get3, wp_put3, wp_new, wp_newarray, wp_anewarray, wp_alen, wp_iaload, wp_laload, wp_baload, wp_aaload, wp_iastore, wp_lastore, wp_bastore, wp_aastore, wp_return, wp_ireturnI, wp_ireturnZ, wp_lreturn, wp_areturnO, wp_areturnA, wp_max, wp_min, wp_obj, wp_virt, wp_nil, ld_I0, ld_Is, ld_J0, ld_Js, ld_A0, ld_As, ha_0, ha_s, cx_put1, cx_put2, cx_dl, cx_tgt, true_and, and_true, Nat.reduceAdd, Nat.reduceSub, Int.reduceAdd, Int.reduceNeg, Int.reduceToNat, Int.reduceSub, Int.cast_ofNat_Int, List.take_succ_cons, List.take_zero, List.drop_succ_cons, List.drop_zero, List.take_nil, List.drop_nil, Option.toList_some, Option.toList_none, List.cons_append, List.nil_append, wp_spec, ne_eq, Nat.reduceEqDiff, not_false_eq_true, true_or, or_true, hc]
  refine ⟨fun h80 => ?_, fun q => hF ok no (by omega)⟩
  have h72 : cq_I g x 72 < 80 := by omega
  have n72 : cq_I g x 72 ≠ 80 := by omega
  have rm := fo.rm
  have r4 := fo.r4
  refine bx_X10_write_57 hY (pf2_ok hY) ?_
  simp only [wp_iconst, wp_bipush, wp_sipush, wp_ldc, wp_ldc2_w, wp_lconst0, wp_lconst1, wp_aconst_null, wp_iload_0, wp_istore_0, wp_iload_1, wp_istore_1, wp_iload_2, wp_istore_2, wp_iload_3, wp_istore_3, wp_iload, wp_istore, wp_lload_0, wp_lstore_0, wp_lload_1, wp_lstore_1, wp_lload_2, wp_lstore_2, wp_lload_3, wp_lstore_3, wp_lload, wp_lstore, wp_aload_0, wp_astore_0, wp_aload_1, wp_astore_1, wp_aload_2, wp_astore_2, wp_aload_3, wp_astore_3, wp_aload, wp_astore, wp_iinc, wp_iadd, wp_isub, wp_imul, wp_iand, wp_ior, wp_ixor, wp_ishl, wp_ishr, wp_iushr, wp_irem, wp_ladd, wp_lsub, wp_lmul, wp_land, wp_lor, wp_lxor, wp_lshl, wp_lshr, wp_lushr, wp_lrem, wp_lcmp, wp_i2l, wp_l2i, wp_dupI, wp_dupA, wp_dup2J, wp_dup2IA, wp_popI, wp_popA, wp_pop2, wp_goto, wp_if_eq, wp_icmp_eq, wp_if_ne, wp_icmp_ne, wp_if_lt, wp_icmp_lt, wp_if_ge, wp_icmp_ge, wp_if_gt, wp_icmp_gt, wp_if_le, wp_icmp_le, wp_ifnull, wp_ifnonnull, wp_acmp_eq, wp_acmp_ne, wp_tableswitch, wp_get0, wp_put0, wp_get1, wp_put1, wp_get2, wp_put2, wp_get3, wp_put3, wp_new, wp_newarray, wp_anewarray, wp_alen, wp_iaload, wp_laload, wp_baload, wp_aaload, wp_iastore, wp_lastore, wp_bastore, wp_aastore, wp_return, wp_ireturnI, wp_ireturnZ, wp_lreturn, wp_areturnO, wp_areturnA, wp_max, wp_min, wp_obj, wp_virt, wp_nil, ld_I0, ld_Is, ld_J0, ld_Js, ld_A0, ld_As, ha_0, ha_s, cx_put1, cx_put2, cx_dl, cx_tgt, true_and, and_true, Nat.reduceAdd, Nat.reduceSub, Int.reduceAdd, Int.reduceNeg, Int.reduceToNat, Int.reduceSub, Int.cast_ofNat_Int, List.take_succ_cons, List.take_zero, List.drop_succ_cons, List.drop_zero, List.take_nil, List.drop_nil, Option.toList_some, Option.toList_none, List.cons_append, List.nil_append, wp_spec, ne_eq, Nat.reduceEqDiff, not_false_eq_true, true_or, or_true, hc, ep, spa, zpa, e, sp, r13.1, r13.2, zr, era, fo.s0, ra_105, ra_181]
  refine ⟨by omega, by omega, fun q => ?_, fun q => ?_⟩
  · exact cw_room (by omega) (by omega) (f_write93 hY H (by omega) F hu hv iu (by omega) h72 (fun h' Lf' G W => h2 ok no n72 (by omega) h' Lf' (G.up (by omega)) W))
  · have z30 : cq_I g (x + 30) (6 * u + v) = 0 := by omega
    refine cl_X10_beginSession (Nat.le_of_ble_eq_true rfl) hc (by omega) (by omega) (f_X10_beginSession hY H (by omega) F hu hv iu iv h63 (fun z m G F2 => ?_) (fun z m T' G F2 => ?_))
    · refine bx_X10_write_82 hY (pf2_ok hY) ?_
      simp only [wp_iconst, wp_bipush, wp_sipush, wp_ldc, wp_ldc2_w, wp_lconst0, wp_lconst1, wp_aconst_null, wp_iload_0, wp_istore_0, wp_iload_1, wp_istore_1, wp_iload_2, wp_istore_2, wp_iload_3, wp_istore_3, wp_iload, wp_istore, wp_lload_0, wp_lstore_0, wp_lload_1, wp_lstore_1, wp_lload_2, wp_lstore_2, wp_lload_3, wp_lstore_3, wp_lload, wp_lstore, wp_aload_0, wp_astore_0, wp_aload_1, wp_astore_1, wp_aload_2, wp_astore_2, wp_aload_3, wp_astore_3, wp_aload, wp_astore, wp_iinc, wp_iadd, wp_isub, wp_imul, wp_iand, wp_ior, wp_ixor, wp_ishl, wp_ishr, wp_iushr, wp_irem, wp_ladd, wp_lsub, wp_lmul, wp_land, wp_lor, wp_lxor, wp_lshl, wp_lshr, wp_lushr, wp_lrem, wp_lcmp, wp_i2l, wp_l2i, wp_dupI, wp_dupA, wp_dup2J, wp_dup2IA, wp_popI, wp_popA, wp_pop2, wp_goto, wp_if_eq, wp_icmp_eq, wp_if_ne, wp_icmp_ne, wp_if_lt, wp_icmp_lt, wp_if_ge, wp_icmp_ge, wp_if_gt, wp_icmp_gt, wp_if_le, wp_icmp_le, wp_ifnull, wp_ifnonnull, wp_acmp_eq, wp_acmp_ne, wp_tableswitch, wp_get0, wp_put0, wp_get1, wp_put1, wp_get2, wp_put2, wp_get3, wp_put3, wp_new, wp_newarray, wp_anewarray, wp_alen, wp_iaload, wp_laload, wp_baload, wp_aaload, wp_iastore, wp_lastore, wp_bastore, wp_aastore, wp_return, wp_ireturnI, wp_ireturnZ, wp_lreturn, wp_areturnO, wp_areturnA, wp_max, wp_min, wp_obj, wp_virt, wp_nil, ld_I0, ld_Is, ld_J0, ld_Js, ld_A0, ld_As, ha_0, ha_s, cx_put1, cx_put2, cx_dl, cx_tgt, true_and, and_true, Nat.reduceAdd, Nat.reduceSub, Int.reduceAdd, Int.reduceNeg, Int.reduceToNat, Int.reduceSub, Int.cast_ofNat_Int, List.take_succ_cons, List.take_zero, List.drop_succ_cons, List.drop_zero, List.take_nil, List.drop_nil, Option.toList_some, Option.toList_none, List.cons_append, List.nil_append, wp_spec, ne_eq, Nat.reduceEqDiff, not_false_eq_true, true_or, or_true]
      exact ⟨fun q => absurd q (by decide), fun _ => h10 ok no n72 z30 z m (G.up (by omega)) F2⟩
    · have br := begin_r (x := x) (h := g) (u := u) (v := v) h4
      have b72 : cq_I (m_begin g x u v) x 72 = cq_I g x 72 := begin_x (by decide)
      have b11 := br.1 11 u (by decide) (by decide) (by decide) (by decide) (by decide) (by omega)
      have b30 := br.2
      have hK := h1 ok no n72 z30 z
      clear br
      generalize m_begin g x u v = gb at F2 b72 b11 b30 hK
      refine bx_X10_write_82 hY (pf2_ok hY) ?_
      simp only [wp_iconst, wp_bipush, wp_sipush, wp_ldc, wp_ldc2_w, wp_lconst0, wp_lconst1, wp_aconst_null, wp_iload_0, wp_istore_0, wp_iload_1, wp_istore_1, wp_iload_2, wp_istore_2, wp_iload_3, wp_istore_3, wp_iload, wp_istore, wp_lload_0, wp_lstore_0, wp_lload_1, wp_lstore_1, wp_lload_2, wp_lstore_2, wp_lload_3, wp_lstore_3, wp_lload, wp_lstore, wp_aload_0, wp_astore_0, wp_aload_1, wp_astore_1, wp_aload_2, wp_astore_2, wp_aload_3, wp_astore_3, wp_aload, wp_astore, wp_iinc, wp_iadd, wp_isub, wp_imul, wp_iand, wp_ior, wp_ixor, wp_ishl, wp_ishr, wp_iushr, wp_irem, wp_ladd, wp_lsub, wp_lmul, wp_land, wp_lor, wp_lxor, wp_lshl, wp_lshr, wp_lushr, wp_lrem, wp_lcmp, wp_i2l, wp_l2i, wp_dupI, wp_dupA, wp_dup2J, wp_dup2IA, wp_popI, wp_popA, wp_pop2, wp_goto, wp_if_eq, wp_icmp_eq, wp_if_ne, wp_icmp_ne, wp_if_lt, wp_icmp_lt, wp_if_ge, wp_icmp_ge, wp_if_gt, wp_icmp_gt, wp_if_le, wp_icmp_le, wp_ifnull, wp_ifnonnull, wp_acmp_eq, wp_acmp_ne, wp_tableswitch, wp_get0, wp_put0, wp_get1, wp_put1, wp_get2, wp_put2, wp_get3, wp_put3, wp_new, wp_newarray, wp_anewarray, wp_alen, wp_iaload, wp_laload, wp_baload, wp_aaload, wp_iastore, wp_lastore, wp_bastore, wp_aastore, wp_return, wp_ireturnI, wp_ireturnZ, wp_lreturn, wp_areturnO, wp_areturnA, wp_max, wp_min, wp_obj, wp_virt, wp_nil, ld_I0, ld_Is, ld_J0, ld_Js, ld_A0, ld_As, ha_0, ha_s, cx_put1, cx_put2, cx_dl, cx_tgt, true_and, and_true, Nat.reduceAdd, Nat.reduceSub, Int.reduceAdd, Int.reduceNeg, Int.reduceToNat, Int.reduceSub, Int.cast_ofNat_Int, List.take_succ_cons, List.take_zero, List.drop_succ_cons, List.drop_zero, List.take_nil, List.drop_nil, Option.toList_some, Option.toList_none, List.cons_append, List.nil_append, wp_spec, ne_eq, Nat.reduceEqDiff, not_false_eq_true, true_or, or_true]
      refine ⟨fun _ => ?_, fun q => absurd trivial q⟩
      refine cw_room (by omega) (by omega) (f_write93 hY G (by omega) F2 hu hv (by rw [b11]; exact iu) b30 (by omega) (fun h' Lf' G' W => ?_))
      rw [b72]
      exact hK h' T' Lf' (G'.up (by omega)) (fun g1 g' e W2 => W g' (W2.eT e))
end
