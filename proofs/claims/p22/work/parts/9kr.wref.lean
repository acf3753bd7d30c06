/-! the reference, exactly: a letter is written -/
/-- behind p bytes of letter z: g0 what was before, s the slot, a its number -/
def WV (x : Nat) (s a z p : Int) (ws : Int → Int) (g0 g : cx_Q) : Prop := (∀ j, j ≠ 2 → j ≠ 10 → j ≠ 33 → j ≠ 76 → cq_I g x j = cq_I g0 x j) ∧ (∀ o j, 1 ≤ o → o ≤ 65 → o ∉ tL → ¬ (o = 40 ∧ j = s) → ¬ (o = 62 ∧ 100 * z ≤ j ∧ j < 100 * z + 100) → cq_I g (x + o) j = cq_I g0 (x + o) j) ∧ (∀ o j, 1 ≤ o → o ≤ 65 → o ∉ tL → ¬ (o = 32 ∧ j = s) → cq_J g (x + o) j = cq_J g0 (x + o) j) ∧ (cq_I g (x + 40) s = a) ∧ (cq_J g (x + 32) s = nx1 (cq_J g0 (x + 32) s)) ∧ (∀ k, 0 ≤ k → k < p → cq_I g (x + 62) (100 * z + k) = ws k)
theorem WV.x_ {x : Nat} {s a z p : Int} {ws : Int → Int} {g0 g : cx_Q} (F_ : WV x s a z p ws g0 g) : ∀ j, j ≠ 2 → j ≠ 10 → j ≠ 33 → j ≠ 76 → cq_I g x j = cq_I g0 x j := F_.1
theorem WV.I_ {x : Nat} {s a z p : Int} {ws : Int → Int} {g0 g : cx_Q} (F_ : WV x s a z p ws g0 g) : ∀ o j, 1 ≤ o → o ≤ 65 → o ∉ tL → ¬ (o = 40 ∧ j = s) → ¬ (o = 62 ∧ 100 * z ≤ j ∧ j < 100 * z + 100) → cq_I g (x + o) j = cq_I g0 (x + o) j := F_.2.1
theorem WV.J_ {x : Nat} {s a z p : Int} {ws : Int → Int} {g0 g : cx_Q} (F_ : WV x s a z p ws g0 g) : ∀ o j, 1 ≤ o → o ≤ 65 → o ∉ tL → ¬ (o = 32 ∧ j = s) → cq_J g (x + o) j = cq_J g0 (x + o) j := F_.2.2.1
theorem WV.i40 {x : Nat} {s a z p : Int} {ws : Int → Int} {g0 g : cx_Q} (F_ : WV x s a z p ws g0 g) : cq_I g (x + 40) s = a := F_.2.2.2.1
theorem WV.j32 {x : Nat} {s a z p : Int} {ws : Int → Int} {g0 g : cx_Q} (F_ : WV x s a z p ws g0 g) : cq_J g (x + 32) s = nx1 (cq_J g0 (x + 32) s) := F_.2.2.2.2.1
theorem WV.b_ {x : Nat} {s a z p : Int} {ws : Int → Int} {g0 g : cx_Q} (F_ : WV x s a z p ws g0 g) : ∀ k, 0 ≤ k → k < p → cq_I g (x + 62) (100 * z + k) = ws k := F_.2.2.2.2.2
/-- what is told of a letter that was written -/
def WQ (x : Nat) (s sz : Int) (b : Int → Int) (g g' : cx_Q) : Prop := (∀ j, j ≠ 72 → j ≠ 76 → j ≠ 68 → j ≠ 2 → j ≠ 10 → j ≠ 33 → cq_I g' x j = cq_I g x j) ∧ (cq_I g' x 72 = cq_I g x 72 + 1) ∧ (cq_I g' x 68 = 0) ∧ (∀ o j, 1 ≤ o → o ≤ 65 → o ∉ tL → ¬ (o = 40 ∧ j = s) → ¬ (o = 63 ∧ j = cq_I g x 72) → ¬ (o = 62 ∧ 100 * cq_I g x 72 ≤ j ∧ j < 100 * cq_I g x 72 + 100) → cq_I g' (x + o) j = cq_I g (x + o) j) ∧ (∀ o j, 1 ≤ o → o ≤ 65 → o ∉ tL → ¬ (o = 32 ∧ j = s) → cq_J g' (x + o) j = cq_J g (x + o) j) ∧ (cq_I g' (x + 40) s = cq_I g (x + 40) s + 1) ∧ (cq_J g' (x + 32) s = nx1 (cq_J g (x + 32) s)) ∧ (cq_I g' (x + 63) (cq_I g x 72) = sz) ∧ (∀ k, 0 ≤ k → k < sz → cq_I g' (x + 62) (100 * cq_I g x 72 + k) = b k)
theorem WQ.x_ {x : Nat} {s sz : Int} {b : Int → Int} {g g' : cx_Q} (F_ : WQ x s sz b g g') : ∀ j, j ≠ 72 → j ≠ 76 → j ≠ 68 → j ≠ 2 → j ≠ 10 → j ≠ 33 → cq_I g' x j = cq_I g x j := F_.1
theorem WQ.x72 {x : Nat} {s sz : Int} {b : Int → Int} {g g' : cx_Q} (F_ : WQ x s sz b g g') : cq_I g' x 72 = cq_I g x 72 + 1 := F_.2.1
theorem WQ.x68 {x : Nat} {s sz : Int} {b : Int → Int} {g g' : cx_Q} (F_ : WQ x s sz b g g') : cq_I g' x 68 = 0 := F_.2.2.1
theorem WQ.I_ {x : Nat} {s sz : Int} {b : Int → Int} {g g' : cx_Q} (F_ : WQ x s sz b g g') : ∀ o j, 1 ≤ o → o ≤ 65 → o ∉ tL → ¬ (o = 40 ∧ j = s) → ¬ (o = 63 ∧ j = cq_I g x 72) → ¬ (o = 62 ∧ 100 * cq_I g x 72 ≤ j ∧ j < 100 * cq_I g x 72 + 100) → cq_I g' (x + o) j = cq_I g (x + o) j := F_.2.2.2.1
theorem WQ.J_ {x : Nat} {s sz : Int} {b : Int → Int} {g g' : cx_Q} (F_ : WQ x s sz b g g') : ∀ o j, 1 ≤ o → o ≤ 65 → o ∉ tL → ¬ (o = 32 ∧ j = s) → cq_J g' (x + o) j = cq_J g (x + o) j := F_.2.2.2.2.1
theorem WQ.i40 {x : Nat} {s sz : Int} {b : Int → Int} {g g' : cx_Q} (F_ : WQ x s sz b g g') : cq_I g' (x + 40) s = cq_I g (x + 40) s + 1 := F_.2.2.2.2.2.1
theorem WQ.j32 {x : Nat} {s sz : Int} {b : Int → Int} {g g' : cx_Q} (F_ : WQ x s sz b g g') : cq_J g' (x + 32) s = nx1 (cq_J g (x + 32) s) := F_.2.2.2.2.2.2.1
theorem WQ.z {x : Nat} {s sz : Int} {b : Int → Int} {g g' : cx_Q} (F_ : WQ x s sz b g g') : cq_I g' (x + 63) (cq_I g x 72) = sz := F_.2.2.2.2.2.2.2.1
theorem WQ.b_ {x : Nat} {s sz : Int} {b : Int → Int} {g g' : cx_Q} (F_ : WQ x s sz b g g') : ∀ k, 0 ≤ k → k < sz → cq_I g' (x + 62) (100 * cq_I g x 72 + k) = b k := F_.2.2.2.2.2.2.2.2
section
variable {x : Nat} {n L Q D N O z m p s a : Int} {U V ws : Int → Int} {h0 h g0 : cx_Q}
theorem WV.put (v : Int64) : ∀ (k : Nat) {p : Int} {ws : Int → Int} {h : cx_Q}, k ≤ 8 → 0 ≤ p → p + k ≤ 100 → cq_I h x 76 = 100 * z + p → WV x s a z p ws g0 h → WV x s a z (p + k) (wP ws p v k) g0 (m_put x v k h)
  | 0, p, ws, h, _, _, _, _, W => by
    have e : p + ((0 : Nat) : Int) = p := by omega
    refine ⟨W.x_, W.I_, W.J_, W.i40, W.j32, fun k k0 k1 => ?_⟩
    rw [e] at k1
    unfold wP ptF
    rw [if_neg (by omega)]
    exact W.b_ k k0 k1
  | k + 1, p, ws, h, h8, hp, hpk, e76, W => by
    rw [m_put_s]
    have W1 : WV x s a z (p + 1) (fun j => if j = p then by8 v k else ws j) g0 (m_put1 h x v k) := by
      unfold m_put1
      rw [put_by8 k (by omega), e76]
      refine ⟨fun j w1 w2 w3 w4 => ?_, fun o j w1 w2 w3 w4 w5 => ?_, fun o j w1 w2 w3 w4 => W.J_ o j w1 w2 w3 w4, ?_, W.j32, fun j k0 k1 => ?_⟩
      · rw [mm_sI, if_neg (fun q => w4 q.2), mm_sI, if_neg (fun q => by omega)]
        exact W.x_ j w1 w2 w3 w4
      · rw [mm_sI, if_neg (fun q => by omega), mm_sI, if_neg (fun q => w5 ⟨by omega, by omega, by omega⟩)]
        exact W.I_ o j w1 w2 w3 w4 w5
      · rw [mm_sI, if_neg (fun q => by omega), mm_sI, if_neg (fun q => by omega)]
        exact W.i40
      · dsimp only
        rw [mm_sI, if_neg (fun q => by omega), mm_sI]
        by_cases w : j = p
        · rw [if_pos ⟨rfl, by omega⟩, if_pos w]
        · rw [if_neg (fun q => w (by omega)), if_neg w]
          exact W.b_ j k0 (by omega)
    have W2 := WV.put v k (by omega) (by omega) (by omega) (by rw [m_put1_76, e76]; omega) W1
    have e : p + 1 + (k : Int) = p + ((k + 1 : Nat) : Int) := by omega
    rw [e] at W2
    refine ⟨W2.x_, W2.I_, W2.J_, W2.i40, W2.j32, fun j k0 k1 => ?_⟩
    rw [W2.b_ j k0 k1]
    unfold wP ptF
    by_cases w : j = p
    · rw [if_neg (by omega), if_pos (by omega)]
      have e2 : p + ((k + 1 : Nat) : Int) - 1 - j = k := by omega
      rw [e2]
      exact if_pos w
    · by_cases w2 : p ≤ j
      · rw [if_pos (by omega), if_pos (by omega)]
        have e2 : p + 1 + (k : Int) - 1 - j = p + ((k + 1 : Nat) : Int) - 1 - j := by omega
        rw [e2]
      · rw [if_neg (by omega), if_neg (by omega)]
        exact if_neg w
/-- bytes are put -/
theorem v_put {F : Nat → Int → Int} {G : cx_Q → Prop} {Y : cx_Y} (hY : cY Y) {P : Option cx_V → cx_Q → Prop} {v : Int64} {k : Int} {pc : Nat} {lv : cx_L} (W : WI F G x n L Q D U V h0 N O z m p h) (B : WV x s a z p ws g0 h) (hz : 0 ≤ z ∧ z ≤ 79) (hp : 0 ≤ p) (hk : 0 ≤ k ∧ k ≤ 8) (hpk : p + k ≤ 100)
    (hK : ∀ g, WI F G x n L Q D U V h0 N O z m (p + k) g → WV x s a z (p + k) (wP ws p v k) g0 g → cw Y mi_X11_write P pc lv [] g 0 0) : cwl Y mi_X11_write P 1 90 10 [.inl k, .inr (.inl v), .inr (.inr (some x))] pc lv [] h 0 0 := by
  have hS := W.1.rS
  have e := W.2.2.1
  refine cl_X11_put (Nat.le_of_ble_eq_true rfl) hS.1 (Nat.le_refl _) (Nat.le_refl _) (c_X11_put hY hS hk (by omega) ?_)
  have W2 := WI.put v k.toNat W
  have B2 := WV.put v k.toNat (by omega) hp (by omega) e B
  rw [show ((k.toNat : Nat) : Int) = k by omega] at W2 B2
  exact hK _ W2 B2
/-- what K must take -/
def WK (F : Nat → Int → Int) (G : cx_Q → Prop) (x : Nat) (n L Q D : Int) (U V : Int → Int) (h0 : cx_Q) (N O : Int) (s sz : Int) (b : Int → Int) (g0 : cx_Q) (K : Option cx_V → cx_Q → Prop) : Prop := ∀ h', MI x n L Q D U V h0 h' → TI F G x h' N O → WQ x s sz b g0 h' → K (some (.inl (cq_I g0 x 72))) h'
theorem v_413 {F : Nat → Int → Int} {G : cx_Q → Prop} {Y : cx_Y} (hY : cY Y) {K : Option cx_V → cx_Q → Prop} {u v r t i : Int} {k : Int64} (W : WI F G x n L Q D U V h0 N O z m p h) (B : WV x s (cq_I g0 (x + 40) s + 1) z p ws g0 h) (e72 : cq_I g0 x 72 = z) (hz : 0 ≤ z ∧ z ≤ 79) (hp : 0 ≤ p ∧ p ≤ 80) (ht : 0 ≤ t ∧ t ≤ 16999) (hg : ∀ q, G q → t < cq_I q x 2)
    (hK : WK (upF F 64 z t) G x n L Q D U V h0 N O s (p + 8) (wE ws p k) g0 K) : cw Y mi_X11_write K 413 [some (.inr (.inr (some x))), some (.inl u), some (.inl v), some (.inl r), some (.inl s), some (.inr (.inl k)), none, some (.inl t), some (.inl (100 * z)), some (.inl i)] [] h 0 0 := by
  have hS := W.1.rS
  have e76 := W.2.2.1
  have e72' := W.2.2.2.1
  refine bx_X11_write_413 hY (pf1_ok hY) ?_
  simp only [wp_iconst, wp_bipush, wp_sipush, wp_ldc, wp_ldc2_w, wp_lconst0, wp_lconst1, wp_aconst_null, wp_iload_0, wp_istore_0, wp_iload_1, wp_istore_1, wp_iload_2, wp_istore_2, wp_iload_3, wp_istore_3, wp_iload, wp_istore, wp_lload_0, wp_lstore_0, wp_lload_1, wp_lstore_1, wp_lload_2, wp_lstore_2, wp_lload_3, wp_lstore_3, wp_lload, wp_lstore, wp_aload_0, wp_astore_0, wp_aload_1, wp_astore_1, wp_aload_2, wp_astore_2, wp_aload_3, wp_astore_3, wp_aload, wp_astore, wp_iinc, wp_iadd, wp_isub, wp_imul, wp_iand, wp_ior, wp_ixor, wp_ishl, wp_ishr, wp_iushr, wp_irem, wp_ladd, wp_lsub, wp_lmul, wp_land, wp_lor, wp_lxor, wp_lshl, wp_lshr, wp_lushr, wp_lrem, wp_lcmp, wp_i2l, wp_l2i, wp_dupI, wp_dupA, wp_dup2J, wp_dup2IA, wp_popI, wp_popA, wp_pop2, wp_goto, wp_if_eq, wp_icmp_eq, wp_if_ne, wp_icmp_ne, wp_if_lt, wp_icmp_lt, wp_if_ge, wp_icmp_ge, wp_if_gt, wp_icmp_gt, wp_if_le, wp_icmp_le, wp_ifnull, wp_ifnonnull, wp_acmp_eq, wp_acmp_ne, wp_tableswitch, wp_get0, wp_put0, wp_get1, wp_put1, wp_get2, wp_put2, wp_get3, wp_put3, wp_new, wp_newarray, wp_anewarray, wp_alen, wp_iaload, wp_laload, wp_baload, wp_aaload, wp_iastore, wp_lastore, wp_bastore, wp_aastore, wp_return, wp_ireturnI, wp_ireturnZ, wp_lreturn, wp_areturnO, wp_areturnA, wp_max, wp_min, wp_obj, wp_virt, wp_nil, ld_I0, ld_Is, ld_J0, ld_Js, ld_A0, ld_As, ha_0, ha_s, cx_put1, cx_put2, cx_dl, cx_tgt, true_and, and_true, Nat.reduceAdd, Nat.reduceSub, Int.reduceAdd, Int.reduceNeg, Int.reduceToNat, Int.reduceSub, Int.cast_ofNat_Int, List.take_succ_cons, List.take_zero, List.drop_succ_cons, List.drop_zero, List.take_nil, List.drop_nil, Option.toList_some, Option.toList_none, List.cons_append, List.nil_append, wp_spec, ne_eq, Nat.reduceEqDiff, not_false_eq_true, true_or, or_true, hS.1, e76, e72', cx_rg]
  refine ⟨by omega, ?_⟩
  have es : 100 * z + p - 100 * z = p := by omega
  rw [es]
  refine cl_X11_sumOfBytes (Nat.le_of_ble_eq_true rfl) hS.1 (Nat.le_refl _) (Nat.le_refl _) (c_X11_sumOfBytes hY hS (by omega) (by omega) ?_)
  have eb : m_sb (cq_I h (x + 62)) (100 * z) p.toNat 0 (Int64.ofInt 0) = m_sb ws 0 p.toNat 0 (Int64.ofInt 0) := m_sb_c (fun i i0 i1 => by rw [Int.zero_add]; exact B.b_ i i0 (by omega))
  rw [eb]
  refine bx_X11_write_433 hY (pf1_ok hY) ?_
  simp only [wp_iconst, wp_bipush, wp_sipush, wp_ldc, wp_ldc2_w, wp_lconst0, wp_lconst1, wp_aconst_null, wp_iload_0, wp_istore_0, wp_iload_1, wp_istore_1, wp_iload_2, wp_istore_2, wp_iload_3, wp_istore_3, wp_iload, wp_istore, wp_lload_0, wp_lstore_0, wp_lload_1, wp_lstore_1, wp_lload_2, wp_lstore_2, wp_lload_3, wp_lstore_3, wp_lload, wp_lstore, wp_aload_0, wp_astore_0, wp_aload_1, wp_astore_1, wp_aload_2, wp_astore_2, wp_aload_3, wp_astore_3, wp_aload, wp_astore, wp_iinc, wp_iadd, wp_isub, wp_imul, wp_iand, wp_ior, wp_ixor, wp_ishl, wp_ishr, wp_iushr, wp_irem, wp_ladd, wp_lsub, wp_lmul, wp_land, wp_lor, wp_lxor, wp_lshl, wp_lshr, wp_lushr, wp_lrem, wp_lcmp, wp_i2l, wp_l2i, wp_dupI, wp_dupA, wp_dup2J, wp_dup2IA, wp_popI, wp_popA, wp_pop2, wp_goto, wp_if_eq, wp_icmp_eq, wp_if_ne, wp_icmp_ne, wp_if_lt, wp_icmp_lt, wp_if_ge, wp_icmp_ge, wp_if_gt, wp_icmp_gt, wp_if_le, wp_icmp_le, wp_ifnull, wp_ifnonnull, wp_acmp_eq, wp_acmp_ne, wp_tableswitch, wp_get0, wp_put0, wp_get1, wp_put1, wp_get2, wp_put2, wp_get3, wp_put3, wp_new, wp_newarray, wp_anewarray, wp_alen, wp_iaload, wp_laload, wp_baload, wp_aaload, wp_iastore, wp_lastore, wp_bastore, wp_aastore, wp_return, wp_ireturnI, wp_ireturnZ, wp_lreturn, wp_areturnO, wp_areturnA, wp_max, wp_min, wp_obj, wp_virt, wp_nil, ld_I0, ld_Is, ld_J0, ld_Js, ld_A0, ld_As, ha_0, ha_s, cx_put1, cx_put2, cx_dl, cx_tgt, true_and, and_true, Nat.reduceAdd, Nat.reduceSub, Int.reduceAdd, Int.reduceNeg, Int.reduceToNat, Int.reduceSub, Int.cast_ofNat_Int, List.take_succ_cons, List.take_zero, List.drop_succ_cons, List.drop_zero, List.take_nil, List.drop_nil, Option.toList_some, Option.toList_none, List.cons_append, List.nil_append, wp_spec, ne_eq, Nat.reduceEqDiff, not_false_eq_true, true_or, or_true, wf_X11_mix, wf_X11_key, wf_X11_times, wf_X11_timesQ, wf_X11_power, wf_X11_common, wf_X11_modQ, wf_X11_asSecret, wf_X11_sumOf, cx_sz, cx_c2, cond_true, cond_false, Nat.reduceLeDiff]
  refine v_put hY W B hz (by omega) (by decide) (by omega) ?_
  intro g W B
  have B : WV x s (cq_I g0 (x + 40) s + 1) z (p + 8) (wE ws p k) g0 g := B
  obtain ⟨M, T, f76, f72, f68⟩ := W
  have hG := M.rS
  refine bx_X11_write_441 hY (pf1_ok hY) ?_
  simp only [wp_iconst, wp_bipush, wp_sipush, wp_ldc, wp_ldc2_w, wp_lconst0, wp_lconst1, wp_aconst_null, wp_iload_0, wp_istore_0, wp_iload_1, wp_istore_1, wp_iload_2, wp_istore_2, wp_iload_3, wp_istore_3, wp_iload, wp_istore, wp_lload_0, wp_lstore_0, wp_lload_1, wp_lstore_1, wp_lload_2, wp_lstore_2, wp_lload_3, wp_lstore_3, wp_lload, wp_lstore, wp_aload_0, wp_astore_0, wp_aload_1, wp_astore_1, wp_aload_2, wp_astore_2, wp_aload_3, wp_astore_3, wp_aload, wp_astore, wp_iinc, wp_iadd, wp_isub, wp_imul, wp_iand, wp_ior, wp_ixor, wp_ishl, wp_ishr, wp_iushr, wp_irem, wp_ladd, wp_lsub, wp_lmul, wp_land, wp_lor, wp_lxor, wp_lshl, wp_lshr, wp_lushr, wp_lrem, wp_lcmp, wp_i2l, wp_l2i, wp_dupI, wp_dupA, wp_dup2J, wp_dup2IA, wp_popI, wp_popA, wp_pop2, wp_goto, wp_if_eq, wp_icmp_eq, wp_if_ne, wp_icmp_ne, wp_if_lt, wp_icmp_lt, wp_if_ge, wp_icmp_ge, wp_if_gt, wp_icmp_gt, wp_if_le, wp_icmp_le, wp_ifnull, wp_ifnonnull, wp_acmp_eq, wp_acmp_ne, wp_tableswitch, wp_get0, wp_put0, wp_get1, wp_put1, wp_get2, wp_put2, wp_get3, wp_put3, wp_new, wp_newarray, wp_anewarray, wp_alen, wp_iaload, wp_laload, wp_baload, wp_aaload, wp_iastore, wp_lastore, wp_bastore, wp_aastore, wp_return, wp_ireturnI, wp_ireturnZ, wp_lreturn, wp_areturnO, wp_areturnA, wp_max, wp_min, wp_obj, wp_virt, wp_nil, ld_I0, ld_Is, ld_J0, ld_Js, ld_A0, ld_As, ha_0, ha_s, cx_put1, cx_put2, cx_dl, cx_tgt, true_and, and_true, Nat.reduceAdd, Nat.reduceSub, Int.reduceAdd, Int.reduceNeg, Int.reduceToNat, Int.reduceSub, Int.cast_ofNat_Int, List.take_succ_cons, List.take_zero, List.drop_succ_cons, List.drop_zero, List.take_nil, List.drop_nil, Option.toList_some, Option.toList_none, List.cons_append, List.nil_append, wp_spec, ne_eq, Nat.reduceEqDiff, not_false_eq_true, true_or, or_true, rA_letterSize hG, rs_letterSize hG, rz_letterSize hG, ra_168, rA_letterTerm hG, rs_letterTerm hG, rz_letterTerm hG, ra_169, (hG).1, mm_sI, mm_sJ, mm_sA, mm_IJ, mm_IA, mm_JI, mm_JA, mm_AI, mm_AJ, mm_ssI, mm_ssJ, mm_ssA, mm_zI, mm_zJ, mm_zA, mm_nI, mm_nJ, mm_nA, Nat.left_eq_add, Nat.add_eq_left, Nat.add_left_cancel_iff, Nat.reduceEqDiff, Int.reduceEq, false_and, and_false, if_false, if_true, and_self, true_and, true_or, or_true, false_or, or_false, f76, f72, cx_rg]
  (repeat' (with_reducible (first | refine And.intro ?_ ?_ | intro _)))
  all_goals (try omega)
  have ea : z + 1 - 1 = cq_I g0 x 72 := by omega
  rw [ea]
  refine hK _ ?_ ?_ ?_
  · (repeat' (first | with_reducible assumption | with_reducible refine MI.sJx ?_ | with_reducible refine MI.sJ ?_ (by decide) | with_reducible refine MI.sx ?_ ?_ (by decide) | with_reducible refine MI.sI ?_ ?_ (by decide) (by decide) | with_reducible refine MI.draw ?_)) <;> (try first | exact True.intro | exact ⟨by omega, by omega⟩)
  · have hl : t < cq_I g x 2 := hg g T.g
    repeat' (first | with_reducible assumption | (with_reducible refine TI.sR ?_ (by decide) ht ?_; rotate_left; (simp only [mm_sI, mm_sJ, mm_sA, mm_IJ, mm_IA, mm_JI, mm_JA, mm_AI, mm_AJ, mm_ssI, mm_ssJ, mm_ssA, mm_zI, mm_zJ, mm_zA, mm_nI, mm_nJ, mm_nA, Nat.left_eq_add, Nat.add_eq_left, Nat.add_left_cancel_iff, Nat.reduceEqDiff, Int.reduceEq, false_and, and_false, if_false, if_true, and_self, true_and, true_or, or_true, false_or, or_false]; exact hl)) | (with_reducible refine TI.sF ?_ ?_ ?_ ?_; rotate_left; decide; decide; decide) | (with_reducible refine TI.sT ?_ ?_ ?_; rotate_left; decide; exact fun q => absurd q (by decide)))
  · have i72 := B.x_ 72 (by decide) (by decide) (by decide) (by decide)
    have n64 : 64 ∈ tL := by decide
    refine ⟨fun j w1 w2 w3 w4 w5 w6 => ?_, ?_, ?_, fun o j w1 w2 w3 w4 w5 w6 => ?_, fun o j w1 w2 w3 w4 => B.J_ o j w1 w2 w3 w4, ?_, B.j32, ?_, fun j k0 k1 => ?_⟩
    · rw [mm_sI, if_neg (fun q => w1 q.2), mm_sI, if_neg (fun q => w3 q.2), mm_sI, if_neg (fun q => by omega), mm_sI, if_neg (fun q => by omega)]
      exact B.x_ j w4 w5 w6 w2
    · rw [mm_sI, if_pos ⟨rfl, rfl⟩]
      omega
    · rw [mm_sI, if_neg (fun q => absurd q.2 (by decide)), mm_sI, if_pos ⟨rfl, rfl⟩]
    · have n64' : o ≠ 64 := fun q => w3 (by rw [q]; exact n64)
      rw [mm_sI, if_neg (fun q => by omega), mm_sI, if_neg (fun q => by omega), mm_sI, if_neg (fun q => n64' (by omega)), mm_sI, if_neg (fun q => w5 ⟨by omega, by omega⟩)]
      exact B.I_ o j w1 w2 w3 w4 (fun q => w6 ⟨q.1, by omega, by omega⟩)
    · rw [mm_sI, if_neg (fun q => by omega), mm_sI, if_neg (fun q => by omega), mm_sI, if_neg (fun q => by omega), mm_sI, if_neg (fun q => by omega)]
      exact B.i40
    · rw [mm_sI, if_neg (fun q => by omega), mm_sI, if_neg (fun q => by omega), mm_sI, if_neg (fun q => by omega), mm_sI, if_pos ⟨rfl, by omega⟩]
      omega
    · rw [mm_sI, if_neg (fun q => by omega), mm_sI, if_neg (fun q => by omega), mm_sI, if_neg (fun q => by omega), mm_sI, if_neg (fun q => by omega), e72]
      exact B.b_ j k0 k1
theorem v_369 {F : Nat → Int → Int} {G : cx_Q → Prop} {Y : cx_Y} (hY : cY Y) {K : Option cx_V → cx_Q → Prop} {u v r t pb : Int} {k : Int64} (e72 : cq_I g0 x 72 = z) (hz : 0 ≤ z ∧ z ≤ 79) (ht : 0 ≤ t ∧ t ≤ 16999) (hg : ∀ q, G q → t < cq_I q x 2) (hm : 0 ≤ m ∧ m ≤ 40) (hpb : 0 ≤ pb ∧ pb ≤ 40) (tb : ∀ i, 0 ≤ i → i < m → 0 ≤ cq_I g0 (x + 61) i ∧ cq_I g0 (x + 61) i ≤ 255) : ∀ (c : Nat) (i : Int) (ws : Int → Int) (h : cx_Q), 0 ≤ i → i + c = m → WK (upF F 64 z t) G x n L Q D U V h0 N O s (pb + m + 8) (wE (wD (cq_I g0 (x + 61)) k pb c i ws) (pb + m) k) g0 K → WI F G x n L Q D U V h0 N O z m (pb + i) h → WV x s (cq_I g0 (x + 40) s + 1) z (pb + i) ws g0 h → cw Y mi_X11_write K 369 [some (.inr (.inr (some x))), some (.inl u), some (.inl v), some (.inl r), some (.inl s), some (.inr (.inl k)), none, some (.inl t), some (.inl (100 * z)), some (.inl i)] [] h 0 0 := by
  intro c
  induction c with
  | zero =>
    intro i ws h h1 h2 hK W B
    have hS := W.1.rS
    have e68 := W.2.2.2.2
    refine bx_X11_write_369 hY (pf1_ok hY) ?_
    simp only [wp_iconst, wp_bipush, wp_sipush, wp_ldc, wp_ldc2_w, wp_lconst0, wp_lconst1, wp_aconst_null, wp_iload_0, wp_istore_0, wp_iload_1, wp_istore_1, wp_iload_2, wp_istore_2, wp_iload_3, wp_istore_3, wp_iload, wp_istore, wp_lload_0, wp_lstore_0, wp_lload_1, wp_lstore_1, wp_lload_2, wp_lstore_2, wp_lload_3, wp_lstore_3, wp_lload, wp_lstore, wp_aload_0, wp_astore_0, wp_aload_1, wp_astore_1, wp_aload_2, wp_astore_2, wp_aload_3, wp_astore_3, wp_aload, wp_astore, wp_iinc, wp_iadd, wp_isub, wp_imul, wp_iand, wp_ior, wp_ixor, wp_ishl, wp_ishr, wp_iushr, wp_irem, wp_ladd, wp_lsub, wp_lmul, wp_land, wp_lor, wp_lxor, wp_lshl, wp_lshr, wp_lushr, wp_lrem, wp_lcmp, wp_i2l, wp_l2i, wp_dupI, wp_dupA, wp_dup2J, wp_dup2IA, wp_popI, wp_popA, wp_pop2, wp_goto, wp_if_eq, wp_icmp_eq, wp_if_ne, wp_icmp_ne, wp_if_lt, wp_icmp_lt, wp_if_ge, wp_icmp_ge, wp_if_gt, wp_icmp_gt, wp_if_le, wp_icmp_le, wp_ifnull, wp_ifnonnull, wp_acmp_eq, wp_acmp_ne, wp_tableswitch, wp_get0, wp_put0, wp_get1, wp_put1, wp_get2, wp_put2, wp_get3, wp_put3, wp_new, wp_newarray, wp_anewarray, wp_alen, wp_iaload, wp_laload, wp_baload, wp_aaload, wp_iastore, wp_lastore, wp_bastore, wp_aastore, wp_return, wp_ireturnI, wp_ireturnZ, wp_lreturn, wp_areturnO, wp_areturnA, wp_max, wp_min, wp_obj, wp_virt, wp_nil, ld_I0, ld_Is, ld_J0, ld_Js, ld_A0, ld_As, ha_0, ha_s, cx_put1, cx_put2, cx_dl, cx_tgt, true_and, and_true, Nat.reduceAdd, Nat.reduceSub, Int.reduceAdd, Int.reduceNeg, Int.reduceToNat, Int.reduceSub, Int.cast_ofNat_Int, List.take_succ_cons, List.take_zero, List.drop_succ_cons, List.drop_zero, List.take_nil, List.drop_nil, Option.toList_some, Option.toList_none, List.cons_append, List.nil_append, wp_spec, ne_eq, Nat.reduceEqDiff, not_false_eq_true, true_or, or_true, rA_tape hS, rs_tape hS, rz_tape hS, ra_166, (hS).1, e68]
    have ei : i = m := by omega
    rw [wD_0] at hK
    rw [ei] at W B
    refine ⟨fun _ => v_413 hY W B e72 hz (by omega) ht hg hK, fun q => absurd q (by omega)⟩
  | succ c ih =>
    intro i ws h h1 h2 hK W B
    have hS := W.1.rS
    have e68 := W.2.2.2.2
    have e61 := B.I_ 61 i (by decide) (by decide) (by decide) (by omega) (by omega)
    have tbi := tb i h1 (by omega)
    refine bx_X11_write_369 hY (pf1_ok hY) ?_
    simp only [wp_iconst, wp_bipush, wp_sipush, wp_ldc, wp_ldc2_w, wp_lconst0, wp_lconst1, wp_aconst_null, wp_iload_0, wp_istore_0, wp_iload_1, wp_istore_1, wp_iload_2, wp_istore_2, wp_iload_3, wp_istore_3, wp_iload, wp_istore, wp_lload_0, wp_lstore_0, wp_lload_1, wp_lstore_1, wp_lload_2, wp_lstore_2, wp_lload_3, wp_lstore_3, wp_lload, wp_lstore, wp_aload_0, wp_astore_0, wp_aload_1, wp_astore_1, wp_aload_2, wp_astore_2, wp_aload_3, wp_astore_3, wp_aload, wp_astore, wp_iinc, wp_iadd, wp_isub, wp_imul, wp_iand, wp_ior, wp_ixor, wp_ishl, wp_ishr, wp_iushr, wp_irem, wp_ladd, wp_lsub, wp_lmul, wp_land, wp_lor, wp_lxor, wp_lshl, wp_lshr, wp_lushr, wp_lrem, wp_lcmp, wp_i2l, wp_l2i, wp_dupI, wp_dupA, wp_dup2J, wp_dup2IA, wp_popI, wp_popA, wp_pop2, wp_goto, wp_if_eq, wp_icmp_eq, wp_if_ne, wp_icmp_ne, wp_if_lt, wp_icmp_lt, wp_if_ge, wp_icmp_ge, wp_if_gt, wp_icmp_gt, wp_if_le, wp_icmp_le, wp_ifnull, wp_ifnonnull, wp_acmp_eq, wp_acmp_ne, wp_tableswitch, wp_get0, wp_put0, wp_get1, wp_put1, wp_get2, wp_put2, wp_get3, wp_put3, wp_new, wp_newarray, wp_anewarray, wp_alen, wp_iaload, wp_laload, wp_baload, wp_aaload, wp_iastore, wp_lastore, wp_bastore, wp_aastore, wp_return, wp_ireturnI, wp_ireturnZ, wp_lreturn, wp_areturnO, wp_areturnA, wp_max, wp_min, wp_obj, wp_virt, wp_nil, ld_I0, ld_Is, ld_J0, ld_Js, ld_A0, ld_As, ha_0, ha_s, cx_put1, cx_put2, cx_dl, cx_tgt, true_and, and_true, Nat.reduceAdd, Nat.reduceSub, Int.reduceAdd, Int.reduceNeg, Int.reduceToNat, Int.reduceSub, Int.cast_ofNat_Int, List.take_succ_cons, List.take_zero, List.drop_succ_cons, List.drop_zero, List.take_nil, List.drop_nil, Option.toList_some, Option.toList_none, List.cons_append, List.nil_append, wp_spec, ne_eq, Nat.reduceEqDiff, not_false_eq_true, true_or, or_true, wf_X11_mix, wf_X11_key, wf_X11_times, wf_X11_timesQ, wf_X11_power, wf_X11_common, wf_X11_modQ, wf_X11_asSecret, wf_X11_sumOf, cx_sz, cx_c2, cond_true, cond_false, Nat.reduceLeDiff, rA_tape hS, rs_tape hS, rz_tape hS, ra_166, (hS).1, e68, e61, cx_rg]
    rw [veil_8 tbi]
    rw [wD_s] at hK
    refine ⟨fun q => absurd q (by omega), fun _ => ⟨by omega, ?_⟩⟩
    refine v_put hY W B hz (by omega) (by decide) (by omega) ?_
    intro g W B
    refine bx_X11_write_407 hY (pf1_ok hY) ?_
    simp only [wp_iconst, wp_bipush, wp_sipush, wp_ldc, wp_ldc2_w, wp_lconst0, wp_lconst1, wp_aconst_null, wp_iload_0, wp_istore_0, wp_iload_1, wp_istore_1, wp_iload_2, wp_istore_2, wp_iload_3, wp_istore_3, wp_iload, wp_istore, wp_lload_0, wp_lstore_0, wp_lload_1, wp_lstore_1, wp_lload_2, wp_lstore_2, wp_lload_3, wp_lstore_3, wp_lload, wp_lstore, wp_aload_0, wp_astore_0, wp_aload_1, wp_astore_1, wp_aload_2, wp_astore_2, wp_aload_3, wp_astore_3, wp_aload, wp_astore, wp_iinc, wp_iadd, wp_isub, wp_imul, wp_iand, wp_ior, wp_ixor, wp_ishl, wp_ishr, wp_iushr, wp_irem, wp_ladd, wp_lsub, wp_lmul, wp_land, wp_lor, wp_lxor, wp_lshl, wp_lshr, wp_lushr, wp_lrem, wp_lcmp, wp_i2l, wp_l2i, wp_dupI, wp_dupA, wp_dup2J, wp_dup2IA, wp_popI, wp_popA, wp_pop2, wp_goto, wp_if_eq, wp_icmp_eq, wp_if_ne, wp_icmp_ne, wp_if_lt, wp_icmp_lt, wp_if_ge, wp_icmp_ge, wp_if_gt, wp_icmp_gt, wp_if_le, wp_icmp_le, wp_ifnull, wp_ifnonnull, wp_acmp_eq, wp_acmp_ne, wp_tableswitch, wp_get0, wp_put0, wp_get1, wp_put1, wp_get2, wp_put2, wp_get3, wp_put3, wp_new, wp_newarray, wp_anewarray, wp_alen, wp_iaload, wp_laload, wp_baload, wp_aaload, wp_iastore, wp_lastore, wp_bastore, wp_aastore, wp_return, wp_ireturnI, wp_ireturnZ, wp_lreturn, wp_areturnO, wp_areturnA, wp_max, wp_min, wp_obj, wp_virt, wp_nil, ld_I0, ld_Is, ld_J0, ld_Js, ld_A0, ld_As, ha_0, ha_s, cx_put1, cx_put2, cx_dl, cx_tgt, true_and, and_true, Nat.reduceAdd, Nat.reduceSub, Int.reduceAdd, Int.reduceNeg, Int.reduceToNat, Int.reduceSub, Int.cast_ofNat_Int, List.take_succ_cons, List.take_zero, List.drop_succ_cons, List.drop_zero, List.take_nil, List.drop_nil, Option.toList_some, Option.toList_none, List.cons_append, List.nil_append, wp_spec, ne_eq, Nat.reduceEqDiff, not_false_eq_true, true_or, or_true, cx_rg]
    refine ⟨by omega, ?_⟩
    have e1 : pb + i + 1 = pb + (i + 1) := by omega
    rw [e1] at W B
    exact ih (i + 1) _ g (by omega) (by omega) hK W B
theorem v_306 {F : Nat → Int → Int} {G : cx_Q → Prop} {Y : cx_Y} (hY : cY Y) {K : Option cx_V → cx_Q → Prop} {u v r t : Int} {k : Int64} {o9 : Option cx_V} (hQ : Q ≤ 200) (W : WI F G x n L Q D U V h0 N O z m p h) (B : WV x s (cq_I g0 (x + 40) s) z p ws g0 h) (e72 : cq_I g0 x 72 = z) (hz : 0 ≤ z ∧ z ≤ 79) (hs : 0 ≤ s ∧ s < 144) (ht : 0 ≤ t ∧ t ≤ 16999) (hg : ∀ q, G q → t < cq_I q x 2) (hm : 0 ≤ m ∧ m ≤ 40) (hp : 0 ≤ p ∧ p ≤ 23) (tb : ∀ i, 0 ≤ i → i < m → 0 ≤ cq_I g0 (x + 61) i ∧ cq_I g0 (x + 61) i ≤ 255)
    (hK : WK (upF F 64 z t) G x n L (Q + 1) D U V h0 N O s (p + 13 + m + 8) (wE (wD (cq_I g0 (x + 61)) k (p + 13) m.toNat 0 (wC ws p (cq_J g0 (x + 37) s) (cq_I g0 (x + 42) s) (cq_I g0 (x + 40) s) m)) (p + 13 + m) k) g0 K) : cw Y mi_X11_write K 306 [some (.inr (.inr (some x))), some (.inl u), some (.inl v), some (.inl r), some (.inl s), some (.inr (.inl k)), none, some (.inl t), some (.inl (100 * z)), o9] [] h 0 0 := by
  have hS := W.1.rS
  have f37 := B.J_ 37 s (by decide) (by decide) (by decide) (by omega)
  refine bx_X11_write_306 hY (pf1_ok hY) ?_
  simp only [wp_iconst, wp_bipush, wp_sipush, wp_ldc, wp_ldc2_w, wp_lconst0, wp_lconst1, wp_aconst_null, wp_iload_0, wp_istore_0, wp_iload_1, wp_istore_1, wp_iload_2, wp_istore_2, wp_iload_3, wp_istore_3, wp_iload, wp_istore, wp_lload_0, wp_lstore_0, wp_lload_1, wp_lstore_1, wp_lload_2, wp_lstore_2, wp_lload_3, wp_lstore_3, wp_lload, wp_lstore, wp_aload_0, wp_astore_0, wp_aload_1, wp_astore_1, wp_aload_2, wp_astore_2, wp_aload_3, wp_astore_3, wp_aload, wp_astore, wp_iinc, wp_iadd, wp_isub, wp_imul, wp_iand, wp_ior, wp_ixor, wp_ishl, wp_ishr, wp_iushr, wp_irem, wp_ladd, wp_lsub, wp_lmul, wp_land, wp_lor, wp_lxor, wp_lshl, wp_lshr, wp_lushr, wp_lrem, wp_lcmp, wp_i2l, wp_l2i, wp_dupI, wp_dupA, wp_dup2J, wp_dup2IA, wp_popI, wp_popA, wp_pop2, wp_goto, wp_if_eq, wp_icmp_eq, wp_if_ne, wp_icmp_ne, wp_if_lt, wp_icmp_lt, wp_if_ge, wp_icmp_ge, wp_if_gt, wp_icmp_gt, wp_if_le, wp_icmp_le, wp_ifnull, wp_ifnonnull, wp_acmp_eq, wp_acmp_ne, wp_tableswitch, wp_get0, wp_put0, wp_get1, wp_put1, wp_get2, wp_put2, wp_get3, wp_put3, wp_new, wp_newarray, wp_anewarray, wp_alen, wp_iaload, wp_laload, wp_baload, wp_aaload, wp_iastore, wp_lastore, wp_bastore, wp_aastore, wp_return, wp_ireturnI, wp_ireturnZ, wp_lreturn, wp_areturnO, wp_areturnA, wp_max, wp_min, wp_obj, wp_virt, wp_nil, ld_I0, ld_Is, ld_J0, ld_Js, ld_A0, ld_As, ha_0, ha_s, cx_put1, cx_put2, cx_dl, cx_tgt, true_and, and_true, Nat.reduceAdd, Nat.reduceSub, Int.reduceAdd, Int.reduceNeg, Int.reduceToNat, Int.reduceSub, Int.cast_ofNat_Int, List.take_succ_cons, List.take_zero, List.drop_succ_cons, List.drop_zero, List.take_nil, List.drop_nil, Option.toList_some, Option.toList_none, List.cons_append, List.nil_append, wp_spec, ne_eq, Nat.reduceEqDiff, not_false_eq_true, true_or, or_true, rA_sOwnOpen hS, rs_sOwnOpen hS, rz_sOwnOpen hS, ra_142, (hS).1, f37]
  refine ⟨by omega, ?_⟩
  refine v_put hY W B hz (by omega) (by decide) (by omega) ?_
  intro g W B
  have hS := W.1.rS
  have f42 := B.I_ 42 s (by decide) (by decide) (by decide) (by omega) (by omega)
  refine bx_X11_write_319 hY (pf1_ok hY) ?_
  simp only [wp_iconst, wp_bipush, wp_sipush, wp_ldc, wp_ldc2_w, wp_lconst0, wp_lconst1, wp_aconst_null, wp_iload_0, wp_istore_0, wp_iload_1, wp_istore_1, wp_iload_2, wp_istore_2, wp_iload_3, wp_istore_3, wp_iload, wp_istore, wp_lload_0, wp_lstore_0, wp_lload_1, wp_lstore_1, wp_lload_2, wp_lstore_2, wp_lload_3, wp_lstore_3, wp_lload, wp_lstore, wp_aload_0, wp_astore_0, wp_aload_1, wp_astore_1, wp_aload_2, wp_astore_2, wp_aload_3, wp_astore_3, wp_aload, wp_astore, wp_iinc, wp_iadd, wp_isub, wp_imul, wp_iand, wp_ior, wp_ixor, wp_ishl, wp_ishr, wp_iushr, wp_irem, wp_ladd, wp_lsub, wp_lmul, wp_land, wp_lor, wp_lxor, wp_lshl, wp_lshr, wp_lushr, wp_lrem, wp_lcmp, wp_i2l, wp_l2i, wp_dupI, wp_dupA, wp_dup2J, wp_dup2IA, wp_popI, wp_popA, wp_pop2, wp_goto, wp_if_eq, wp_icmp_eq, wp_if_ne, wp_icmp_ne, wp_if_lt, wp_icmp_lt, wp_if_ge, wp_icmp_ge, wp_if_gt, wp_icmp_gt, wp_if_le, wp_icmp_le, wp_ifnull, wp_ifnonnull, wp_acmp_eq, wp_acmp_ne, wp_tableswitch, wp_get0, wp_put0, wp_get1, wp_put1, wp_get2, wp_put2, wp_get3, wp_put3, wp_new, wp_newarray, wp_anewarray, wp_alen, wp_iaload, wp_laload, wp_baload, wp_aaload, wp_iastore, wp_lastore, wp_bastore, wp_aastore, wp_return, wp_ireturnI, wp_ireturnZ, wp_lreturn, wp_areturnO, wp_areturnA, wp_max, wp_min, wp_obj, wp_virt, wp_nil, ld_I0, ld_Is, ld_J0, ld_Js, ld_A0, ld_As, ha_0, ha_s, cx_put1, cx_put2, cx_dl, cx_tgt, true_and, and_true, Nat.reduceAdd, Nat.reduceSub, Int.reduceAdd, Int.reduceNeg, Int.reduceToNat, Int.reduceSub, Int.cast_ofNat_Int, List.take_succ_cons, List.take_zero, List.drop_succ_cons, List.drop_zero, List.take_nil, List.drop_nil, Option.toList_some, Option.toList_none, List.cons_append, List.nil_append, wp_spec, ne_eq, Nat.reduceEqDiff, not_false_eq_true, true_or, or_true, rA_sPn hS, rs_sPn hS, rz_sPn hS, ra_147, (hS).1, f42]
  refine ⟨by omega, ?_⟩
  refine v_put hY W B hz (by omega) (by decide) (by omega) ?_
  intro g W B
  have hS := W.1.rS
  have f40 := B.i40
  refine bx_X11_write_332 hY (pf1_ok hY) ?_
  simp only [wp_iconst, wp_bipush, wp_sipush, wp_ldc, wp_ldc2_w, wp_lconst0, wp_lconst1, wp_aconst_null, wp_iload_0, wp_istore_0, wp_iload_1, wp_istore_1, wp_iload_2, wp_istore_2, wp_iload_3, wp_istore_3, wp_iload, wp_istore, wp_lload_0, wp_lstore_0, wp_lload_1, wp_lstore_1, wp_lload_2, wp_lstore_2, wp_lload_3, wp_lstore_3, wp_lload, wp_lstore, wp_aload_0, wp_astore_0, wp_aload_1, wp_astore_1, wp_aload_2, wp_astore_2, wp_aload_3, wp_astore_3, wp_aload, wp_astore, wp_iinc, wp_iadd, wp_isub, wp_imul, wp_iand, wp_ior, wp_ixor, wp_ishl, wp_ishr, wp_iushr, wp_irem, wp_ladd, wp_lsub, wp_lmul, wp_land, wp_lor, wp_lxor, wp_lshl, wp_lshr, wp_lushr, wp_lrem, wp_lcmp, wp_i2l, wp_l2i, wp_dupI, wp_dupA, wp_dup2J, wp_dup2IA, wp_popI, wp_popA, wp_pop2, wp_goto, wp_if_eq, wp_icmp_eq, wp_if_ne, wp_icmp_ne, wp_if_lt, wp_icmp_lt, wp_if_ge, wp_icmp_ge, wp_if_gt, wp_icmp_gt, wp_if_le, wp_icmp_le, wp_ifnull, wp_ifnonnull, wp_acmp_eq, wp_acmp_ne, wp_tableswitch, wp_get0, wp_put0, wp_get1, wp_put1, wp_get2, wp_put2, wp_get3, wp_put3, wp_new, wp_newarray, wp_anewarray, wp_alen, wp_iaload, wp_laload, wp_baload, wp_aaload, wp_iastore, wp_lastore, wp_bastore, wp_aastore, wp_return, wp_ireturnI, wp_ireturnZ, wp_lreturn, wp_areturnO, wp_areturnA, wp_max, wp_min, wp_obj, wp_virt, wp_nil, ld_I0, ld_Is, ld_J0, ld_Js, ld_A0, ld_As, ha_0, ha_s, cx_put1, cx_put2, cx_dl, cx_tgt, true_and, and_true, Nat.reduceAdd, Nat.reduceSub, Int.reduceAdd, Int.reduceNeg, Int.reduceToNat, Int.reduceSub, Int.cast_ofNat_Int, List.take_succ_cons, List.take_zero, List.drop_succ_cons, List.drop_zero, List.take_nil, List.drop_nil, Option.toList_some, Option.toList_none, List.cons_append, List.nil_append, wp_spec, ne_eq, Nat.reduceEqDiff, not_false_eq_true, true_or, or_true, rA_sNs hS, rs_sNs hS, rz_sNs hS, ra_145, (hS).1, f40]
  refine ⟨by omega, ?_⟩
  refine v_put hY W B hz (by omega) (by decide) (by omega) ?_
  intro g W B
  have hS := W.1.rS
  have a40 := W.1.r40 s
  have e68 := W.2.2.2.2
  have f40 := B.i40
  rw [f40] at a40
  have W2 : WI F G x n L (Q + 1) D U V h0 N O z m (p + 8 + 2 + 2) (cq_sI g (x + 40) s (cq_I g0 (x + 40) s + 1)) := by
    obtain ⟨M, T, f76, f72, f68⟩ := W
    have M := M.up (Q' := Q + 1) (by omega) (Int.le_refl _)
    refine ⟨?_, ?_, ?_, ?_, ?_⟩
    · (repeat' (first | with_reducible assumption | with_reducible refine MI.sJx ?_ | with_reducible refine MI.sJ ?_ (by decide) | with_reducible refine MI.sx ?_ ?_ (by decide) | with_reducible refine MI.sI ?_ ?_ (by decide) (by decide) | with_reducible refine MI.draw ?_)) <;> (try first | exact True.intro | exact ⟨by omega, by omega⟩)
    · repeat' (first | with_reducible assumption | with_reducible refine TI.sJ ?_ | (with_reducible refine TI.s2 ?_ ?_ ?_; rotate_left; omega; omega) | (with_reducible refine TI.s10 ?_ ?_ ?_; rotate_left; omega; omega) | (with_reducible refine TI.s33 ?_ ?_ ?_; rotate_left; omega; omega) | (with_reducible refine TI.sF ?_ ?_ ?_ ?_; rotate_left; decide; decide; decide) | (with_reducible refine TI.sT ?_ ?_ ?_; rotate_left; decide; first | exact fun q => absurd q (by decide) | exact fun _ => ⟨by omega, by omega⟩))
    · simp only [mm_sI, mm_sJ, mm_sA, mm_IJ, mm_IA, mm_JI, mm_JA, mm_AI, mm_AJ, mm_ssI, mm_ssJ, mm_ssA, mm_zI, mm_zJ, mm_zA, mm_nI, mm_nJ, mm_nA, Nat.left_eq_add, Nat.add_eq_left, Nat.add_left_cancel_iff, Nat.reduceEqDiff, Int.reduceEq, false_and, and_false, if_false, if_true, and_self, true_and, true_or, or_true, false_or, or_false]; exact f76
    · simp only [mm_sI, mm_sJ, mm_sA, mm_IJ, mm_IA, mm_JI, mm_JA, mm_AI, mm_AJ, mm_ssI, mm_ssJ, mm_ssA, mm_zI, mm_zJ, mm_zA, mm_nI, mm_nJ, mm_nA, Nat.left_eq_add, Nat.add_eq_left, Nat.add_left_cancel_iff, Nat.reduceEqDiff, Int.reduceEq, false_and, and_false, if_false, if_true, and_self, true_and, true_or, or_true, false_or, or_false]; exact f72
    · simp only [mm_sI, mm_sJ, mm_sA, mm_IJ, mm_IA, mm_JI, mm_JA, mm_AI, mm_AJ, mm_ssI, mm_ssJ, mm_ssA, mm_zI, mm_zJ, mm_zA, mm_nI, mm_nJ, mm_nA, Nat.left_eq_add, Nat.add_eq_left, Nat.add_left_cancel_iff, Nat.reduceEqDiff, Int.reduceEq, false_and, and_false, if_false, if_true, and_self, true_and, true_or, or_true, false_or, or_false]; exact f68
  have B2 : WV x s (cq_I g0 (x + 40) s + 1) z (p + 8 + 2 + 2) (wP (wP (wP ws p (cq_J g0 (x + 37) s) 8) (p + 8) (Int64.ofInt (cq_I g0 (x + 42) s)) 2) (p + 8 + 2) (Int64.ofInt (cq_I g0 (x + 40) s)) 2) g0 (cq_sI g (x + 40) s (cq_I g0 (x + 40) s + 1)) := by
    refine ⟨fun j w1 w2 w3 w4 => ?_, fun o j w1 w2 w3 w4 w5 => ?_, fun o j w1 w2 w3 w4 => B.J_ o j w1 w2 w3 w4, ?_, B.j32, fun j k0 k1 => ?_⟩
    · rw [mm_sI, if_neg (fun q => by omega)]
      exact B.x_ j w1 w2 w3 w4
    · rw [mm_sI, if_neg (fun q => w4 ⟨by omega, q.2⟩)]
      exact B.I_ o j w1 w2 w3 w4 w5
    · rw [mm_sI, if_pos ⟨rfl, rfl⟩]
    · rw [mm_sI, if_neg (fun q => by omega)]
      exact B.b_ j k0 k1
  have hS2 := W2.1.rS
  refine bx_X11_write_345 hY (pf1_ok hY) ?_
  simp only [wp_iconst, wp_bipush, wp_sipush, wp_ldc, wp_ldc2_w, wp_lconst0, wp_lconst1, wp_aconst_null, wp_iload_0, wp_istore_0, wp_iload_1, wp_istore_1, wp_iload_2, wp_istore_2, wp_iload_3, wp_istore_3, wp_iload, wp_istore, wp_lload_0, wp_lstore_0, wp_lload_1, wp_lstore_1, wp_lload_2, wp_lstore_2, wp_lload_3, wp_lstore_3, wp_lload, wp_lstore, wp_aload_0, wp_astore_0, wp_aload_1, wp_astore_1, wp_aload_2, wp_astore_2, wp_aload_3, wp_astore_3, wp_aload, wp_astore, wp_iinc, wp_iadd, wp_isub, wp_imul, wp_iand, wp_ior, wp_ixor, wp_ishl, wp_ishr, wp_iushr, wp_irem, wp_ladd, wp_lsub, wp_lmul, wp_land, wp_lor, wp_lxor, wp_lshl, wp_lshr, wp_lushr, wp_lrem, wp_lcmp, wp_i2l, wp_l2i, wp_dupI, wp_dupA, wp_dup2J, wp_dup2IA, wp_popI, wp_popA, wp_pop2, wp_goto, wp_if_eq, wp_icmp_eq, wp_if_ne, wp_icmp_ne, wp_if_lt, wp_icmp_lt, wp_if_ge, wp_icmp_ge, wp_if_gt, wp_icmp_gt, wp_if_le, wp_icmp_le, wp_ifnull, wp_ifnonnull, wp_acmp_eq, wp_acmp_ne, wp_tableswitch, wp_get0, wp_put0, wp_get1, wp_put1, wp_get2, wp_put2, wp_get3, wp_put3, wp_new, wp_newarray, wp_anewarray, wp_alen, wp_iaload, wp_laload, wp_baload, wp_aaload, wp_iastore, wp_lastore, wp_bastore, wp_aastore, wp_return, wp_ireturnI, wp_ireturnZ, wp_lreturn, wp_areturnO, wp_areturnA, wp_max, wp_min, wp_obj, wp_virt, wp_nil, ld_I0, ld_Is, ld_J0, ld_Js, ld_A0, ld_As, ha_0, ha_s, cx_put1, cx_put2, cx_dl, cx_tgt, true_and, and_true, Nat.reduceAdd, Nat.reduceSub, Int.reduceAdd, Int.reduceNeg, Int.reduceToNat, Int.reduceSub, Int.cast_ofNat_Int, List.take_succ_cons, List.take_zero, List.drop_succ_cons, List.drop_zero, List.take_nil, List.drop_nil, Option.toList_some, Option.toList_none, List.cons_append, List.nil_append, wp_spec, ne_eq, Nat.reduceEqDiff, not_false_eq_true, true_or, or_true, rA_sNs hS, rs_sNs hS, rz_sNs hS, ra_145, (hS).1, hS2.1, f40, cx_rg]
  (repeat' (with_reducible (first | refine And.intro ?_ ?_ | intro _)))
  all_goals (try omega)
  have e68b := W2.2.2.2.2
  have e68c : cq_I (cq_sI g (x + 40) s (cq_I g0 (x + 40) s + 1)) x 68 = m := e68b
  try rw [e68c]
  refine v_put hY W2 B2 hz (by omega) (by decide) (by omega) ?_
  intro g W B
  refine bx_X11_write_366 hY (pf1_ok hY) ?_
  simp only [wp_iconst, wp_bipush, wp_sipush, wp_ldc, wp_ldc2_w, wp_lconst0, wp_lconst1, wp_aconst_null, wp_iload_0, wp_istore_0, wp_iload_1, wp_istore_1, wp_iload_2, wp_istore_2, wp_iload_3, wp_istore_3, wp_iload, wp_istore, wp_lload_0, wp_lstore_0, wp_lload_1, wp_lstore_1, wp_lload_2, wp_lstore_2, wp_lload_3, wp_lstore_3, wp_lload, wp_lstore, wp_aload_0, wp_astore_0, wp_aload_1, wp_astore_1, wp_aload_2, wp_astore_2, wp_aload_3, wp_astore_3, wp_aload, wp_astore, wp_iinc, wp_iadd, wp_isub, wp_imul, wp_iand, wp_ior, wp_ixor, wp_ishl, wp_ishr, wp_iushr, wp_irem, wp_ladd, wp_lsub, wp_lmul, wp_land, wp_lor, wp_lxor, wp_lshl, wp_lshr, wp_lushr, wp_lrem, wp_lcmp, wp_i2l, wp_l2i, wp_dupI, wp_dupA, wp_dup2J, wp_dup2IA, wp_popI, wp_popA, wp_pop2, wp_goto, wp_if_eq, wp_icmp_eq, wp_if_ne, wp_icmp_ne, wp_if_lt, wp_icmp_lt, wp_if_ge, wp_icmp_ge, wp_if_gt, wp_icmp_gt, wp_if_le, wp_icmp_le, wp_ifnull, wp_ifnonnull, wp_acmp_eq, wp_acmp_ne, wp_tableswitch, wp_get0, wp_put0, wp_get1, wp_put1, wp_get2, wp_put2, wp_get3, wp_put3, wp_new, wp_newarray, wp_anewarray, wp_alen, wp_iaload, wp_laload, wp_baload, wp_aaload, wp_iastore, wp_lastore, wp_bastore, wp_aastore, wp_return, wp_ireturnI, wp_ireturnZ, wp_lreturn, wp_areturnO, wp_areturnA, wp_max, wp_min, wp_obj, wp_virt, wp_nil, ld_I0, ld_Is, ld_J0, ld_Js, ld_A0, ld_As, ha_0, ha_s, cx_put1, cx_put2, cx_dl, cx_tgt, true_and, and_true, Nat.reduceAdd, Nat.reduceSub, Int.reduceAdd, Int.reduceNeg, Int.reduceToNat, Int.reduceSub, Int.cast_ofNat_Int, List.take_succ_cons, List.take_zero, List.drop_succ_cons, List.drop_zero, List.take_nil, List.drop_nil, Option.toList_some, Option.toList_none, List.cons_append, List.nil_append, wp_spec, ne_eq, Nat.reduceEqDiff, not_false_eq_true, true_or, or_true]
  have e13 : p + 8 + 2 + 2 + 1 = p + 13 + 0 := by omega
  have e10 : p + 8 + 2 = p + 10 := by omega
  have e12 : p + 10 + 2 = p + 12 := by omega
  rw [e13] at W B
  rw [e10, e12] at B
  exact v_369 hY e72 hz ht hg hm (by omega) tb m.toNat 0 _ g (by decide) (by omega) hK W B
end
