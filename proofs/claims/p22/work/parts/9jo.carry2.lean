/-! the class, exactly: an opening is carried out -/
/-- behind the KEPT keys: the chain goes on -/
def coR (m : cx_Q) (s : Nat) (v : Int64) (i : Int) : cx_Q := cq_sI (cq_sJ m s 10 v) s 17 i
/-- a draw -/
def coD (m : cx_Q) (p t : Nat) (d : Int) : cx_Q := cq_sA (cq_sI m p 1 (d + 1)) p 2 (some t)
section
variable {Y : cx_Y} {K : Option cx_V → cx_Q → Prop} {c : Nat} {n L Z : Int} {E : Nat → Option Int} {h0 : cx_Q} {X : List Nat} {h : cx_Q}
theorem trW_s {m : cx_Q} {a q : Nat} {s : Int} {u v : Int64} {o : Option Nat} : cq_s (trW m a q s u v o) = cq_s m := Eq.trans rfl rfl
theorem tsW_s {m : cx_Q} {a t q : Nat} {r x : Int64} : cq_s (tsW m a t q r x) = cq_s m := Eq.trans rfl rfl
theorem coD_s {m : cx_Q} {p t : Nat} {d : Int} : cq_s (coD m p t d) = cq_s m := Eq.trans rfl rfl
theorem coD_J {m : cx_Q} {p t : Nat} {d : Int} : cq_J (coD m p t d) = cq_J m := Eq.trans rfl rfl
theorem coR_s {m : cx_Q} {s : Nat} {v : Int64} {i : Int} : cq_s (coR m s v i) = cq_s m := Eq.trans rfl rfl
theorem ew.cco {m m' : cx_Q} (p : ew m m') {s : Nat} {v : Int64} {i : Int} : ew (coR m s v i) (coR m' s v i) := by
  unfold coR
  (repeat' (first | with_reducible assumption | with_reducible exact ew.refl | with_reducible refine ew.cI ?_ | with_reducible refine ew.cJ ?_ | with_reducible refine ew.cA ?_ | with_reducible refine ew.rI ?_ | with_reducible refine ew.rJ ?_ | with_reducible refine ew.rA ?_))
theorem ew.cdr {m m' : cx_Q} (q : ew m m') {p t : Nat} {d : Int} : ew (coD m p t d) (coD m' p t d) := by
  unfold coD
  (repeat' (first | with_reducible assumption | with_reducible exact ew.refl | with_reducible refine ew.cI ?_ | with_reducible refine ew.cJ ?_ | with_reducible refine ew.cA ?_ | with_reducible refine ew.rI ?_ | with_reducible refine ew.rJ ?_ | with_reducible refine ew.rA ?_))
theorem ew.cts {m m' : cx_Q} (p : ew m m') {a t q : Nat} {r x : Int64} : ew (tsW m a t q r x) (tsW m' a t q r x) := by
  unfold tsW
  (repeat' (first | with_reducible assumption | with_reducible exact ew.refl | with_reducible refine ew.cI ?_ | with_reducible refine ew.cJ ?_ | with_reducible refine ew.cA ?_ | with_reducible refine ew.rI ?_ | with_reducible refine ew.rJ ?_ | with_reducible refine ew.rA ?_))
theorem ew.ctr {m m' : cx_Q} (p : ew m m') {a q : Nat} {s : Int} {u v : Int64} {o : Option Nat} : ew (trW m a q s u v o) (trW m' a q s u v o) := by
  unfold trW
  (repeat' (first | with_reducible assumption | with_reducible exact ew.refl | with_reducible refine ew.cI ?_ | with_reducible refine ew.cJ ?_ | with_reducible refine ew.cA ?_ | with_reducible refine ew.rI ?_ | with_reducible refine ew.rJ ?_ | with_reducible refine ew.rA ?_))
theorem et.cts {g : cx_Q} {a t q : Nat} {r x : Int64} (hs : cq_s g a = 7) : et g (tsW g a t q r x) := by
  have e := et.sA (et.refl (g := g)) (a := a) (j := 12) (v := some t) hs (by decide) (by decide)
  have e2 : et g (cq_sJ (cq_sJ (cq_sA g a 12 (some t)) a 8 (f_key 2 r x)) a 6 (f_key 1 r x)) := ⟨e.1, e.2.1, e.2.2⟩
  unfold tsW
  exact et.sA (et.sA e2 hs (by decide) (by decide)) hs (by decide) (by decide)
theorem et.ctr {g : cx_Q} {a q : Nat} {s : Int} {u v : Int64} {o : Option Nat} (hs : cq_s g a = 7) : et g (trW g a q s u v o) := by
  have e := et.sA (et.refl (g := g)) (a := a) (j := 14) (v := o) hs (by decide) (by decide)
  have e2 : et g (cq_sJ (cq_sI (cq_sA (cq_sJ (cq_sI (cq_sI (cq_sI g a 18 s) a 16 0) a 17 0) a 13 u) a 14 o) a 15 1) a 6 v) := ⟨e.1, e.2.1, e.2.2⟩
  unfold trW
  exact et.sA (et.sA e2 hs (by decide) (by decide)) hs (by decide) (by decide)
theorem et.coD {g : cx_Q} {p t : Nat} {d : Int} (hs : cq_s g p = 4) : et g (coD g p t d) := by
  have e : et g (cq_sI g p 1 (d + 1)) := ⟨fun _ _ => ⟨rfl, rfl⟩, fun _ _ _ _ => rfl, fun _ _ => rfl⟩
  exact et.sA e hs (by decide) (by decide)
/-- no turn is of that SECRET, of those with so long a row of pairs -/
def noP (P : Int → Prop) (g : cx_Q) (t : Nat) : Prop := ∀ q r j, cq_s g q = 8 → cq_A g q 1 = some r → P (cq_z g r) → cq_A g r j ≠ some t
theorem tq.new {g g' : cx_Q} {b t q : Nat} {x2 : Option Nat} (w : et g g') (ty : ∀ r, cq_s g q = 8 → cq_A g q 1 = some r → cq_s g r = 101) (no : noP (fun z => z = 2) g t) (p : tq g g' b (some t) x2 q) : cq_s g q = 99 := by
  obtain ⟨_, _, r, p3, _, p5, p6⟩ := p
  rcases p6 with p6 | p6
  · exact p6.1
  · exfalso
    have e1 : cq_A g q 1 = some r := by rw [← w.2.1 q 1 p6.1 (by decide)]; exact p3
    have sr := ty r p6.1 e1
    rw [w.2.2 r sr] at p6
    have z : cq_z g r = 2 := by rw [← (w.1 r (by rw [sr]; decide)).2]; exact p5
    rcases p6.2.2.2 with u | u
    · exact no q r 0 p6.1 e1 z u.1
    · exact no q r 1 p6.1 e1 z u.2
theorem noP_al {P : Int → Prop} {h : cx_Q} (H : CI c n L Z E h0 X h) : noP P h h.1 := fun q r j s1 e1 _ e2 => by
  have sr : cq_s h r = 101 := H.ta (j := 1) s1 (own_9 (by decide)) e1
  have this : cq_s h h.1 = 6 := H.ta sr (own_m (by decide)) e2
  rw [H.al _ (Nat.le_refl _)] at this
  exact absurd this (by decide)
theorem noP.n8 {P : Int → Prop} {h g : cx_Q} {t : Nat} (H : CI c n L Z E h0 X h) (no : noP P h t) (w : et h g) (n8 : ∀ d, cq_s g d = 8 → cq_s h d = 8) : noP P g t := fun q r j s1 e1 z e2 => by
  have s1' := n8 q s1
  have e1' : cq_A h q 1 = some r := by rw [← w.2.1 q 1 s1' (by decide)]; exact e1
  have sr : cq_s h r = 101 := H.ta (j := 1) s1' (own_9 (by decide)) e1'
  rw [w.2.2 r sr] at e2
  rw [(w.1 r (by rw [sr]; decide)).2] at z
  exact no q r j s1' e1' z e2
theorem noP.dr {P : Int → Prop} {g g' : cx_Q} {t u : Nat} (H : CI c n L Z E h0 X g) (no : noP P g t) (w : et g g') (ns : ∀ d, d ≠ u → cq_s g' d = cq_s g d) (su : cq_s g' u ≠ 8) : noP P g' t := no.n8 H w (fun d q => (ns d (fun e => su (by rw [← e]; exact q))).symm.trans q)
/-- a turn more, that is not of it either -/
theorem noP.to {P : Int → Prop} {h g : cx_Q} {a p t f : Nat} (H : CI c n L Z E h0 X h) (no : noP P h t) (T : toT h a p f g) (w : et h g) (np : P (cq_z g p) → ∀ j, cq_A g p j ≠ some t) : noP P g t := by
  obtain ⟨T1, T2, T3⟩ := T
  rcases T3 with ⟨eg, _⟩ | ⟨et_, q1, n8⟩
  · rw [eg]; exact no
  · intro q r j s1 e1 z e2
    rcases n8 q s1 with y | y
    · rw [y, q1] at e1
      cases e1
      exact np z j e2
    · have e1' : cq_A h q 1 = some r := by rw [← w.2.1 q 1 y (by decide)]; exact e1
      have sr : cq_s h r = 101 := H.ta (j := 1) y (own_9 (by decide)) e1'
      rw [w.2.2 r sr] at e2
      rw [(w.1 r (by rw [sr]; decide)).2] at z
      exact no q r j y e1' z e2
theorem e_X4_carryOut (hY : cY Y) {a b s e p k b0 b1 b2 b3 : Nat} {o : Option Nat} (H : CI c n L Z E h0 [] h) (hZ : Z ≤ 1000000) (hs : cq_s h a = 3) (hss : cq_s h s = 7) (hse : cq_s h e = 0) (hsp : cq_s h p = 4) (ho : ∀ b, o = some b → cq_s h b = 6) (eb : cq_A h a 0 = some b) (ek : cq_A h s 19 = some k) (e0 : cq_A h k 0 = some b0) (e1 : cq_A h k 1 = some b1) (e2 : cq_A h k 2 = some b2) (e3 : cq_A h k 3 = some b3) (hE : E b3 ≠ none) (hE7 : cq_s h0 s = 7 → E s ≠ none)
    (hr : cq_I h a 1 = -1 → 0 ≤ cq_I h a 3 ∧ 0 ≤ cq_I h a 4 ∧ cq_I h a 3 + cq_I h a 4 ≤ 10 ∧ cq_I h k 4 + (cq_I h a 3 + cq_I h a 4) ≤ 20) (hm : cq_I h a 1 = -1 ∨ (0 ≤ cq_I h a 1 ∧ cq_I h a 1 < cq_I h k 4)) (h2 : cq_I h a 1 = -1 → cq_I h a 2 = 0 ∨ cq_I h a 2 = 1)
    (hKp : 0 ≤ cq_I h a 1 → ∀ g, CI c n L (Z + 1) E h0 [] g → ew (kdr (cq_sI h s 5 0) k b0 b1 b2 (cq_I h a 1) (cq_I h k 4 - 1) (cq_I h k 4 - 1)) g → e4 h g b3 (fun r => if r = cq_I h k 4 - 1 then none else shT (cq_A h b3) (cq_I h a 1) (cq_I h k 4 - 1) r) → K none g)
    (hN : cq_I h a 1 = -1 → cq_I h a 2 = 0 → ∀ g, CI c n L (Z + 1) E h0 [] g → ew (coR (kpW (kpW (cq_sI h s 5 0) k b0 b1 b2 (cq_I h k 4) (cq_I h a 3) (cq_J h s 13) (cq_I h s 17) (fun i => cq_J h b i)) k b0 b1 b2 (cq_I h k 4 + cq_I h a 3) (cq_I h a 4) (cq_J h s 13) (cq_I h s 17) (fun i => cq_J h b (cq_I h a 3 + i))) s (cq_J h a 6) (cq_I h e 11 + 1)) g → e4 h g b3 (kpG (kpG (cq_A h b3) (cq_I h k 4) (cq_I h a 3) (fun _ => cq_A h s 11)) (cq_I h k 4 + cq_I h a 3) (cq_I h a 4) (fun _ => cq_A h s 11)) → K none g)
    (hT : cq_I h a 1 = -1 → cq_I h a 2 = 1 → ∀ g q q2 t r w, cq_A h s 7 = some r → cq_A h s 12 = some w → CI c n L (Z + 1) E h0 [] g → ew (tsW (coD (coR (kpW (trW (kpW (cq_sI h s 5 0) k b0 b1 b2 (cq_I h k 4) (cq_I h a 3) (cq_J h s 13) (cq_I h s 17) (fun i => cq_J h b i)) s q (cq_I h s 16) (cq_J h e 9) (cq_J h a 5) o) k b0 b1 b2 (cq_I h k 4 + cq_I h a 3) (cq_I h a 4) (cq_J h e 9) 0 (fun i => cq_J h b (cq_I h a 3 + i))) s (cq_J h a 6) (cq_I h e 11 + 1)) p t (cq_I h p 1)) s t q2 (cq_J h a 5) (f_common (dV (cq_J h p 0) (cq_I h p 1)) (cq_J h e 9))) g → e4 h g b3 (kpG (kpG (cq_A h b3) (cq_I h k 4) (cq_I h a 3) (fun _ => cq_A h s 11)) (cq_I h k 4 + cq_I h a 3) (cq_I h a 4) (fun _ => some q)) → tq h g r (some w) o q → tq h g q (some t) o q2 → cq_s h q2 = 99 → et h g → cq_s h t = 99 → cq_s g t = 6 → cq_J g t 0 = dV (cq_J h p 0) (cq_I h p 1) → cq_J g t 1 = dO (cq_J h p 0) (cq_I h p 1) → K none g) : cw Y mi_X4_carryOut K 0 [some (.inr (.inr (some a))), some (.inr (.inr (some s))), some (.inr (.inr (some e))), some (.inr (.inr (some p))), some (.inr (.inr o))] [] h 7 182 := by
  have sk : cq_s h k = 1 := H.ta hss (own_9 (by decide)) ek
  have sb : cq_s h b = 175 := H.ta hs (own_9 (by decide)) eb
  have sb0 : cq_s h b0 = 171 := H.ta sk (own_9 (by decide)) e0
  have sb1 : cq_s h b1 = 172 := H.ta sk (own_9 (by decide)) e1
  have sb2 : cq_s h b2 = 173 := H.ta sk (own_9 (by decide)) e2
  have na : ¬ a = s := ns hs hss (by decide)
  have nks : ¬ k = s := ns sk hss (by decide)
  have nes : ¬ e = s := ns hse hss (by decide)
  have nps : ¬ p = s := ns hsp hss (by decide)
  have ik := H.i1_4 sk
  have e11 := H.i0_11 hse
  have H1 := H.sI (a := s) (j := 5) (v := 0) hss (own_9 (by decide)) True.intro rfl
  -- from the second keeping on
  have j55 : ∀ (W g : cx_Q) (bc bs : Nat) (o' : Int64) (nr' : Int), 4 ≤ bc → 93 ≤ bs → CI c n L Z E h0 [] g → ew W g → e4 h g b3 (kpG (cq_A h b3) (cq_I h k 4) (cq_I h a 3) (fun _ => cq_A h s 11)) → cq_s W = cq_s h → cq_I h a 1 = -1 → cq_A g s 19 = some k → cq_A g k = cq_A h k → cq_I g a = cq_I h a → cq_J g a = cq_J h a → cq_J g b = cq_J h b → cq_A g a = cq_A h a → cq_I g e = cq_I h e → cq_I g p = cq_I h p → cq_J g p = cq_J h p → cq_I g k 4 = cq_I h k 4 + cq_I h a 3 → cq_J g s 13 = o' → cq_I g s 17 = nr' → (cq_I h a 2 = 1 → cq_J g s 6 = cq_J h a 5) → (cq_I h a 2 = 0 → ∀ g', CI c n L (Z + 1) E h0 [] g' → ew (coR (kpW W k b0 b1 b2 (cq_I h k 4 + cq_I h a 3) (cq_I h a 4) o' nr' (fun i => cq_J h b (cq_I h a 3 + i))) s (cq_J h a 6) (cq_I h e 11 + 1)) g' → e4 h g' b3 (kpG (kpG (cq_A h b3) (cq_I h k 4) (cq_I h a 3) (fun _ => cq_A h s 11)) (cq_I h k 4 + cq_I h a 3) (cq_I h a 4) (fun _ => cq_A g s 11)) → K none g') → (cq_I h a 2 = 1 → ∀ g' q2 t r, cq_A g s 7 = some r → CI c n L (Z + 1) E h0 [] g' → ew (tsW (coD (coR (kpW W k b0 b1 b2 (cq_I h k 4 + cq_I h a 3) (cq_I h a 4) o' nr' (fun i => cq_J h b (cq_I h a 3 + i))) s (cq_J h a 6) (cq_I h e 11 + 1)) p t (cq_I h p 1)) s t q2 (cq_J h a 5) (f_common (dV (cq_J h p 0) (cq_I h p 1)) o')) g' → e4 h g' b3 (kpG (kpG (cq_A h b3) (cq_I h k 4) (cq_I h a 3) (fun _ => cq_A h s 11)) (cq_I h k 4 + cq_I h a 3) (cq_I h a 4) (fun _ => cq_A g s 11)) → et g g' → tq g g' r (some t) (cq_A g s 14) q2 → cq_s g q2 = 99 → g.1 ≤ t → cq_s g' t = 6 → cq_J g' t 0 = dV (cq_J h p 0) (cq_I h p 1) → cq_J g' t 1 = dO (cq_J h p 0) (cq_I h p 1) → K none g') → cw Y mi_X4_carryOut K 55 [some (.inr (.inr (some a))), some (.inr (.inr (some s))), some (.inr (.inr (some e))), some (.inr (.inr (some p))), some (.inr (.inr o))] [] g bc bs := by
    intro W g bc bs o' nr' hbc hbs G eg e4_ Ws hm1 gk gkA gIa gJa gJb gAa gIe gIp gJp g4 g13 g17 g6 kN kT
    refine cw_room hbc hbs ?_
    have hr' := hr hm1
    have gs : cq_s g a = 3 := eg.s (by rw [Ws]; exact hs) (by decide)
    have gss : cq_s g s = 7 := eg.s (by rw [Ws]; exact hss) (by decide)
    have gse : cq_s g e = 0 := eg.s (by rw [Ws]; exact hse) (by decide)
    have gsp : cq_s g p = 4 := eg.s (by rw [Ws]; exact hsp) (by decide)
    have gsk : cq_s g k = 1 := eg.s (by rw [Ws]; exact sk) (by decide)
    have gsb : cq_s g b = 175 := eg.s (by rw [Ws]; exact sb) (by decide)
    have gs0 : cq_s g b0 = 171 := eg.s (by rw [Ws]; exact sb0) (by decide)
    have gs1 : cq_s g b1 = 172 := eg.s (by rw [Ws]; exact sb1) (by decide)
    have gs2 : cq_s g b2 = 173 := eg.s (by rw [Ws]; exact sb2) (by decide)
    refine bx_X4_carryOut_55 hY (pf2_ok hY) ?_
    simp only [wp_iconst, wp_bipush, wp_sipush, wp_ldc, wp_ldc2_w, wp_lconst0, wp_lconst1, wp_aconst_null, wp_iload_0, wp_istore_0, wp_iload_1, wp_istore_1, wp_iload_2, wp_istore_2, wp_iload_3, wp_istore_3, wp_iload, wp_istore, wp_lload_0, wp_lstore_0, wp_lload_1, wp_lstore_1, wp_lload_2, wp_lstore_2, wp_lload_3, wp_lstore_3, wp_lload, wp_lstore, wp_aload_0, wp_astore_0, wp_aload_1, wp_astore_1, wp_aload_2, wp_astore_2, wp_aload_3, wp_astore_3, wp_aload, wp_astore, wp_iinc, wp_iadd, wp_isub, wp_imul, wp_iand, wp_ior, wp_ixor, wp_ishl, wp_ishr, wp_iushr, wp_irem, wp_ladd, wp_lsub, wp_lmul, wp_land, wp_lor, wp_lxor, wp_lshl, wp_lshr, wp_lushr, wp_lrem, wp_lcmp, wp_i2l, wp_l2i, wp_dupI, wp_dupA, wp_dup2J, wp_dup2IA, wp_popI, wp_popA, wp_pop2, wp_goto, wp_if_eq, wp_icmp_eq, wp_if_ne, wp_icmp_ne, wp_if_lt, wp_icmp_lt, wp_if_ge, wp_icmp_ge, wp_if_gt, wp_icmp_gt, wp_if_le, wp_icmp_le, wp_ifnull, wp_ifnonnull, wp_acmp_eq, wp_acmp_ne, wp_tableswitch, wp_get0, wp_put0, wp_get1, wp_put1, wp_get2, wp_put2, wp_get3, wp_put3, wp_new, wp_newarray, wp_anewarray, wp_alen, wp_iaload, wp_laload, wp_baload, wp_aaload, wp_iastore, wp_lastore, wp_bastore, wp_aastore, wp_return, wp_ireturnI, wp_ireturnZ, wp_lreturn, wp_areturnO, wp_areturnA, wp_max, wp_min, wp_obj, wp_virt, wp_nil, ld_I0, ld_Is, ld_J0, ld_Js, ld_A0, ld_As, ha_0, ha_s, cx_put1, cx_put2, cx_dl, cx_tgt, true_and, and_true, Nat.reduceAdd, Nat.reduceSub, Int.reduceAdd, Int.reduceNeg, Int.reduceToNat, Int.reduceSub, Int.cast_ofNat_Int, List.take_succ_cons, List.take_zero, List.drop_succ_cons, List.drop_zero, List.take_nil, List.drop_nil, Option.toList_some, Option.toList_none, List.cons_append, List.nil_append, wp_spec, ne_eq, Nat.reduceEqDiff, not_false_eq_true, true_or, or_true, gs, gIa]
    refine cl_X4_keep (Nat.le_of_ble_eq_true rfl) gs (by omega) (by omega) (e_X4_keep hY G gs gss (by rw [gAa]; exact eb) gk (by rw [gkA]; exact e0) (by rw [gkA]; exact e1) (by rw [gkA]; exact e2) (by rw [gkA]; exact e3) hE (by omega) (by rw [g4]; omega) (fun g2 G2 k2 f2 es2 => ?_))
    rw [g4, g13, g17, gJb] at k2
    rw [g4] at f2
    have sb3 : cq_s h b3 = 174 := H.ta sk (own_9 (by decide)) e3
    have wg : et g g2 := (et.of (g := g) (g' := kpW g k b0 b1 b2 (cq_I h k 4 + cq_I h a 3) (cq_I h a 4) o' nr' (fun i => cq_J h b (cq_I h a 3 + i))) rfl rfl rfl).trans k2.et
    have f3 : e4 h g2 b3 (kpG (kpG (cq_A h b3) (cq_I h k 4) (cq_I h a 3) (fun _ => cq_A h s 11)) (cq_I h k 4 + cq_I h a 3) (cq_I h a 4) (fun _ => cq_A g s 11)) := fun d sd => by
      rw [f2 d (eg.s (by rw [Ws]; exact sd) (by decide)), e4_ d sd, e4_ b3 sb3, if_pos rfl]
      by_cases z : d = b3
      · rw [if_pos z, if_pos z]
      · rw [if_neg z, if_neg z, if_neg z]
    have A7 : ∀ j, cq_A g2 s j = cq_A g s j := fun j => by rw [k2.A (k0 := 7) (by rw [kpW_qs]; exact gss) rfl, kpW_qA]
    have s2 : ∀ {d q : Nat}, cq_s g d = q → q ≠ 99 → cq_s g2 d = q := fun {d q} w w2 => k2.s (by rw [kpW_qs]; exact w) w2
    have gs2' : cq_s g2 a = 3 := s2 gs (by decide)
    have gss2 : cq_s g2 s = 7 := s2 gss (by decide)
    have gse2 : cq_s g2 e = 0 := s2 gse (by decide)
    have gsp2 : cq_s g2 p = 4 := s2 gsp (by decide)
    have Ia2 : cq_I g2 a = cq_I h a := by rw [k2.I (k0 := 3) (by rw [kpW_qs]; exact gs) rfl, kpW_I (ns gs gsk (by decide)) (ns gs gs1 (by decide)), gIa]
    have Ja2 : cq_J g2 a = cq_J h a := by rw [k2.J (k0 := 3) (by rw [kpW_qs]; exact gs) (by decide), kpW_J (ns gs gs0 (by decide)) (ns gs gs2 (by decide)), gJa]
    have Ie2 : cq_I g2 e = cq_I h e := by rw [k2.I (k0 := 0) (by rw [kpW_qs]; exact gse) rfl, kpW_I (ns gse gsk (by decide)) (ns gse gs1 (by decide)), gIe]
    have Ip2 : cq_I g2 p = cq_I h p := by rw [k2.I (k0 := 4) (by rw [kpW_qs]; exact gsp) rfl, kpW_I (ns gsp gsk (by decide)) (ns gsp gs1 (by decide)), gIp]
    have Jp2 : cq_J g2 p = cq_J h p := by rw [k2.J (k0 := 4) (by rw [kpW_qs]; exact gsp) (by decide), kpW_J (ns gsp gs0 (by decide)) (ns gsp gs2 (by decide)), gJp]
    have Js2 : cq_J g2 s = cq_J g s := by rw [k2.J (k0 := 7) (by rw [kpW_qs]; exact gss) (by decide), kpW_J (ns gss gs0 (by decide)) (ns gss gs2 (by decide))]
    have kk : ew (coR (kpW W k b0 b1 b2 (cq_I h k 4 + cq_I h a 3) (cq_I h a 4) o' nr' (fun i => cq_J h b (cq_I h a 3 + i))) s (cq_J h a 6) (cq_I h e 11 + 1)) (coR g2 s (cq_J h a 6) (cq_I h e 11 + 1)) := ((eg.ckp (by rw [Ws]; exact sb0) (by rw [Ws]; exact sb1) (by rw [Ws]; exact sb2)).trans k2).cco
    have le2 : g.1 ≤ g2.1 := k2.1
    clear k2
    have wg3 : et g (coR g2 s (cq_J h a 6) (cq_I h e 11 + 1)) := wg.trans (et.of rfl rfl rfl)
    have es3 : cq_s (coR g2 s (cq_J h a 6) (cq_I h e 11 + 1)) = cq_s g := es2
    have A73 : ∀ j, cq_A (coR g2 s (cq_J h a 6) (cq_I h e 11 + 1)) s j = cq_A g s j := A7
    have f33 : e4 h (coR g2 s (cq_J h a 6) (cq_I h e 11 + 1)) b3 (kpG (kpG (cq_A h b3) (cq_I h k 4) (cq_I h a 3) (fun _ => cq_A h s 11)) (cq_I h k 4 + cq_I h a 3) (cq_I h a 4) (fun _ => cq_A g s 11)) := f3
    have G3 : CI c n L Z E h0 [] (coR g2 s (cq_J h a 6) (cq_I h e 11 + 1)) := (G2.sJ (a := s) (j := 10) (v := cq_J h a 6) gss2 (own_9 (by decide))).sI (a := s) (j := 17) (v := cq_I h e 11 + 1) gss2 (own_9 (by decide)) ⟨by omega, by omega⟩ rfl
    refine bx_X4_carryOut_68 hY (pf2_ok hY) ?_
    simp only [wp_iconst, wp_bipush, wp_sipush, wp_ldc, wp_ldc2_w, wp_lconst0, wp_lconst1, wp_aconst_null, wp_iload_0, wp_istore_0, wp_iload_1, wp_istore_1, wp_iload_2, wp_istore_2, wp_iload_3, wp_istore_3, wp_iload, wp_istore, wp_lload_0, wp_lstore_0, wp_lload_1, wp_lstore_1, wp_lload_2, wp_lstore_2, wp_lload_3, wp_lstore_3, wp_lload, wp_lstore, wp_aload_0, wp_astore_0, wp_aload_1, wp_astore_1, wp_aload_2, wp_astore_2, wp_aload_3, wp_astore_3, wp_aload, wp_astore, wp_iinc, wp_iadd, wp_isub, wp_imul, wp_iand, wp_ior, wp_ixor, wp_ishl, wp_ishr, wp_iushr, wp_irem, wp_ladd, wp_lsub, wp_lmul, wp_land, wp_lor, wp_lxor, wp_lshl, wp_lshr, wp_lushr, wp_lrem, wp_lcmp, wp_i2l, wp_l2i, wp_dupI, wp_dupA, wp_dup2J, wp_dup2IA, wp_popI, wp_popA, wp_pop2, wp_goto, wp_if_eq, wp_icmp_eq, wp_if_ne, wp_icmp_ne, wp_if_lt, wp_icmp_lt, wp_if_ge, wp_icmp_ge, wp_if_gt, wp_icmp_gt, wp_if_le, wp_icmp_le, wp_ifnull, wp_ifnonnull, wp_acmp_eq, wp_acmp_ne, wp_tableswitch, wp_get0, wp_put0, wp_get1, wp_put1, wp_get2, wp_put2, wp_get3, wp_put3, wp_new, wp_newarray, wp_anewarray, wp_alen, wp_iaload, wp_laload, wp_baload, wp_aaload, wp_iastore, wp_lastore, wp_bastore, wp_aastore, wp_return, wp_ireturnI, wp_ireturnZ, wp_lreturn, wp_areturnO, wp_areturnA, wp_max, wp_min, wp_obj, wp_virt, wp_nil, ld_I0, ld_Is, ld_J0, ld_Js, ld_A0, ld_As, ha_0, ha_s, cx_put1, cx_put2, cx_dl, cx_tgt, true_and, and_true, Nat.reduceAdd, Nat.reduceSub, Int.reduceAdd, Int.reduceNeg, Int.reduceToNat, Int.reduceSub, Int.cast_ofNat_Int, List.take_succ_cons, List.take_zero, List.drop_succ_cons, List.drop_zero, List.take_nil, List.drop_nil, Option.toList_some, Option.toList_none, List.cons_append, List.nil_append, wp_spec, ne_eq, Nat.reduceEqDiff, not_false_eq_true, true_or, or_true, gs2', gss2, gse2, na, Ia2, Ja2, Ie2, nes, mm_sI, mm_sJ, mm_sA, mm_IJ, mm_IA, mm_JI, mm_JA, mm_AI, mm_AJ, mm_ssI, mm_ssJ, mm_ssA, mm_zI, mm_zJ, mm_zA, mm_nI, mm_nJ, mm_nA, Nat.left_eq_add, Nat.add_eq_left, Nat.add_left_cancel_iff, Nat.reduceEqDiff, Int.reduceEq, false_and, and_false, if_false, if_true, and_self, true_and, true_or, or_true, false_or, or_false, cx_rg]
    refine ⟨by omega, ?_⟩
    have ec : cq_sI (cq_sJ g2 s 10 (cq_J h a 6)) s 17 (cq_I h e 11 + 1) = coR g2 s (cq_J h a 6) (cq_I h e 11 + 1) := rfl
    rw [ec]
    have Ip3 : cq_I (coR g2 s (cq_J h a 6) (cq_I h e 11 + 1)) p = cq_I h p := by
      rw [← Ip2]
      funext r
      unfold coR
      rw [mm_sI, if_neg (fun e => nps e.1), mm_IJ]
    have Jp3 : cq_J (coR g2 s (cq_J h a 6) (cq_I h e 11 + 1)) p = cq_J h p := by
      rw [← Jp2]
      funext r
      unfold coR
      rw [mm_JI, mm_sJ, if_neg (fun e => nps e.1)]
    have Js3 : cq_J (coR g2 s (cq_J h a 6) (cq_I h e 11 + 1)) s 6 = cq_J g s 6 := by
      unfold coR
      rw [mm_JI, mm_sJ, if_neg (fun e => absurd e.2 (by decide)), Js2]
    have Js4 : cq_J (coR g2 s (cq_J h a 6) (cq_I h e 11 + 1)) s 13 = o' := by
      unfold coR
      rw [mm_JI, mm_sJ, if_neg (fun e => absurd e.2 (by decide)), Js2]
      exact g13
    have ss3 : cq_s (coR g2 s (cq_J h a 6) (cq_I h e 11 + 1)) s = 7 := by rw [coR_s]; exact gss2
    have sp3 : cq_s (coR g2 s (cq_J h a 6) (cq_I h e 11 + 1)) p = 4 := by rw [coR_s]; exact gsp2
    have l3 : g.1 ≤ (coR g2 s (cq_J h a 6) (cq_I h e 11 + 1)).1 := le2
    generalize coR g2 s (cq_J h a 6) (cq_I h e 11 + 1) = g3 at G3 kk Ip3 Jp3 Js3 Js4 ss3 sp3 l3 wg3 es3 A73 f33 ⊢
    refine ⟨fun q => ?_, fun q => ?_⟩
    · refine bx_X4_carryOut_101 hY (pf2_ok hY) ?_
      simp only [wp_iconst, wp_bipush, wp_sipush, wp_ldc, wp_ldc2_w, wp_lconst0, wp_lconst1, wp_aconst_null, wp_iload_0, wp_istore_0, wp_iload_1, wp_istore_1, wp_iload_2, wp_istore_2, wp_iload_3, wp_istore_3, wp_iload, wp_istore, wp_lload_0, wp_lstore_0, wp_lload_1, wp_lstore_1, wp_lload_2, wp_lstore_2, wp_lload_3, wp_lstore_3, wp_lload, wp_lstore, wp_aload_0, wp_astore_0, wp_aload_1, wp_astore_1, wp_aload_2, wp_astore_2, wp_aload_3, wp_astore_3, wp_aload, wp_astore, wp_iinc, wp_iadd, wp_isub, wp_imul, wp_iand, wp_ior, wp_ixor, wp_ishl, wp_ishr, wp_iushr, wp_irem, wp_ladd, wp_lsub, wp_lmul, wp_land, wp_lor, wp_lxor, wp_lshl, wp_lshr, wp_lushr, wp_lrem, wp_lcmp, wp_i2l, wp_l2i, wp_dupI, wp_dupA, wp_dup2J, wp_dup2IA, wp_popI, wp_popA, wp_pop2, wp_goto, wp_if_eq, wp_icmp_eq, wp_if_ne, wp_icmp_ne, wp_if_lt, wp_icmp_lt, wp_if_ge, wp_icmp_ge, wp_if_gt, wp_icmp_gt, wp_if_le, wp_icmp_le, wp_ifnull, wp_ifnonnull, wp_acmp_eq, wp_acmp_ne, wp_tableswitch, wp_get0, wp_put0, wp_get1, wp_put1, wp_get2, wp_put2, wp_get3, wp_put3, wp_new, wp_newarray, wp_anewarray, wp_alen, wp_iaload, wp_laload, wp_baload, wp_aaload, wp_iastore, wp_lastore, wp_bastore, wp_aastore, wp_return, wp_ireturnI, wp_ireturnZ, wp_lreturn, wp_areturnO, wp_areturnA, wp_max, wp_min, wp_obj, wp_virt, wp_nil, ld_I0, ld_Is, ld_J0, ld_Js, ld_A0, ld_As, ha_0, ha_s, cx_put1, cx_put2, cx_dl, cx_tgt, true_and, and_true, Nat.reduceAdd, Nat.reduceSub, Int.reduceAdd, Int.reduceNeg, Int.reduceToNat, Int.reduceSub, Int.cast_ofNat_Int, List.take_succ_cons, List.take_zero, List.drop_succ_cons, List.drop_zero, List.take_nil, List.drop_nil, Option.toList_some, Option.toList_none, List.cons_append, List.nil_append, wp_spec, ne_eq, Nat.reduceEqDiff, not_false_eq_true, true_or, or_true]
      exact kN (by omega) _ (G3.up (by omega)) kk f33
    · have t1 : cq_I h a 2 = 1 := by omega
      refine cl_X5_drawSecret (Nat.le_of_ble_eq_true rfl) sp3 (by omega) (by omega) (e_X5_draw2 hY G3 sp3 hZ (fun g4' G4 k4 st v1 v2 ns4 => ?_))
      rw [Ip3] at k4
      rw [Ip3, Jp3] at v1 v2
      have k4' : ev (coD g3 p g3.1 (cq_I h p 1)) g4' := k4
      clear k4
      have q4 : cq_s (coD g3 p g3.1 (cq_I h p 1)) = cq_s g3 := coD_s
      have ss4 : cq_s g4' s = 7 := k4'.s (by rw [q4]; exact ss3) (by decide)
      have J4 : cq_J g4' s = cq_J g3 s := by
        rw [k4'.J (k0 := 7) (by rw [q4]; exact ss3) (by decide), coD_J]
      refine bx_X4_carryOut_98 hY (pf2_ok hY) ?_
      simp only [wp_iconst, wp_bipush, wp_sipush, wp_ldc, wp_ldc2_w, wp_lconst0, wp_lconst1, wp_aconst_null, wp_iload_0, wp_istore_0, wp_iload_1, wp_istore_1, wp_iload_2, wp_istore_2, wp_iload_3, wp_istore_3, wp_iload, wp_istore, wp_lload_0, wp_lstore_0, wp_lload_1, wp_lstore_1, wp_lload_2, wp_lstore_2, wp_lload_3, wp_lstore_3, wp_lload, wp_lstore, wp_aload_0, wp_astore_0, wp_aload_1, wp_astore_1, wp_aload_2, wp_astore_2, wp_aload_3, wp_astore_3, wp_aload, wp_astore, wp_iinc, wp_iadd, wp_isub, wp_imul, wp_iand, wp_ior, wp_ixor, wp_ishl, wp_ishr, wp_iushr, wp_irem, wp_ladd, wp_lsub, wp_lmul, wp_land, wp_lor, wp_lxor, wp_lshl, wp_lshr, wp_lushr, wp_lrem, wp_lcmp, wp_i2l, wp_l2i, wp_dupI, wp_dupA, wp_dup2J, wp_dup2IA, wp_popI, wp_popA, wp_pop2, wp_goto, wp_if_eq, wp_icmp_eq, wp_if_ne, wp_icmp_ne, wp_if_lt, wp_icmp_lt, wp_if_ge, wp_icmp_ge, wp_if_gt, wp_icmp_gt, wp_if_le, wp_icmp_le, wp_ifnull, wp_ifnonnull, wp_acmp_eq, wp_acmp_ne, wp_tableswitch, wp_get0, wp_put0, wp_get1, wp_put1, wp_get2, wp_put2, wp_get3, wp_put3, wp_new, wp_newarray, wp_anewarray, wp_alen, wp_iaload, wp_laload, wp_baload, wp_aaload, wp_iastore, wp_lastore, wp_bastore, wp_aastore, wp_return, wp_ireturnI, wp_ireturnZ, wp_lreturn, wp_areturnO, wp_areturnA, wp_max, wp_min, wp_obj, wp_virt, wp_nil, ld_I0, ld_Is, ld_J0, ld_Js, ld_A0, ld_As, ha_0, ha_s, cx_put1, cx_put2, cx_dl, cx_tgt, true_and, and_true, Nat.reduceAdd, Nat.reduceSub, Int.reduceAdd, Int.reduceNeg, Int.reduceToNat, Int.reduceSub, Int.cast_ofNat_Int, List.take_succ_cons, List.take_zero, List.drop_succ_cons, List.drop_zero, List.take_nil, List.drop_nil, Option.toList_some, Option.toList_none, List.cons_append, List.nil_append, wp_spec, ne_eq, Nat.reduceEqDiff, not_false_eq_true, true_or, or_true]
      refine cl_X8_turnSending (Nat.le_of_ble_eq_true rfl) ss4 (by omega) (by omega) (e_X8_turnSending hY G4 ss4 hE7 st (fun g5 q5 r5 er5 G5 k5 t5 => ?_))
      have A4 : ∀ j, cq_A g4' s j = cq_A g s j := fun j => by
        rw [k4'.A (k0 := 7) (by rw [q4]; exact ss3) rfl]
        unfold coD
        rw [mm_sA, if_neg (fun e => nps e.1.symm)]
        exact A73 j
      rw [A4] at er5 t5
      have w34 : et g3 g4' := (et.coD sp3).trans k4'.et
      have w45 : et g4' g5 := (et.cts ss4).trans k5.et
      have tn5 : cq_s g4' q5 = 99 := t5.new w45 (fun ro u1 u2 => G4.ta (j := 1) u1 (own_9 (by decide)) u2) ((noP_al G3).dr G3 w34 ns4 (by rw [st]; decide))
      have sq5 : cq_s g q5 = 99 := by
        rw [← es3]
        by_cases z : cq_s g3 q5 = 99
        · exact z
        · have := k4'.s (k0 := cq_s g3 q5) (a := q5) (by rw [q4]) z
          rw [tn5] at this
          exact this.symm
      have wg5 : et g g5 := (wg3.trans w34).trans w45
      have f5 : e4 h g5 b3 (kpG (kpG (cq_A h b3) (cq_I h k 4) (cq_I h a 3) (fun _ => cq_A h s 11)) (cq_I h k 4 + cq_I h a 3) (cq_I h a 4) (fun _ => cq_A g s 11)) := fun d sd => by
        have s3 : cq_s g3 d = 174 := by rw [es3]; exact eg.s (by rw [Ws]; exact sd) (by decide)
        have s4' : cq_s g4' d = 174 := k4'.s (by rw [q4]; exact s3) (by decide)
        rw [k5.A (k0 := 174) (by rw [tsW_s]; exact s4') rfl]
        have e1 : cq_A (tsW g4' s g3.1 q5 (cq_J g4' s 6) (f_common (cq_J g4' g3.1 0) (cq_J g4' s 13))) d = cq_A g4' d := by
          funext j
          have nd : ¬ d = s := fun e => by rw [e, ss4] at s4'; exact absurd s4' (by decide)
          unfold tsW
          simp only [nd, mm_sI, mm_sJ, mm_sA, mm_IJ, mm_IA, mm_JI, mm_JA, mm_AI, mm_AJ, mm_ssI, mm_ssJ, mm_ssA, mm_zI, mm_zJ, mm_zA, mm_nI, mm_nJ, mm_nA, Nat.left_eq_add, Nat.add_eq_left, Nat.add_left_cancel_iff, Nat.reduceEqDiff, Int.reduceEq, false_and, and_false, if_false, if_true, and_self, true_and, true_or, or_true, false_or, or_false]
        rw [e1, k4'.A (k0 := 174) (by rw [q4]; exact s3) rfl]
        have e2 : cq_A (coD g3 p g3.1 (cq_I h p 1)) d = cq_A g3 d := by
          funext j
          unfold coD
          rw [mm_sA, if_neg (fun e => by rw [e.1, sp3] at s3; exact absurd s3 (by decide))]
          rfl
        rw [e2]
        exact f33 d sd
      have t5' : tq g g5 r5 (some g3.1) (cq_A g s 14) q5 := t5.h (by rw [sq5, tn5])
      rw [v1, J4, Js3, Js4, g6 t1] at k5
      have nts : ¬ g3.1 = s := ns st ss4 (by decide)
      have st5 : cq_s (tsW g4' s g3.1 q5 (cq_J h a 5) (f_common (dV (cq_J h p 0) (cq_I h p 1)) o')) g3.1 = 6 := by rw [tsW_s]; exact st
      have J5 : cq_J g5 g3.1 = cq_J g4' g3.1 := by
        rw [k5.J (k0 := 6) st5 (by decide)]
        funext r
        unfold tsW
        simp only [nts, mm_sI, mm_sJ, mm_sA, mm_IJ, mm_IA, mm_JI, mm_JA, mm_AI, mm_AJ, mm_ssI, mm_ssJ, mm_ssA, mm_zI, mm_zJ, mm_zA, mm_nI, mm_nJ, mm_nA, Nat.left_eq_add, Nat.add_eq_left, Nat.add_left_cancel_iff, Nat.reduceEqDiff, Int.reduceEq, false_and, and_false, if_false, if_true, and_self, true_and, true_or, or_true, false_or, or_false]
      refine bx_X4_carryOut_101 hY (pf2_ok hY) ?_
      simp only [wp_iconst, wp_bipush, wp_sipush, wp_ldc, wp_ldc2_w, wp_lconst0, wp_lconst1, wp_aconst_null, wp_iload_0, wp_istore_0, wp_iload_1, wp_istore_1, wp_iload_2, wp_istore_2, wp_iload_3, wp_istore_3, wp_iload, wp_istore, wp_lload_0, wp_lstore_0, wp_lload_1, wp_lstore_1, wp_lload_2, wp_lstore_2, wp_lload_3, wp_lstore_3, wp_lload, wp_lstore, wp_aload_0, wp_astore_0, wp_aload_1, wp_astore_1, wp_aload_2, wp_astore_2, wp_aload_3, wp_astore_3, wp_aload, wp_astore, wp_iinc, wp_iadd, wp_isub, wp_imul, wp_iand, wp_ior, wp_ixor, wp_ishl, wp_ishr, wp_iushr, wp_irem, wp_ladd, wp_lsub, wp_lmul, wp_land, wp_lor, wp_lxor, wp_lshl, wp_lshr, wp_lushr, wp_lrem, wp_lcmp, wp_i2l, wp_l2i, wp_dupI, wp_dupA, wp_dup2J, wp_dup2IA, wp_popI, wp_popA, wp_pop2, wp_goto, wp_if_eq, wp_icmp_eq, wp_if_ne, wp_icmp_ne, wp_if_lt, wp_icmp_lt, wp_if_ge, wp_icmp_ge, wp_if_gt, wp_icmp_gt, wp_if_le, wp_icmp_le, wp_ifnull, wp_ifnonnull, wp_acmp_eq, wp_acmp_ne, wp_tableswitch, wp_get0, wp_put0, wp_get1, wp_put1, wp_get2, wp_put2, wp_get3, wp_put3, wp_new, wp_newarray, wp_anewarray, wp_alen, wp_iaload, wp_laload, wp_baload, wp_aaload, wp_iastore, wp_lastore, wp_bastore, wp_aastore, wp_return, wp_ireturnI, wp_ireturnZ, wp_lreturn, wp_areturnO, wp_areturnA, wp_max, wp_min, wp_obj, wp_virt, wp_nil, ld_I0, ld_Is, ld_J0, ld_Js, ld_A0, ld_As, ha_0, ha_s, cx_put1, cx_put2, cx_dl, cx_tgt, true_and, and_true, Nat.reduceAdd, Nat.reduceSub, Int.reduceAdd, Int.reduceNeg, Int.reduceToNat, Int.reduceSub, Int.cast_ofNat_Int, List.take_succ_cons, List.take_zero, List.drop_succ_cons, List.drop_zero, List.take_nil, List.drop_nil, Option.toList_some, Option.toList_none, List.cons_append, List.nil_append, wp_spec, ne_eq, Nat.reduceEqDiff, not_false_eq_true, true_or, or_true]
      exact kT t1 g5 q5 g3.1 r5 er5 G5 ((((kk.cdr).trans k4'.w).cts).trans k5.w) f5 wg5 t5' sq5 l3 (k5.s st5 (by decide)) (by rw [J5]; exact v1) (by rw [J5]; exact v2)
  refine bx_X4_carryOut_0 hY (pf2_ok hY) ?_
  simp only [wp_iconst, wp_bipush, wp_sipush, wp_ldc, wp_ldc2_w, wp_lconst0, wp_lconst1, wp_aconst_null, wp_iload_0, wp_istore_0, wp_iload_1, wp_istore_1, wp_iload_2, wp_istore_2, wp_iload_3, wp_istore_3, wp_iload, wp_istore, wp_lload_0, wp_lstore_0, wp_lload_1, wp_lstore_1, wp_lload_2, wp_lstore_2, wp_lload_3, wp_lstore_3, wp_lload, wp_lstore, wp_aload_0, wp_astore_0, wp_aload_1, wp_astore_1, wp_aload_2, wp_astore_2, wp_aload_3, wp_astore_3, wp_aload, wp_astore, wp_iinc, wp_iadd, wp_isub, wp_imul, wp_iand, wp_ior, wp_ixor, wp_ishl, wp_ishr, wp_iushr, wp_irem, wp_ladd, wp_lsub, wp_lmul, wp_land, wp_lor, wp_lxor, wp_lshl, wp_lshr, wp_lushr, wp_lrem, wp_lcmp, wp_i2l, wp_l2i, wp_dupI, wp_dupA, wp_dup2J, wp_dup2IA, wp_popI, wp_popA, wp_pop2, wp_goto, wp_if_eq, wp_icmp_eq, wp_if_ne, wp_icmp_ne, wp_if_lt, wp_icmp_lt, wp_if_ge, wp_icmp_ge, wp_if_gt, wp_icmp_gt, wp_if_le, wp_icmp_le, wp_ifnull, wp_ifnonnull, wp_acmp_eq, wp_acmp_ne, wp_tableswitch, wp_get0, wp_put0, wp_get1, wp_put1, wp_get2, wp_put2, wp_get3, wp_put3, wp_new, wp_newarray, wp_anewarray, wp_alen, wp_iaload, wp_laload, wp_baload, wp_aaload, wp_iastore, wp_lastore, wp_bastore, wp_aastore, wp_return, wp_ireturnI, wp_ireturnZ, wp_lreturn, wp_areturnO, wp_areturnA, wp_max, wp_min, wp_obj, wp_virt, wp_nil, ld_I0, ld_Is, ld_J0, ld_Js, ld_A0, ld_As, ha_0, ha_s, cx_put1, cx_put2, cx_dl, cx_tgt, true_and, and_true, Nat.reduceAdd, Nat.reduceSub, Int.reduceAdd, Int.reduceNeg, Int.reduceToNat, Int.reduceSub, Int.cast_ofNat_Int, List.take_succ_cons, List.take_zero, List.drop_succ_cons, List.drop_zero, List.take_nil, List.drop_nil, Option.toList_some, Option.toList_none, List.cons_append, List.nil_append, wp_spec, ne_eq, Nat.reduceEqDiff, not_false_eq_true, true_or, or_true, hs, hss, ek, na, mm_sI, mm_sJ, mm_sA, mm_IJ, mm_IA, mm_JI, mm_JA, mm_AI, mm_AJ, mm_ssI, mm_ssJ, mm_ssA, mm_zI, mm_zJ, mm_zA, mm_nI, mm_nJ, mm_nA, Nat.left_eq_add, Nat.add_eq_left, Nat.add_left_cancel_iff, Nat.reduceEqDiff, Int.reduceEq, false_and, and_false, if_false, if_true, and_self, true_and, true_or, or_true, false_or, or_false]
  (repeat' (with_reducible (first | refine And.intro ?_ ?_ | intro _)))
  all_goals (try omega)
  · rename_i q
    have hm1 : cq_I h a 1 = -1 := by omega
    have hr' := hr hm1
    have I1 : ∀ {d : Nat}, d ≠ s → cq_I (cq_sI h s 5 0) d = cq_I h d := fun {d} w => by funext r; rw [mm_sI, if_neg (fun e => w e.1)]
    have Is1 : ∀ j, j ≠ 5 → cq_I (cq_sI h s 5 0) s j = cq_I h s j := fun j w => by rw [mm_sI, if_neg (fun e => w e.2)]
    have gs1 : cq_s (cq_sI h s 5 0) a = 3 := hs
    refine bx_X4_carryOut_24 hY (pf2_ok hY) ?_
    simp only [wp_iconst, wp_bipush, wp_sipush, wp_ldc, wp_ldc2_w, wp_lconst0, wp_lconst1, wp_aconst_null, wp_iload_0, wp_istore_0, wp_iload_1, wp_istore_1, wp_iload_2, wp_istore_2, wp_iload_3, wp_istore_3, wp_iload, wp_istore, wp_lload_0, wp_lstore_0, wp_lload_1, wp_lstore_1, wp_lload_2, wp_lstore_2, wp_lload_3, wp_lstore_3, wp_lload, wp_lstore, wp_aload_0, wp_astore_0, wp_aload_1, wp_astore_1, wp_aload_2, wp_astore_2, wp_aload_3, wp_astore_3, wp_aload, wp_astore, wp_iinc, wp_iadd, wp_isub, wp_imul, wp_iand, wp_ior, wp_ixor, wp_ishl, wp_ishr, wp_iushr, wp_irem, wp_ladd, wp_lsub, wp_lmul, wp_land, wp_lor, wp_lxor, wp_lshl, wp_lshr, wp_lushr, wp_lrem, wp_lcmp, wp_i2l, wp_l2i, wp_dupI, wp_dupA, wp_dup2J, wp_dup2IA, wp_popI, wp_popA, wp_pop2, wp_goto, wp_if_eq, wp_icmp_eq, wp_if_ne, wp_icmp_ne, wp_if_lt, wp_icmp_lt, wp_if_ge, wp_icmp_ge, wp_if_gt, wp_icmp_gt, wp_if_le, wp_icmp_le, wp_ifnull, wp_ifnonnull, wp_acmp_eq, wp_acmp_ne, wp_tableswitch, wp_get0, wp_put0, wp_get1, wp_put1, wp_get2, wp_put2, wp_get3, wp_put3, wp_new, wp_newarray, wp_anewarray, wp_alen, wp_iaload, wp_laload, wp_baload, wp_aaload, wp_iastore, wp_lastore, wp_bastore, wp_aastore, wp_return, wp_ireturnI, wp_ireturnZ, wp_lreturn, wp_areturnO, wp_areturnA, wp_max, wp_min, wp_obj, wp_virt, wp_nil, ld_I0, ld_Is, ld_J0, ld_Js, ld_A0, ld_As, ha_0, ha_s, cx_put1, cx_put2, cx_dl, cx_tgt, true_and, and_true, Nat.reduceAdd, Nat.reduceSub, Int.reduceAdd, Int.reduceNeg, Int.reduceToNat, Int.reduceSub, Int.cast_ofNat_Int, List.take_succ_cons, List.take_zero, List.drop_succ_cons, List.drop_zero, List.take_nil, List.drop_nil, Option.toList_some, Option.toList_none, List.cons_append, List.nil_append, wp_spec, ne_eq, Nat.reduceEqDiff, not_false_eq_true, true_or, or_true, gs1]
    rw [I1 na]
    refine cl_X4_keep (Nat.le_of_ble_eq_true rfl) gs1 (by omega) (by omega) (e_X4_keep hY H1 gs1 hss eb ek e0 e1 e2 e3 hE (by omega) (by rw [I1 nks]; omega) (fun g2 G2 k2 f2 es2 => ?_))
    have ef : (fun i => cq_J (cq_sI h s 5 0) b (0 + i)) = (fun i => cq_J h b i) := by funext i; rw [Int.zero_add]; rfl
    rw [I1 nks, ef, Is1 17 (by decide)] at k2
    rw [I1 nks] at f2
    have f2' : e4 h g2 b3 (kpG (cq_A h b3) (cq_I h k 4) (cq_I h a 3) (fun _ => cq_A h s 11)) := f2
    have es2' : cq_s g2 = cq_s h := es2
    have k2' : ew (kpW (cq_sI h s 5 0) k b0 b1 b2 (cq_I h k 4) (cq_I h a 3) (cq_J h s 13) (cq_I h s 17) (fun i => cq_J h b i)) g2 := k2
    clear k2
    have s1 : cq_s (cq_sI h s 5 0) = cq_s h := rfl
    have s2 : ∀ {d q : Nat}, cq_s h d = q → q ≠ 99 → cq_s g2 d = q := fun {d q} w w2 => k2'.s (by rw [kpW_qs]; exact w) w2
    have I2 : ∀ {d q : Nat}, cq_s h d = q → okI q = true → q ≠ 1 → q ≠ 172 → d ≠ s → cq_I g2 d = cq_I h d := fun {d q} w w2 w3 w4 w5 => by rw [k2'.I (k0 := q) (by rw [kpW_qs]; exact w) w2, kpW_I (ns w sk w3) (ns w sb1 w4), I1 w5]
    have J2 : ∀ {d q : Nat}, cq_s h d = q → q ≠ 99 → q ≠ 171 → q ≠ 173 → cq_J g2 d = cq_J h d := fun {d q} w w2 w3 w4 => by rw [k2'.J (k0 := q) (by rw [kpW_qs]; exact w) w2, kpW_J (ns w sb0 w3) (ns w sb2 w4)]; rfl
    have A2 : ∀ {d q : Nat}, cq_s h d = q → okB q = true → cq_A g2 d = cq_A h d := fun {d q} w w2 => by rw [k2'.A (k0 := q) (by rw [kpW_qs]; exact w) w2, kpW_qA]; rfl
    have g4 : cq_I g2 k 4 = cq_I h k 4 + cq_I h a 3 := by rw [k2'.I (k0 := 1) (by rw [kpW_qs]; exact sk) rfl, kpW_4]
    have Is2 : ∀ j, j ≠ 5 → cq_I g2 s j = cq_I h s j := fun j w => by rw [k2'.I (k0 := 7) (by rw [kpW_qs]; exact hss) rfl, kpW_I (ns hss sk (by decide)) (ns hss sb1 (by decide)), Is1 j w]
    have gs2 : cq_s g2 a = 3 := s2 hs (by decide)
    have gss2 : cq_s g2 s = 7 := s2 hss (by decide)
    have gse2 : cq_s g2 e = 0 := s2 hse (by decide)
    refine bx_X4_carryOut_34 hY (pf2_ok hY) ?_
    simp only [wp_iconst, wp_bipush, wp_sipush, wp_ldc, wp_ldc2_w, wp_lconst0, wp_lconst1, wp_aconst_null, wp_iload_0, wp_istore_0, wp_iload_1, wp_istore_1, wp_iload_2, wp_istore_2, wp_iload_3, wp_istore_3, wp_iload, wp_istore, wp_lload_0, wp_lstore_0, wp_lload_1, wp_lstore_1, wp_lload_2, wp_lstore_2, wp_lload_3, wp_lstore_3, wp_lload, wp_lstore, wp_aload_0, wp_astore_0, wp_aload_1, wp_astore_1, wp_aload_2, wp_astore_2, wp_aload_3, wp_astore_3, wp_aload, wp_astore, wp_iinc, wp_iadd, wp_isub, wp_imul, wp_iand, wp_ior, wp_ixor, wp_ishl, wp_ishr, wp_iushr, wp_irem, wp_ladd, wp_lsub, wp_lmul, wp_land, wp_lor, wp_lxor, wp_lshl, wp_lshr, wp_lushr, wp_lrem, wp_lcmp, wp_i2l, wp_l2i, wp_dupI, wp_dupA, wp_dup2J, wp_dup2IA, wp_popI, wp_popA, wp_pop2, wp_goto, wp_if_eq, wp_icmp_eq, wp_if_ne, wp_icmp_ne, wp_if_lt, wp_icmp_lt, wp_if_ge, wp_icmp_ge, wp_if_gt, wp_icmp_gt, wp_if_le, wp_icmp_le, wp_ifnull, wp_ifnonnull, wp_acmp_eq, wp_acmp_ne, wp_tableswitch, wp_get0, wp_put0, wp_get1, wp_put1, wp_get2, wp_put2, wp_get3, wp_put3, wp_new, wp_newarray, wp_anewarray, wp_alen, wp_iaload, wp_laload, wp_baload, wp_aaload, wp_iastore, wp_lastore, wp_bastore, wp_aastore, wp_return, wp_ireturnI, wp_ireturnZ, wp_lreturn, wp_areturnO, wp_areturnA, wp_max, wp_min, wp_obj, wp_virt, wp_nil, ld_I0, ld_Is, ld_J0, ld_Js, ld_A0, ld_As, ha_0, ha_s, cx_put1, cx_put2, cx_dl, cx_tgt, true_and, and_true, Nat.reduceAdd, Nat.reduceSub, Int.reduceAdd, Int.reduceNeg, Int.reduceToNat, Int.reduceSub, Int.cast_ofNat_Int, List.take_succ_cons, List.take_zero, List.drop_succ_cons, List.drop_zero, List.take_nil, List.drop_nil, Option.toList_some, Option.toList_none, List.cons_append, List.nil_append, wp_spec, ne_eq, Nat.reduceEqDiff, not_false_eq_true, true_or, or_true, gs2, gse2, I2 hs rfl (by decide) (by decide) na, J2 hse (by decide) (by decide) (by decide), J2 hs (by decide) (by decide) (by decide)]
    refine ⟨fun z => j55 _ g2 _ _ (cq_J h s 13) (cq_I h s 17) (by omega) (by omega) G2 k2' f2' kpW_qs hm1 (by rw [A2 hss rfl]; exact ek) (A2 sk rfl) (I2 hs rfl (by decide) (by decide) na) (J2 hs (by decide) (by decide) (by decide)) (J2 sb (by decide) (by decide) (by decide)) (A2 hs rfl) (I2 hse rfl (by decide) (by decide) nes) (I2 hsp rfl (by decide) (by decide) nps) (J2 hsp (by decide) (by decide) (by decide)) g4 (by rw [J2 hss (by decide) (by decide) (by decide)]) (Is2 17 (by decide)) (fun w => by omega) (fun w g' G' k' f' => hN hm1 w g' G' k' (by rw [A2 hss rfl] at f'; exact f')) (fun w => by omega), fun z => ?_⟩
    have t1 : cq_I h a 2 = 1 := by omega
    refine cl_X8_turnReceiving (Nat.le_of_ble_eq_true rfl) gss2 (by omega) (by omega) (e_X8_turnReceiving hY G2 gss2 hE7 (fun b q => s2 (ho b q) (by decide)) (fun g3 q3 r3 w3 er3 ew3 G3 k3 t3 => ?_))
    rw [A2 hss rfl] at er3 ew3
    rw [Is2 16 (by decide)] at k3
    have kt := k2'.ctr (a := s) (q := q3) (s := cq_I h s 16) (u := cq_J h e 9) (v := cq_J h a 5) (o := o)
    have kk := kt.trans k3.w
    clear kt
    have ts : cq_s (trW g2 s q3 (cq_I h s 16) (cq_J h e 9) (cq_J h a 5) o) = cq_s g2 := trW_s
    have tsW' : cq_s (trW (kpW (cq_sI h s 5 0) k b0 b1 b2 (cq_I h k 4) (cq_I h a 3) (cq_J h s 13) (cq_I h s 17) (fun i => cq_J h b i)) s q3 (cq_I h s 16) (cq_J h e 9) (cq_J h a 5) o) = cq_s h := by rw [trW_s, kpW_qs]; exact mm_ssI
    have tI : ∀ {d : Nat}, d ≠ s → cq_I (trW g2 s q3 (cq_I h s 16) (cq_J h e 9) (cq_J h a 5) o) d = cq_I g2 d := fun {d} w => by funext r; unfold trW; simp only [w, mm_sI, mm_sJ, mm_sA, mm_IJ, mm_IA, mm_JI, mm_JA, mm_AI, mm_AJ, mm_ssI, mm_ssJ, mm_ssA, mm_zI, mm_zJ, mm_zA, mm_nI, mm_nJ, mm_nA, Nat.left_eq_add, Nat.add_eq_left, Nat.add_left_cancel_iff, Nat.reduceEqDiff, Int.reduceEq, false_and, and_false, if_false, if_true, and_self, true_and, true_or, or_true, false_or, or_false]
    have tJ : ∀ {d : Nat}, d ≠ s → cq_J (trW g2 s q3 (cq_I h s 16) (cq_J h e 9) (cq_J h a 5) o) d = cq_J g2 d := fun {d} w => by funext r; unfold trW; simp only [w, mm_sI, mm_sJ, mm_sA, mm_IJ, mm_IA, mm_JI, mm_JA, mm_AI, mm_AJ, mm_ssI, mm_ssJ, mm_ssA, mm_zI, mm_zJ, mm_zA, mm_nI, mm_nJ, mm_nA, Nat.left_eq_add, Nat.add_eq_left, Nat.add_left_cancel_iff, Nat.reduceEqDiff, Int.reduceEq, false_and, and_false, if_false, if_true, and_self, true_and, true_or, or_true, false_or, or_false]
    have tA : ∀ {d : Nat}, d ≠ s → cq_A (trW g2 s q3 (cq_I h s 16) (cq_J h e 9) (cq_J h a 5) o) d = cq_A g2 d := fun {d} w => by funext r; unfold trW; simp only [w, mm_sI, mm_sJ, mm_sA, mm_IJ, mm_IA, mm_JI, mm_JA, mm_AI, mm_AJ, mm_ssI, mm_ssJ, mm_ssA, mm_zI, mm_zJ, mm_zA, mm_nI, mm_nJ, mm_nA, Nat.left_eq_add, Nat.add_eq_left, Nat.add_left_cancel_iff, Nat.reduceEqDiff, Int.reduceEq, false_and, and_false, if_false, if_true, and_self, true_and, true_or, or_true, false_or, or_false]
    have I3 : ∀ {d q : Nat}, cq_s g2 d = q → okI q = true → d ≠ s → cq_I g3 d = cq_I g2 d := fun {d q} w w2 w5 => by rw [k3.I (k0 := q) (by rw [ts]; exact w) w2, tI w5]
    have J3 : ∀ {d q : Nat}, cq_s g2 d = q → q ≠ 99 → d ≠ s → cq_J g3 d = cq_J g2 d := fun {d q} w w2 w5 => by rw [k3.J (k0 := q) (by rw [ts]; exact w) w2, tJ w5]
    have A3 : ∀ {d q : Nat}, cq_s g2 d = q → okA q = true → d ≠ s → cq_A g3 d = cq_A g2 d := fun {d q} w w2 w5 => by rw [k3.A (k0 := q) (by rw [ts]; exact w) w2, tA w5]
    have gsk2 : cq_s g2 k = 1 := s2 sk (by decide)
    have gsp2 : cq_s g2 p = 4 := s2 hsp (by decide)
    have gsb2 : cq_s g2 b = 175 := s2 sb (by decide)
    have nbs : ¬ b = s := ns sb hss (by decide)
    have a19 : cq_A g3 s 19 = some k := by
      rw [k3.A (k0 := 7) (by rw [ts]; exact gss2) rfl]
      unfold trW
      simp only [mm_sI, mm_sJ, mm_sA, mm_IJ, mm_IA, mm_JI, mm_JA, mm_AI, mm_AJ, mm_ssI, mm_ssJ, mm_ssA, mm_zI, mm_zJ, mm_zA, mm_nI, mm_nJ, mm_nA, Nat.left_eq_add, Nat.add_eq_left, Nat.add_left_cancel_iff, Nat.reduceEqDiff, Int.reduceEq, false_and, and_false, if_false, if_true, and_self, true_and, true_or, or_true, false_or, or_false]
      rw [A2 hss rfl]
      exact ek
    have j13 : cq_J g3 s 13 = cq_J h e 9 := by
      rw [k3.J (k0 := 7) (by rw [ts]; exact gss2) (by decide)]
      unfold trW
      simp only [mm_sI, mm_sJ, mm_sA, mm_IJ, mm_IA, mm_JI, mm_JA, mm_AI, mm_AJ, mm_ssI, mm_ssJ, mm_ssA, mm_zI, mm_zJ, mm_zA, mm_nI, mm_nJ, mm_nA, Nat.left_eq_add, Nat.add_eq_left, Nat.add_left_cancel_iff, Nat.reduceEqDiff, Int.reduceEq, false_and, and_false, if_false, if_true, and_self, true_and, true_or, or_true, false_or, or_false]
    have j6 : cq_J g3 s 6 = cq_J h a 5 := by
      rw [k3.J (k0 := 7) (by rw [ts]; exact gss2) (by decide)]
      unfold trW
      simp only [mm_sI, mm_sJ, mm_sA, mm_IJ, mm_IA, mm_JI, mm_JA, mm_AI, mm_AJ, mm_ssI, mm_ssJ, mm_ssA, mm_zI, mm_zJ, mm_zA, mm_nI, mm_nJ, mm_nA, Nat.left_eq_add, Nat.add_eq_left, Nat.add_left_cancel_iff, Nat.reduceEqDiff, Int.reduceEq, false_and, and_false, if_false, if_true, and_self, true_and, true_or, or_true, false_or, or_false]
    have i17 : cq_I g3 s 17 = 0 := by
      rw [k3.I (k0 := 7) (by rw [ts]; exact gss2) rfl]
      unfold trW
      simp only [mm_sI, mm_sJ, mm_sA, mm_IJ, mm_IA, mm_JI, mm_JA, mm_AI, mm_AJ, mm_ssI, mm_ssJ, mm_ssA, mm_zI, mm_zJ, mm_zA, mm_nI, mm_nJ, mm_nA, Nat.left_eq_add, Nat.add_eq_left, Nat.add_left_cancel_iff, Nat.reduceEqDiff, Int.reduceEq, false_and, and_false, if_false, if_true, and_self, true_and, true_or, or_true, false_or, or_false]
    have a11 : cq_A g3 s 11 = some q3 := by
      rw [k3.A (k0 := 7) (by rw [ts]; exact gss2) rfl]
      unfold trW
      simp only [mm_sI, mm_sJ, mm_sA, mm_IJ, mm_IA, mm_JI, mm_JA, mm_AI, mm_AJ, mm_ssI, mm_ssJ, mm_ssA, mm_zI, mm_zJ, mm_zA, mm_nI, mm_nJ, mm_nA, Nat.left_eq_add, Nat.add_eq_left, Nat.add_left_cancel_iff, Nat.reduceEqDiff, Int.reduceEq, false_and, and_false, if_false, if_true, and_self, true_and, true_or, or_true, false_or, or_false]
    have a7 : cq_A g3 s 7 = some q3 := by
      rw [k3.A (k0 := 7) (by rw [ts]; exact gss2) rfl]
      unfold trW
      simp only [mm_sI, mm_sJ, mm_sA, mm_IJ, mm_IA, mm_JI, mm_JA, mm_AI, mm_AJ, mm_ssI, mm_ssJ, mm_ssA, mm_zI, mm_zJ, mm_zA, mm_nI, mm_nJ, mm_nA, Nat.left_eq_add, Nat.add_eq_left, Nat.add_left_cancel_iff, Nat.reduceEqDiff, Int.reduceEq, false_and, and_false, if_false, if_true, and_self, true_and, true_or, or_true, false_or, or_false]
    have a14 : cq_A g3 s 14 = o := by
      rw [k3.A (k0 := 7) (by rw [ts]; exact gss2) rfl]
      unfold trW
      simp only [mm_sI, mm_sJ, mm_sA, mm_IJ, mm_IA, mm_JI, mm_JA, mm_AI, mm_AJ, mm_ssI, mm_ssJ, mm_ssA, mm_zI, mm_zJ, mm_zA, mm_nI, mm_nJ, mm_nA, Nat.left_eq_add, Nat.add_eq_left, Nat.add_left_cancel_iff, Nat.reduceEqDiff, Int.reduceEq, false_and, and_false, if_false, if_true, and_self, true_and, true_or, or_true, false_or, or_false]
    have t3' : tq h g3 r3 (some w3) o q3 := t3.h (by rw [es2'])
    have f3' : e4 h g3 b3 (kpG (cq_A h b3) (cq_I h k 4) (cq_I h a 3) (fun _ => cq_A h s 11)) := fun d sd => by
      have s2' : cq_s g2 d = 174 := s2 sd (by decide)
      rw [A3 s2' rfl (fun e => by rw [e, gss2] at s2'; exact absurd s2' (by decide))]
      exact f2' d sd
    have sn3 : ∀ {d : Nat}, cq_s g3 d = 99 → cq_s h d = 99 := fun {d} q => by
      by_cases z : cq_s h d = 99
      · exact z
      · have := kk.s (k0 := cq_s h d) (a := d) (by rw [tsW']) z
        rw [q] at this
        exact this.symm
    have whg : et h g3 := (((et.of (g := h) (g' := kpW (cq_sI h s 5 0) k b0 b1 b2 (cq_I h k 4) (cq_I h a 3) (cq_J h s 13) (cq_I h s 17) (fun i => cq_J h b i)) rfl rfl rfl).trans k2'.et).trans (et.ctr gss2)).trans k3.et
    have le3 : h.1 ≤ g3.1 := Nat.le_trans (Nat.le_trans (Nat.le_refl _) k2'.1) k3.1
    refine j55 _ g3 _ _ (cq_J h e 9) 0 (by omega) (by omega) G3 kk f3' tsW' hm1 a19 (by rw [A3 gsk2 rfl nks, A2 sk rfl]) (by rw [I3 gs2 rfl na, I2 hs rfl (by decide) (by decide) na]) (by rw [J3 gs2 (by decide) na, J2 hs (by decide) (by decide) (by decide)]) (by rw [J3 gsb2 (by decide) nbs, J2 sb (by decide) (by decide) (by decide)]) (by rw [A3 gs2 rfl na, A2 hs rfl]) (by rw [I3 gse2 rfl nes, I2 hse rfl (by decide) (by decide) nes]) (by rw [I3 gsp2 rfl nps, I2 hsp rfl (by decide) (by decide) nps]) (by rw [J3 gsp2 (by decide) nps, J2 hsp (by decide) (by decide) (by decide)]) (by rw [I3 gsk2 rfl nks]; exact g4) j13 i17 (fun _ => j6) (fun w => by omega) (fun w g' q2 t r er G' k' f' w' t' sq le' st v1 v2 => hT hm1 t1 g' q3 q2 t r3 w3 er3 ew3 G' k' (by rw [a11] at f'; exact f') (t3'.w w') (by
      rw [a7] at er
      cases er
      rw [a14] at t'
      exact t'.h (by rw [sq, sn3 sq])) (sn3 sq) (whg.trans w') (H.al t (Nat.le_trans le3 le')) st v1 v2)
  · rename_i q
    have sk1 : cq_s (cq_sI h s 5 0) k = 1 := sk
    have I1 : cq_I (cq_sI h s 5 0) k = cq_I h k := by funext r; rw [mm_sI, if_neg (fun e => nks e.1)]
    refine cl_X1_drop (Nat.le_of_ble_eq_true rfl) sk1 (by omega) (by omega) (e_X1_drop hY H1 List.not_mem_nil sk1 e0 e1 e2 e3 hE (by rw [I1]; omega) (fun g2 G2 k2 f2 => ?_))
    rw [I1] at k2 f2
    refine bx_X4_carryOut_23 hY (pf2_ok hY) ?_
    simp only [wp_iconst, wp_bipush, wp_sipush, wp_ldc, wp_ldc2_w, wp_lconst0, wp_lconst1, wp_aconst_null, wp_iload_0, wp_istore_0, wp_iload_1, wp_istore_1, wp_iload_2, wp_istore_2, wp_iload_3, wp_istore_3, wp_iload, wp_istore, wp_lload_0, wp_lstore_0, wp_lload_1, wp_lstore_1, wp_lload_2, wp_lstore_2, wp_lload_3, wp_lstore_3, wp_lload, wp_lstore, wp_aload_0, wp_astore_0, wp_aload_1, wp_astore_1, wp_aload_2, wp_astore_2, wp_aload_3, wp_astore_3, wp_aload, wp_astore, wp_iinc, wp_iadd, wp_isub, wp_imul, wp_iand, wp_ior, wp_ixor, wp_ishl, wp_ishr, wp_iushr, wp_irem, wp_ladd, wp_lsub, wp_lmul, wp_land, wp_lor, wp_lxor, wp_lshl, wp_lshr, wp_lushr, wp_lrem, wp_lcmp, wp_i2l, wp_l2i, wp_dupI, wp_dupA, wp_dup2J, wp_dup2IA, wp_popI, wp_popA, wp_pop2, wp_goto, wp_if_eq, wp_icmp_eq, wp_if_ne, wp_icmp_ne, wp_if_lt, wp_icmp_lt, wp_if_ge, wp_icmp_ge, wp_if_gt, wp_icmp_gt, wp_if_le, wp_icmp_le, wp_ifnull, wp_ifnonnull, wp_acmp_eq, wp_acmp_ne, wp_tableswitch, wp_get0, wp_put0, wp_get1, wp_put1, wp_get2, wp_put2, wp_get3, wp_put3, wp_new, wp_newarray, wp_anewarray, wp_alen, wp_iaload, wp_laload, wp_baload, wp_aaload, wp_iastore, wp_lastore, wp_bastore, wp_aastore, wp_return, wp_ireturnI, wp_ireturnZ, wp_lreturn, wp_areturnO, wp_areturnA, wp_max, wp_min, wp_obj, wp_virt, wp_nil, ld_I0, ld_Is, ld_J0, ld_Js, ld_A0, ld_As, ha_0, ha_s, cx_put1, cx_put2, cx_dl, cx_tgt, true_and, and_true, Nat.reduceAdd, Nat.reduceSub, Int.reduceAdd, Int.reduceNeg, Int.reduceToNat, Int.reduceSub, Int.cast_ofNat_Int, List.take_succ_cons, List.take_zero, List.drop_succ_cons, List.drop_zero, List.take_nil, List.drop_nil, Option.toList_some, Option.toList_none, List.cons_append, List.nil_append, wp_spec, ne_eq, Nat.reduceEqDiff, not_false_eq_true, true_or, or_true]
    exact hKp (by omega) _ (G2.up (by omega)) k2 f2
end
