/-! class and reference side by side: a first letter, from its plan on -/
/-- a turn of a pair, and a first turn: what is told of them where it is not said when they were made -/
def tw (h g : cx_Q) (b : Nat) (x1 x2 : Option Nat) (q : Nat) : Prop := cq_s g q = 8 ∧ cq_A g q 0 = some b ∧ ∃ r, cq_A g q 1 = some r ∧ cq_s g r = 101 ∧ cq_z g r = 2 ∧ ((cq_s h q = 99 ∧ cq_A g r 0 = x1 ∧ cq_A g r 1 = x2) ∨ (x1 ≠ none ∧ x2 ≠ none ∧ ((cq_A g r 0 = x1 ∧ cq_A g r 1 = x2) ∨ (cq_A g r 0 = x2 ∧ cq_A g r 1 = x1))))
def fpw (h g : cx_Q) (b f : Nat) (o0 o1 o2 o3 o4 : Option Nat) : Prop := cq_s g f = 8 ∧ cq_A g f 0 = some b ∧ ∃ r, cq_A g f 1 = some r ∧ cq_s g r = 101 ∧ ((cq_s h f = 99 ∧ FPr g r o0 o1 o2 o3 o4) ∨ ∃ p, FPr g p o0 o1 o2 o3 o4 ∧ mtR g r p)
theorem tq.tw {h h1 g : cx_Q} {b q : Nat} {x1 x2 : Option Nat} (p : tq h1 g b x1 x2 q) (e : cq_s h1 q = 99 → cq_s h q = 99) : tw h g b x1 x2 q := by
  obtain ⟨p1, p2, r, p3, p4, p5, p6⟩ := p
  refine ⟨p1, p2, r, p3, p4, p5, ?_⟩
  rcases p6 with p6 | p6
  · exact Or.inl ⟨e p6.1, p6.2⟩
  · exact Or.inr p6.2
theorem fpT.fw {h h1 g : cx_Q} {b f : Nat} {o0 o1 o2 o3 o4 : Option Nat} (p : fpT h1 g b f o0 o1 o2 o3 o4) (e : cq_s h1 f = 99 → cq_s h f = 99) : fpw h g b f o0 o1 o2 o3 o4 := by
  obtain ⟨p1, p2, r, p3, p4, p6⟩ := p
  refine ⟨p1, p2, r, p3, p4, ?_⟩
  rcases p6 with p6 | p6
  · exact Or.inl ⟨e p6.1, p6.2⟩
  · exact Or.inr p6.2
theorem tw.hw {h h1 g : cx_Q} {b q : Nat} {x1 x2 : Option Nat} (p : tw h1 g b x1 x2 q) (e : cq_s h1 q = 99 → cq_s h q = 99) : tw h g b x1 x2 q := by
  obtain ⟨p1, p2, r, p3, p4, p5, p6⟩ := p
  refine ⟨p1, p2, r, p3, p4, p5, ?_⟩
  rcases p6 with p6 | p6
  · exact Or.inl ⟨e p6.1, p6.2⟩
  · exact Or.inr p6
theorem fpw.hw {h h1 g : cx_Q} {b f : Nat} {o0 o1 o2 o3 o4 : Option Nat} (p : fpw h1 g b f o0 o1 o2 o3 o4) (e : cq_s h1 f = 99 → cq_s h f = 99) : fpw h g b f o0 o1 o2 o3 o4 := by
  obtain ⟨p1, p2, r, p3, p4, p6⟩ := p
  refine ⟨p1, p2, r, p3, p4, ?_⟩
  rcases p6 with p6 | p6
  · exact Or.inl ⟨e p6.1, p6.2⟩
  · exact Or.inr p6
theorem tw.w {h g g' : cx_Q} {b q : Nat} {x1 x2 : Option Nat} (p : tw h g b x1 x2 q) (w : et g g') : tw h g' b x1 x2 q := by
  obtain ⟨p1, p2, r, p3, p4, p5, p6⟩ := p
  have er : cq_A g' r = cq_A g r := w.2.2 r p4
  have w1 := w.1 q (by rw [p1]; decide)
  have w4 := w.1 r (by rw [p4]; decide)
  refine ⟨w1.1.trans p1, by rw [w.2.1 q 0 p1 (by decide)]; exact p2, r, by rw [w.2.1 q 1 p1 (by decide)]; exact p3, w4.1.trans p4, w4.2.trans p5, ?_⟩
  rw [er]
  exact p6
theorem fpw.w {h g g' : cx_Q} {b f : Nat} {o0 o1 o2 o3 o4 : Option Nat} (F : fpw h g b f o0 o1 o2 o3 o4) (w : et g g') : fpw h g' b f o0 o1 o2 o3 o4 := by
  obtain ⟨f1, f2, r, f3, f4, f5⟩ := F
  have w1 := w.1 f (by rw [f1]; decide)
  have w4 := w.1 r (by rw [f4]; decide)
  refine ⟨w1.1.trans f1, by rw [w.2.1 f 0 f1 (by decide)]; exact f2, r, by rw [w.2.1 f 1 f1 (by decide)]; exact f3, w4.1.trans f4, ?_⟩
  rcases f5 with f5 | ⟨p, f6, f7⟩
  · exact Or.inl ⟨f5.1, f5.2.w w⟩
  · refine Or.inr ⟨p, f6.w w, ?_⟩
    have sp := w.1 p (by rw [f6.1]; decide)
    exact mtR_c (h := g') (h' := g) w4.2.symm sp.2.symm (fun j => by rw [w.2.2 r f4]) (fun j => by rw [w.2.2 p f6.1]) f7
/-- what was told of a number: t is the SECRET that was drawn behind it -/
def soN (h h' : cx_Q) (t : Nat) (v : Int64) (o : Option Nat) : Prop := (o = none ∧ ∀ w, cq_s h w = 6 → cq_J h w 1 ≠ v) ∨ ∃ w, o = some w ∧ cq_s h' w = 6 ∧ cq_J h' w 1 = v ∧ w ≠ t
theorem soT.n {h m h' : cx_Q} {t : Nat} {v : Int64} {o : Option Nat} (p : soT m v o) (e1 : ∀ w, cq_s h w = 6 → cq_s m w = 6 ∧ cq_J m w 1 = cq_J h w 1) (e2 : ∀ w, cq_s m w = 6 → cq_s h' w = 6 ∧ cq_J h' w 1 = cq_J m w 1) (nt : cq_s m t ≠ 6) : soN h h' t v o := by
  rcases p with ⟨p1, p2⟩ | ⟨w, p1, p2, p3⟩
  · exact Or.inl ⟨p1, fun w sw => by rw [← (e1 w sw).2]; exact p2 w (e1 w sw).1⟩
  · exact Or.inr ⟨w, p1, (e2 w p2).1, by rw [(e2 w p2).2]; exact p3, fun z => nt (by rw [← z]; exact p2)⟩
theorem soN.w {h h1 h2 h' : cx_Q} {t : Nat} {v : Int64} {o : Option Nat} (p : soN h1 h2 t v o) (e1 : ∀ w, cq_s h w = 6 → cq_s h1 w = 6 ∧ cq_J h1 w 1 = cq_J h w 1) (e2 : ∀ w, cq_s h2 w = 6 → cq_s h' w = 6 ∧ cq_J h' w 1 = cq_J h2 w 1) : soN h h' t v o := by
  rcases p with ⟨p1, p2⟩ | ⟨w, p1, p2, p3, p4⟩
  · exact Or.inl ⟨p1, fun w sw => by rw [← (e1 w sw).2]; exact p2 w (e1 w sw).1⟩
  · exact Or.inr ⟨w, p1, (e2 w p2).1, by rw [(e2 w p2).2]; exact p3, p4⟩
/-- a SESSION of a first letter: a its cell, d the LENT key's, oc the ONCE key's -/
def NX (c x : Nat) (pe : Int → Nat) (u : Int) (who e : Int64) (g : cx_Q) (a d : Nat) (oc : Option Nat) (h h' : cx_Q) : Prop := et h h' ∧ (∀ d, cq_s h d = 7 → d ≠ a → cq_A h' d = cq_A h d) ∧ cq_s h' a = 7 ∧ ∃ f q q2 t di nt oa oe o b3, (cq_A h c 14 = some nt ∧ cq_A h (pe u) 3 = some di) ∧ (soN h h' t who oa ∧ soN h h' t e oe ∧ soN h h' t (cq_J g x 79) o) ∧ fpw h h' nt f oa (some di) oe (some d) oc ∧ tw h h' f (some d) o q ∧ (tq h h' q (some t) o q2 ∧ cq_s h q2 = 99) ∧ (cq_s h t = 99 ∧ cq_s h' t = 6 ∧ cq_J h' t 1 = dO (cq_J g (x + 1) u) (cq_I g (x + 12) u)) ∧ (cq_A h' a 7 = some q2 ∧ cq_A h' a 9 = some q2 ∧ cq_A h' a 11 = some q ∧ cq_A h' a 12 = some t ∧ cq_A h' a 14 = o) ∧ (cq_s h' (a + 1) = 1 ∧ cq_A h' (a + 1) 3 = some b3 ∧ cq_s h' b3 = 174 ∧ b3 = a + 5) ∧ (∀ d, cq_s h d = 174 → d ≠ b3 → cq_A h' d = cq_A h d) ∧ ∀ r, 0 ≤ r → r < cq_I g x 81 → cq_A h' b3 r = some q
theorem NX.w {c x : Nat} {pe : Int → Nat} {u : Int} {who e : Int64} {g h h1 h' : cx_Q} {a d : Nat} {oc : Option Nat} (N : NX c x pe u who e g a d oc h h1) (w : et h1 h') (eA : ∀ d, cq_s h1 d = 7 ∨ cq_s h1 d = 174 ∨ cq_s h1 d = 1 → cq_A h' d = cq_A h1 d) (eJ : ∀ d, cq_s h1 d = 6 → cq_J h' d = cq_J h1 d) : NX c x pe u who e g a d oc h h' := by
  obtain ⟨n1, n2, n3, f, q, q2, t, di, nt, oa, oe, o, b3, m1, m2, m3, m4, m5, m6, m7, m8, m9, m10⟩ := N
  have s_ : ∀ {d q : Nat}, cq_s h d = q → q ≠ 99 → cq_s h1 d = q := fun {d q} y z => (n1.1 d (by rw [y]; exact z)).1.trans y
  have s2 : ∀ {d q : Nat}, cq_s h1 d = q → q ≠ 99 → cq_s h' d = q := fun {d q} y z => (w.1 d (by rw [y]; exact z)).1.trans y
  have e2 : ∀ w, cq_s h1 w = 6 → cq_s h' w = 6 ∧ cq_J h' w 1 = cq_J h1 w 1 := fun w sw => ⟨s2 sw (by decide), by rw [eJ w sw]⟩
  refine ⟨n1.trans w, fun d y z => (eA d (Or.inl (s_ y (by decide)))).trans (n2 d y z), s2 n3 (by decide), f, q, q2, t, di, nt, oa, oe, o, b3, m1, ⟨m2.1.w (fun _ y => ⟨y, rfl⟩) e2, m2.2.1.w (fun _ y => ⟨y, rfl⟩) e2, m2.2.2.w (fun _ y => ⟨y, rfl⟩) e2⟩, m3.w w, m4.w w, ⟨m5.1.w w, m5.2⟩, ⟨m6.1, s2 m6.2.1 (by decide), by rw [eJ t m6.2.1]; exact m6.2.2⟩, by rw [eA a (Or.inl n3)]; exact m7, ⟨s2 m8.1 (by decide), by rw [eA (a + 1) (Or.inr (Or.inr m8.1))]; exact m8.2.1, s2 m8.2.2.1 (by decide), m8.2.2.2⟩, fun d y z => (eA d (Or.inr (Or.inl (s_ y (by decide))))).trans (m9 d y z), fun r r0 r1 => by rw [eA b3 (Or.inr (Or.inl m8.2.2.1))]; exact m10 r r0 r1⟩
/-- another memory ahead -/
theorem NX.hh {c x : Nat} {pe : Int → Nat} {u : Int} {who e : Int64} {g h h1 h' : cx_Q} {a d : Nat} {oc : Option Nat} (N : NX c x pe u who e g a d oc h1 h') (w : et h h1) (e7 : ∀ d, cq_s h d = 7 ∨ cq_s h d = 174 → cq_A h1 d = cq_A h d) (e6 : ∀ d, cq_s h d = 6 → cq_J h1 d = cq_J h d) (sc : cq_s h c = 9) (ec : cq_A h1 c 14 = cq_A h c 14) (ep : cq_A h1 (pe u) 3 = cq_A h (pe u) 3) : NX c x pe u who e g a d oc h h' := by
  obtain ⟨n1, n2, n3, f, q, q2, t, di, nt, oa, oe, o, b3, m1, m2, m3, m4, m5, m6, m7, m8, m9, m10⟩ := N
  have s_ : ∀ {d q : Nat}, cq_s h d = q → q ≠ 99 → cq_s h1 d = q := fun {d q} y z => (w.1 d (by rw [y]; exact z)).1.trans y
  have e1 : ∀ w, cq_s h w = 6 → cq_s h1 w = 6 ∧ cq_J h1 w 1 = cq_J h w 1 := fun w sw => ⟨s_ sw (by decide), by rw [e6 w sw]⟩
  have n99 : ∀ {d : Nat}, cq_s h1 d = 99 → cq_s h d = 99 := fun {d} y => s99 w y
  rw [ec, ep] at m1
  exact ⟨w.trans n1, fun d y z => (n2 d (s_ y (by decide)) z).trans (e7 d (Or.inl y)), n3, f, q, q2, t, di, nt, oa, oe, o, b3, m1, ⟨m2.1.w e1 (fun _ y => ⟨y, rfl⟩), m2.2.1.w e1 (fun _ y => ⟨y, rfl⟩), m2.2.2.w e1 (fun _ y => ⟨y, rfl⟩)⟩, m3.hw n99, m4.hw n99, ⟨m5.1.h (by rw [m5.2, n99 m5.2]), n99 m5.2⟩, ⟨n99 m6.1, m6.2⟩, m7, m8, fun d y z => (m9 d (s_ y (by decide)) z).trans (e7 d (Or.inr y)), m10⟩
section
variable {Y : cx_Y} {K : Option cx_V → cx_Q → Prop} {c x : Nat} {n L Z : Int} {E : Nat → Option Int} {h0 : cx_Q} {h g G : cx_Q} {pe : Int → Nat} {ro : Int → Int → Nat} {pa lb tp rd en op ob : Nat} {T Lf : Int → Nat}
/-- the letter is noted: ONCE key, beginning, count -/
theorem on_note (hY : cY Y) {b : Nat} {u l ln on : Int} {e k root : Int64} {gB : cx_Q} {o2 o3 : Option cx_V} {o6 : Option cx_V} (H : CI c n L Z E h0 [] h) (F : FX c x n pe ro pa lb tp rd en op ob T Lf h gB) (R : EK x en b op l k g h) (hu : 0 ≤ u ∧ u < n) (hb : cq_I g (x + 62) (100 * l) = 1) (eln : (m_bytes g x 19 2).toInt32.toInt = ln) (eon : (m_bytes g x 21 2).toInt32.toInt = on) (ee : m_bytes g x 11 8 = e) (h58 : cq_I gB (x + 58) u < 100) (h85 : cq_I gB x 85 < 100) (hon : on = 0 ∨ (1 ≤ on ∧ on ≤ cq_I gB (x + 23) u))
    (hK : ∀ h', CI c n L Z E h0 [] h' → FX c x n pe ro pa lb tp rd en op ob T Lf h' (cq_sI (sn (if on = 0 then gB else cq_sI gB (x + 28) (61 * u + on) 0) x u ln e) x 85 (cq_I gB x 85 + 1)) → EK x en b op l k g h' → oq h h' → K (some (.inl 0)) h') : cw Y mi_X10_openInNew K 274 [some (.inr (.inr (some c))), some (.inr (.inr (some (pe u)))), o2, o3, some (.inr (.inl root)), none, o6, some (.inl 0)] [] h 0 0 := by
  have hc := H.cs
  have fu := F.fu u hu.1 hu.2
  have sp := fu.s0
  have nb := R.1.nb hb
  rw [eln, eon, ee] at nb
  have c285 : ∀ g9, CI c n L Z E h0 [] g9 → FX c x n pe ro pa lb tp rd en op ob T Lf g9 (if on = 0 then gB else cq_sI gB (x + 28) (61 * u + on) 0) → EK x en b op l k g g9 → oq h g9 → cw Y mi_X10_openInNew K 285 [some (.inr (.inr (some c))), some (.inr (.inr (some (pe u)))), o2, o3, some (.inr (.inl root)), none, o6, some (.inl 0)] [] g9 0 0 := by
    intro g9 G9 F9 R9 q9
    have f9 := F9.fu u hu.1 hu.2
    have nb9 := R9.1.nb hb
    rw [eln, eon, ee] at nb9
    have gc9 := G9.cs
    have e58 : cq_I (if on = 0 then gB else cq_sI gB (x + 28) (61 * u + on) 0) (x + 58) u = cq_I gB (x + 58) u := by
      split
      · rfl
      · rw [mm_sI, if_neg (fun z => by omega)]
    have e85 : cq_I (if on = 0 then gB else cq_sI gB (x + 28) (61 * u + on) 0) x 85 = cq_I gB x 85 := by
      split
      · rfl
      · rw [mm_sI, if_neg (fun z => by omega)]
    generalize (if on = 0 then gB else cq_sI gB (x + 28) (61 * u + on) 0) = gU at F9 f9 e58 e85 hK
    have hd9 := f9.hd
    refine bx_X10_openInNew_285 hY (pf2_ok hY) ?_
    simp only [wp_iconst, wp_bipush, wp_sipush, wp_ldc, wp_ldc2_w, wp_lconst0, wp_lconst1, wp_aconst_null, wp_iload_0, wp_istore_0, wp_iload_1, wp_istore_1, wp_iload_2, wp_istore_2, wp_iload_3, wp_istore_3, wp_iload, wp_istore, wp_lload_0, wp_lstore_0, wp_lload_1, wp_lstore_1, wp_lload_2, wp_lstore_2, wp_lload_3, wp_lstore_3, wp_lload, wp_lstore, wp_aload_0, wp_astore_0, wp_aload_1, wp_astore_1, wp_aload_2, wp_astore_2, wp_aload_3, wp_astore_3, wp_aload, wp_astore, wp_iinc, wp_iadd, wp_isub, wp_imul, wp_iand, wp_ior, wp_ixor, wp_ishl, wp_ishr, wp_iushr, wp_irem, wp_ladd, wp_lsub, wp_lmul, wp_land, wp_lor, wp_lxor, wp_lshl, wp_lshr, wp_lushr, wp_lrem, wp_lcmp, wp_i2l, wp_l2i, wp_dupI, wp_dupA, wp_dup2J, wp_dup2IA, wp_popI, wp_popA, wp_pop2, wp_goto, wp_if_eq, wp_icmp_eq, wp_if_ne, wp_icmp_ne, wp_if_lt, wp_icmp_lt, wp_if_ge, wp_icmp_ge, wp_if_gt, wp_icmp_gt, wp_if_le, wp_icmp_le, wp_ifnull, wp_ifnonnull, wp_acmp_eq, wp_acmp_ne, wp_tableswitch, wp_get0, wp_put0, wp_get1, wp_put1, wp_get2, wp_put2, wp_get3, wp_put3, wp_new, wp_newarray, wp_anewarray, wp_alen, wp_iaload, wp_laload, wp_baload, wp_aaload, wp_iastore, wp_lastore, wp_bastore, wp_aastore, wp_return, wp_ireturnI, wp_ireturnZ, wp_lreturn, wp_areturnO, wp_areturnA, wp_max, wp_min, wp_obj, wp_virt, wp_nil, ld_I0, ld_Is, ld_J0, ld_Js, ld_A0, ld_As, ha_0, ha_s, cx_put1, cx_put2, cx_dl, cx_tgt, true_and, and_true, Nat.reduceAdd, Nat.reduceSub, Int.reduceAdd, Int.reduceNeg, Int.reduceToNat, Int.reduceSub, Int.cast_ofNat_Int, List.take_succ_cons, List.take_zero, List.drop_succ_cons, List.drop_zero, List.take_nil, List.drop_nil, Option.toList_some, Option.toList_none, List.cons_append, List.nil_append, wp_spec, ne_eq, Nat.reduceEqDiff, not_false_eq_true, true_or, or_true, gc9, F9.a12, F9.s12, nb9.2.1, nb9.2.2.1]
    refine cl_X5_remember (Nat.le_of_ble_eq_true rfl) f9.s0 (Nat.zero_le _) (Nat.zero_le _) (e_X5_remember hY G9 f9.s0 f9.a14 f9.a15 (by omega) (fun ga Ga ea => ?_))
    have Fa := fx_seen F9 hu (by omega) ea
    have s4 := f9.s4
    have s5 := f9.s5
    have s0 := f9.s0
    have Ra := R9.st (P := ucl (pe u)) (h' := ga) (by
      rw [ea]
      refine evx.sI (P := ucl (pe u)) (evx.sI (P := ucl (pe u)) (evx.sJ (P := ucl (pe u)) evx.refl ?_ (by rw [s4]; decide)) ?_) ?_ <;> (unfold ucl; omega)) (fun q w => by
      have s1 := f9.s1
      have s2 := f9.s2
      have s3 := f9.s3
      unfold ucl at w
      rcases w with rfl | rfl | rfl | rfl | rfl | rfl
      · rw [s0]; decide
      · rw [s1]; decide
      · rw [s2]; decide
      · rw [s3]; decide
      · rw [s4]; decide
      · rw [s5]; decide)
    have gca := Ga.cs
    have i5a := Ga.i9_5 gca
    have mca := Fa.fs.mc
    have x85 : cq_I (sn gU x u ln e) x 85 = cq_I gB x 85 := by
      unfold sn
      rw [mm_sI, if_neg (fun z => by omega), mm_IJ, mm_sI, if_neg (fun z => by omega)]
      exact e85
    rw [x85] at mca
    have Fz := fx_made (h' := cq_sI ga c 5 (cq_I ga c 5 + 1)) (g' := cq_sI (sn gU x u ln e) x 85 (cq_I gB x 85 + 1)) Fa (by rw [mm_sI, if_pos ⟨rfl, rfl⟩, x85]) (fun j w => by rw [mm_sI, if_neg (fun z => w z.2)]) (fun o j w _ _ => by rw [mm_sI, if_neg (fun z => by omega)]) (fun o j _ _ _ => by rw [mm_JI]) rfl
    have Rz := Ra.st (P := fun q => q = c) (h' := cq_sI ga c 5 (cq_I ga c 5 + 1)) (evx.sI (P := fun q => q = c) evx.refl rfl) (fun q w => by rw [w, gca]; decide)
    have Gz : CI c n L Z E h0 [] (cq_sI ga c 5 (cq_I ga c 5 + 1)) := Ga.sI (j := 5) (v := cq_I ga c 5 + 1) gca (own_9 (by decide)) ⟨by omega, by omega⟩ rfl
    refine bx_X10_openInNew_303 hY (pf2_ok hY) ?_
    simp only [wp_iconst, wp_bipush, wp_sipush, wp_ldc, wp_ldc2_w, wp_lconst0, wp_lconst1, wp_aconst_null, wp_iload_0, wp_istore_0, wp_iload_1, wp_istore_1, wp_iload_2, wp_istore_2, wp_iload_3, wp_istore_3, wp_iload, wp_istore, wp_lload_0, wp_lstore_0, wp_lload_1, wp_lstore_1, wp_lload_2, wp_lstore_2, wp_lload_3, wp_lstore_3, wp_lload, wp_lstore, wp_aload_0, wp_astore_0, wp_aload_1, wp_astore_1, wp_aload_2, wp_astore_2, wp_aload_3, wp_astore_3, wp_aload, wp_astore, wp_iinc, wp_iadd, wp_isub, wp_imul, wp_iand, wp_ior, wp_ixor, wp_ishl, wp_ishr, wp_iushr, wp_irem, wp_ladd, wp_lsub, wp_lmul, wp_land, wp_lor, wp_lxor, wp_lshl, wp_lshr, wp_lushr, wp_lrem, wp_lcmp, wp_i2l, wp_l2i, wp_dupI, wp_dupA, wp_dup2J, wp_dup2IA, wp_popI, wp_popA, wp_pop2, wp_goto, wp_if_eq, wp_icmp_eq, wp_if_ne, wp_icmp_ne, wp_if_lt, wp_icmp_lt, wp_if_ge, wp_icmp_ge, wp_if_gt, wp_icmp_gt, wp_if_le, wp_icmp_le, wp_ifnull, wp_ifnonnull, wp_acmp_eq, wp_acmp_ne, wp_tableswitch, wp_get0, wp_put0, wp_get1, wp_put1, wp_get2, wp_put2, wp_get3, wp_put3, wp_new, wp_newarray, wp_anewarray, wp_alen, wp_iaload, wp_laload, wp_baload, wp_aaload, wp_iastore, wp_lastore, wp_bastore, wp_aastore, wp_return, wp_ireturnI, wp_ireturnZ, wp_lreturn, wp_areturnO, wp_areturnA, wp_max, wp_min, wp_obj, wp_virt, wp_nil, ld_I0, ld_Is, ld_J0, ld_Js, ld_A0, ld_As, ha_0, ha_s, cx_put1, cx_put2, cx_dl, cx_tgt, true_and, and_true, Nat.reduceAdd, Nat.reduceSub, Int.reduceAdd, Int.reduceNeg, Int.reduceToNat, Int.reduceSub, Int.cast_ofNat_Int, List.take_succ_cons, List.take_zero, List.drop_succ_cons, List.drop_zero, List.take_nil, List.drop_nil, Option.toList_some, Option.toList_none, List.cons_append, List.nil_append, wp_spec, ne_eq, Nat.reduceEqDiff, not_false_eq_true, true_or, or_true, gca, cx_rg]
    refine ⟨by omega, ?_⟩
    refine bx_X10_openInNew_313 hY (pf2_ok hY) ?_
    simp only [wp_iconst, wp_bipush, wp_sipush, wp_ldc, wp_ldc2_w, wp_lconst0, wp_lconst1, wp_aconst_null, wp_iload_0, wp_istore_0, wp_iload_1, wp_istore_1, wp_iload_2, wp_istore_2, wp_iload_3, wp_istore_3, wp_iload, wp_istore, wp_lload_0, wp_lstore_0, wp_lload_1, wp_lstore_1, wp_lload_2, wp_lstore_2, wp_lload_3, wp_lstore_3, wp_lload, wp_lstore, wp_aload_0, wp_astore_0, wp_aload_1, wp_astore_1, wp_aload_2, wp_astore_2, wp_aload_3, wp_astore_3, wp_aload, wp_astore, wp_iinc, wp_iadd, wp_isub, wp_imul, wp_iand, wp_ior, wp_ixor, wp_ishl, wp_ishr, wp_iushr, wp_irem, wp_ladd, wp_lsub, wp_lmul, wp_land, wp_lor, wp_lxor, wp_lshl, wp_lshr, wp_lushr, wp_lrem, wp_lcmp, wp_i2l, wp_l2i, wp_dupI, wp_dupA, wp_dup2J, wp_dup2IA, wp_popI, wp_popA, wp_pop2, wp_goto, wp_if_eq, wp_icmp_eq, wp_if_ne, wp_icmp_ne, wp_if_lt, wp_icmp_lt, wp_if_ge, wp_icmp_ge, wp_if_gt, wp_icmp_gt, wp_if_le, wp_icmp_le, wp_ifnull, wp_ifnonnull, wp_acmp_eq, wp_acmp_ne, wp_tableswitch, wp_get0, wp_put0, wp_get1, wp_put1, wp_get2, wp_put2, wp_get3, wp_put3, wp_new, wp_newarray, wp_anewarray, wp_alen, wp_iaload, wp_laload, wp_baload, wp_aaload, wp_iastore, wp_lastore, wp_bastore, wp_aastore, wp_return, wp_ireturnI, wp_ireturnZ, wp_lreturn, wp_areturnO, wp_areturnA, wp_max, wp_min, wp_obj, wp_virt, wp_nil, ld_I0, ld_Is, ld_J0, ld_Js, ld_A0, ld_As, ha_0, ha_s, cx_put1, cx_put2, cx_dl, cx_tgt, true_and, and_true, Nat.reduceAdd, Nat.reduceSub, Int.reduceAdd, Int.reduceNeg, Int.reduceToNat, Int.reduceSub, Int.cast_ofNat_Int, List.take_succ_cons, List.take_zero, List.drop_succ_cons, List.drop_zero, List.take_nil, List.drop_nil, Option.toList_some, Option.toList_none, List.cons_append, List.nil_append, wp_spec, ne_eq, Nat.reduceEqDiff, not_false_eq_true, true_or, or_true]
    refine hK _ Gz Fz Rz (q9.trans ?_)
    rw [ea]
    refine ⟨rfl, rfl, rfl, fun d sd => ?_⟩
    funext j
    simp only [mm_sI, mm_sJ, mm_sA, mm_IJ, mm_IA, mm_JI, mm_JA, mm_AI, mm_AJ, mm_ssI, mm_ssJ, mm_ssA, mm_zI, mm_zJ, mm_zA, mm_nI, mm_nJ, mm_nA, ns sd s4 (by decide), Nat.left_eq_add, Nat.add_eq_left, Nat.add_left_cancel_iff, Nat.reduceEqDiff, Int.reduceEq, false_and, and_false, if_false, if_true, and_self, true_and, true_or, or_true, false_or, or_false]
  have onf := fu.on
  refine bx_X10_openInNew_274 hY (pf2_ok hY) ?_
  simp only [wp_iconst, wp_bipush, wp_sipush, wp_ldc, wp_ldc2_w, wp_lconst0, wp_lconst1, wp_aconst_null, wp_iload_0, wp_istore_0, wp_iload_1, wp_istore_1, wp_iload_2, wp_istore_2, wp_iload_3, wp_istore_3, wp_iload, wp_istore, wp_lload_0, wp_lstore_0, wp_lload_1, wp_lstore_1, wp_lload_2, wp_lstore_2, wp_lload_3, wp_lstore_3, wp_lload, wp_lstore, wp_aload_0, wp_astore_0, wp_aload_1, wp_astore_1, wp_aload_2, wp_astore_2, wp_aload_3, wp_astore_3, wp_aload, wp_astore, wp_iinc, wp_iadd, wp_isub, wp_imul, wp_iand, wp_ior, wp_ixor, wp_ishl, wp_ishr, wp_iushr, wp_irem, wp_ladd, wp_lsub, wp_lmul, wp_land, wp_lor, wp_lxor, wp_lshl, wp_lshr, wp_lushr, wp_lrem, wp_lcmp, wp_i2l, wp_l2i, wp_dupI, wp_dupA, wp_dup2J, wp_dup2IA, wp_popI, wp_popA, wp_pop2, wp_goto, wp_if_eq, wp_icmp_eq, wp_if_ne, wp_icmp_ne, wp_if_lt, wp_icmp_lt, wp_if_ge, wp_icmp_ge, wp_if_gt, wp_icmp_gt, wp_if_le, wp_icmp_le, wp_ifnull, wp_ifnonnull, wp_acmp_eq, wp_acmp_ne, wp_tableswitch, wp_get0, wp_put0, wp_get1, wp_put1, wp_get2, wp_put2, wp_get3, wp_put3, wp_new, wp_newarray, wp_anewarray, wp_alen, wp_iaload, wp_laload, wp_baload, wp_aaload, wp_iastore, wp_lastore, wp_bastore, wp_aastore, wp_return, wp_ireturnI, wp_ireturnZ, wp_lreturn, wp_areturnO, wp_areturnA, wp_max, wp_min, wp_obj, wp_virt, wp_nil, ld_I0, ld_Is, ld_J0, ld_Js, ld_A0, ld_As, ha_0, ha_s, cx_put1, cx_put2, cx_dl, cx_tgt, true_and, and_true, Nat.reduceAdd, Nat.reduceSub, Int.reduceAdd, Int.reduceNeg, Int.reduceToNat, Int.reduceSub, Int.cast_ofNat_Int, List.take_succ_cons, List.take_zero, List.drop_succ_cons, List.drop_zero, List.take_nil, List.drop_nil, Option.toList_some, Option.toList_none, List.cons_append, List.nil_append, wp_spec, ne_eq, Nat.reduceEqDiff, not_false_eq_true, true_or, or_true, hc, F.a12, F.s12, nb.2.2.2]
  refine cl_X5_useOnce (Nat.le_of_ble_eq_true rfl) sp (Nat.zero_le _) (Nat.zero_le _) (e_X5_useOnce hY H sp fu.a10 (fun no => ?_) (fun o1 o2 g9 G9 e9 => ?_))
  · have o0 : on = 0 := by omega
    refine c285 h H ?_ R oq.refl
    rw [if_pos o0]
    exact F
  · have o0 : ¬ on = 0 := by omega
    have F9 := fx_used F hu ⟨o1, by omega⟩ e9
    have s3 := fu.s3
    refine c285 g9 G9 ?_ (R.st (P := fun q => q = pe u + 3) (by rw [e9]; exact evx.sI (P := fun q => q = pe u + 3) evx.refl rfl) (fun q w => by rw [w, s3]; decide)) (by rw [e9]; exact ⟨rfl, rfl, rfl, fun _ _ => rfl⟩)
    rw [if_neg o0]
    exact F9
theorem on_tail (hY : cY Y) {a b d : Nat} {oc : Option Nat} {u v s l ln on : Int} {e root k : Int64} (H : CI c n L Z E h0 [] h) (hZ : Z ≤ 900000) (F : FX c x n pe ro pa lb tp rd en op ob T Lf h g) (R : EK x en b op l k g h) (S : SR0 x a s h G) (Q : GQ x u (6 * u + v) s ln e root g G) (hs : s = m_slotN g x (6 * u + v)) (fr : ∀ u' v' i, 0 ≤ u' → u' < n → 0 ≤ v' → v' < n → 0 ≤ i → i < cq_I g (x + 30) (6 * u' + v') → T (cq_I g (x + 29) (4 * (6 * u' + v') + i)) ≠ a) (hu : 0 ≤ u ∧ u < n) (hv : 0 ≤ v ∧ v < n) (ev_ : cq_I g (x + 62) (100 * l + 1) = v) (hb : cq_I g (x + 62) (100 * l) = 1) (eln : (m_bytes g x 19 2).toInt32.toInt = ln) (eon : (m_bytes g x 21 2).toInt32.toInt = on) (ee : m_bytes g x 11 8 = e) (hU : cq_I g (x + 11) u ≠ 0) (sd : cq_s h d = 6) (hoc : ∀ b, oc = some b → cq_s h b = 6) (h81 : 0 ≤ cq_I g x 81 ∧ cq_I g x 81 ≤ 10) (h58 : cq_I g (x + 58) u < 100) (h85 : cq_I g x 85 < 100) (hon : on = 0 ∨ (1 ≤ on ∧ on ≤ cq_I g (x + 23) u)) (i1 : cq_I h op 1 = -1) (i2 : cq_I h op 2 = 1) (i3 : cq_I h op 3 = 0) (i4 : cq_I h op 4 = cq_I g x 81) (j5 : cq_J h op 5 = f_key 1 root (f_common (cq_J g (x + 17) (21 * u + ln)) (cq_J g x 79))) (j6 : cq_J h op 6 = nxI ((cq_I g x 81).toNat + 1) (m_cfC g x u ln root)) (a2 : ∀ i, 0 ≤ i → i < cq_I g x 81 → cq_J h ob i = lkC (nxI i.toNat (m_cfC g x u ln root))) (e12 : cq_A h a 12 = some d) (e15 : cq_A h (a + 1) 3 = some (a + 5)) (hC : E c = none) (hE4 : ∀ d, d ≠ c → cq_s h0 d ≠ 4 → cq_s h0 d ≠ 1 → E d ≠ none) (hP : uE pe n h0)
    (hK : ∀ h' T', CI c n L (Z + 1) E h0 [] h' → FX c x n pe ro pa lb tp rd en op ob T' Lf h' (bk x g (m_cfD (m_openQ G x u s) x u s ln on e)) → EK x en b op l k g h' → (T' = fun q => if q = s then a else T q) → NX c x pe u (m_bytes g x 3 8) e g a d oc h h' → K (some (.inl 0)) h') : cw Y mi_X10_openInNew K 182 [some (.inr (.inr (some c))), some (.inr (.inr (some (pe u)))), some (.inr (.inr (some d))), some (.inr (.inr oc)), some (.inr (.inl root)), none, some (.inr (.inr (some a))), none] [.inl 0] h 11 283 := by
  have gc := H.cs
  have n26 := F.n26
  have fu := F.fu u hu.1 hu.2
  have sp := fu.s0
  obtain ⟨di, edi, sdi, _⟩ := fu.n1 hU
  obtain ⟨nt, ent, snt⟩ := H.g9_14 gc List.not_mem_nil
  have nb := R.1.nb hb
  rw [ee] at nb
  obtain ⟨A, B, C⟩ := cfG_Q Q h81
  have eD := cfD_bk (x := x) (g := g) (u := u) (s := s) (ln := ln) (on := on) (e := e) (gq := m_openQ G x u s) C.i43 (B.x_ 85 (by decide))
  rw [← eD] at hK
  obtain ⟨b1, b2, b3, b4⟩ := bk_q (x := x) (g := g) (g' := m_openQ G x u s) B.x_
  have Q3 := C.c b2 b4
  generalize m_openQ G x u s = gq at A B C eD hK b1 b2 b3 b4 Q3
  clear eD C
  refine bx_X10_openInNew_182 hY (pf2_ok hY) ?_
  simp only [wp_iconst, wp_bipush, wp_sipush, wp_ldc, wp_ldc2_w, wp_lconst0, wp_lconst1, wp_aconst_null, wp_iload_0, wp_istore_0, wp_iload_1, wp_istore_1, wp_iload_2, wp_istore_2, wp_iload_3, wp_istore_3, wp_iload, wp_istore, wp_lload_0, wp_lstore_0, wp_lload_1, wp_lstore_1, wp_lload_2, wp_lstore_2, wp_lload_3, wp_lstore_3, wp_lload, wp_lstore, wp_aload_0, wp_astore_0, wp_aload_1, wp_astore_1, wp_aload_2, wp_astore_2, wp_aload_3, wp_astore_3, wp_aload, wp_astore, wp_iinc, wp_iadd, wp_isub, wp_imul, wp_iand, wp_ior, wp_ixor, wp_ishl, wp_ishr, wp_iushr, wp_irem, wp_ladd, wp_lsub, wp_lmul, wp_land, wp_lor, wp_lxor, wp_lshl, wp_lshr, wp_lushr, wp_lrem, wp_lcmp, wp_i2l, wp_l2i, wp_dupI, wp_dupA, wp_dup2J, wp_dup2IA, wp_popI, wp_popA, wp_pop2, wp_goto, wp_if_eq, wp_icmp_eq, wp_if_ne, wp_icmp_ne, wp_if_lt, wp_icmp_lt, wp_if_ge, wp_icmp_ge, wp_if_gt, wp_icmp_gt, wp_if_le, wp_icmp_le, wp_ifnull, wp_ifnonnull, wp_acmp_eq, wp_acmp_ne, wp_tableswitch, wp_get0, wp_put0, wp_get1, wp_put1, wp_get2, wp_put2, wp_get3, wp_put3, wp_new, wp_newarray, wp_anewarray, wp_alen, wp_iaload, wp_laload, wp_baload, wp_aaload, wp_iastore, wp_lastore, wp_bastore, wp_aastore, wp_return, wp_ireturnI, wp_ireturnZ, wp_lreturn, wp_areturnO, wp_areturnA, wp_max, wp_min, wp_obj, wp_virt, wp_nil, ld_I0, ld_Is, ld_J0, ld_Js, ld_A0, ld_As, ha_0, ha_s, cx_put1, cx_put2, cx_dl, cx_tgt, true_and, and_true, Nat.reduceAdd, Nat.reduceSub, Int.reduceAdd, Int.reduceNeg, Int.reduceToNat, Int.reduceSub, Int.cast_ofNat_Int, List.take_succ_cons, List.take_zero, List.drop_succ_cons, List.drop_zero, List.take_nil, List.drop_nil, Option.toList_some, Option.toList_none, List.cons_append, List.nil_append, wp_spec, ne_eq, Nat.reduceEqDiff, not_false_eq_true, true_or, or_true, gc, F.a12, F.s12, ent, nb.1]
  refine ⟨fun q => absurd trivial q, fun _ => ?_⟩
  refine cl_X10_secretOf (Nat.le_of_ble_eq_true rfl) gc (by omega) (by omega) (s_X10_secretOf hY H ⟨by omega, n26.2⟩ F.a0 hC (F.uP hP) (fun oa soa => ?_))
  have hoa := soa.s
  refine bx_X10_openInNew_206 hY (pf2_ok hY) ?_
  simp only [wp_iconst, wp_bipush, wp_sipush, wp_ldc, wp_ldc2_w, wp_lconst0, wp_lconst1, wp_aconst_null, wp_iload_0, wp_istore_0, wp_iload_1, wp_istore_1, wp_iload_2, wp_istore_2, wp_iload_3, wp_istore_3, wp_iload, wp_istore, wp_lload_0, wp_lstore_0, wp_lload_1, wp_lstore_1, wp_lload_2, wp_lstore_2, wp_lload_3, wp_lstore_3, wp_lload, wp_lstore, wp_aload_0, wp_astore_0, wp_aload_1, wp_astore_1, wp_aload_2, wp_astore_2, wp_aload_3, wp_astore_3, wp_aload, wp_astore, wp_iinc, wp_iadd, wp_isub, wp_imul, wp_iand, wp_ior, wp_ixor, wp_ishl, wp_ishr, wp_iushr, wp_irem, wp_ladd, wp_lsub, wp_lmul, wp_land, wp_lor, wp_lxor, wp_lshl, wp_lshr, wp_lushr, wp_lrem, wp_lcmp, wp_i2l, wp_l2i, wp_dupI, wp_dupA, wp_dup2J, wp_dup2IA, wp_popI, wp_popA, wp_pop2, wp_goto, wp_if_eq, wp_icmp_eq, wp_if_ne, wp_icmp_ne, wp_if_lt, wp_icmp_lt, wp_if_ge, wp_icmp_ge, wp_if_gt, wp_icmp_gt, wp_if_le, wp_icmp_le, wp_ifnull, wp_ifnonnull, wp_acmp_eq, wp_acmp_ne, wp_tableswitch, wp_get0, wp_put0, wp_get1, wp_put1, wp_get2, wp_put2, wp_get3, wp_put3, wp_new, wp_newarray, wp_anewarray, wp_alen, wp_iaload, wp_laload, wp_baload, wp_aaload, wp_iastore, wp_lastore, wp_bastore, wp_aastore, wp_return, wp_ireturnI, wp_ireturnZ, wp_lreturn, wp_areturnO, wp_areturnA, wp_max, wp_min, wp_obj, wp_virt, wp_nil, ld_I0, ld_Is, ld_J0, ld_Js, ld_A0, ld_As, ha_0, ha_s, cx_put1, cx_put2, cx_dl, cx_tgt, true_and, and_true, Nat.reduceAdd, Nat.reduceSub, Int.reduceAdd, Int.reduceNeg, Int.reduceToNat, Int.reduceSub, Int.cast_ofNat_Int, List.take_succ_cons, List.take_zero, List.drop_succ_cons, List.drop_zero, List.take_nil, List.drop_nil, Option.toList_some, Option.toList_none, List.cons_append, List.nil_append, wp_spec, ne_eq, Nat.reduceEqDiff, not_false_eq_true, true_or, or_true, gc, F.a12, F.s12, sp, edi, nb.2.1]
  refine cl_X10_secretOf (Nat.le_of_ble_eq_true rfl) gc (by omega) (by omega) (s_X10_secretOf hY H ⟨by omega, n26.2⟩ F.a0 hC (F.uP hP) (fun oe soe => ?_))
  have hoe := soe.s
  refine bx_X10_openInNew_221 hY (pf2_ok hY) ?_
  simp only [wp_iconst, wp_bipush, wp_sipush, wp_ldc, wp_ldc2_w, wp_lconst0, wp_lconst1, wp_aconst_null, wp_iload_0, wp_istore_0, wp_iload_1, wp_istore_1, wp_iload_2, wp_istore_2, wp_iload_3, wp_istore_3, wp_iload, wp_istore, wp_lload_0, wp_lstore_0, wp_lload_1, wp_lstore_1, wp_lload_2, wp_lstore_2, wp_lload_3, wp_lstore_3, wp_lload, wp_lstore, wp_aload_0, wp_astore_0, wp_aload_1, wp_astore_1, wp_aload_2, wp_astore_2, wp_aload_3, wp_astore_3, wp_aload, wp_astore, wp_iinc, wp_iadd, wp_isub, wp_imul, wp_iand, wp_ior, wp_ixor, wp_ishl, wp_ishr, wp_iushr, wp_irem, wp_ladd, wp_lsub, wp_lmul, wp_land, wp_lor, wp_lxor, wp_lshl, wp_lshr, wp_lushr, wp_lrem, wp_lcmp, wp_i2l, wp_l2i, wp_dupI, wp_dupA, wp_dup2J, wp_dup2IA, wp_popI, wp_popA, wp_pop2, wp_goto, wp_if_eq, wp_icmp_eq, wp_if_ne, wp_icmp_ne, wp_if_lt, wp_icmp_lt, wp_if_ge, wp_icmp_ge, wp_if_gt, wp_icmp_gt, wp_if_le, wp_icmp_le, wp_ifnull, wp_ifnonnull, wp_acmp_eq, wp_acmp_ne, wp_tableswitch, wp_get0, wp_put0, wp_get1, wp_put1, wp_get2, wp_put2, wp_get3, wp_put3, wp_new, wp_newarray, wp_anewarray, wp_alen, wp_iaload, wp_laload, wp_baload, wp_aaload, wp_iastore, wp_lastore, wp_bastore, wp_aastore, wp_return, wp_ireturnI, wp_ireturnZ, wp_lreturn, wp_areturnO, wp_areturnA, wp_max, wp_min, wp_obj, wp_virt, wp_nil, ld_I0, ld_Is, ld_J0, ld_Js, ld_A0, ld_As, ha_0, ha_s, cx_put1, cx_put2, cx_dl, cx_tgt, true_and, and_true, Nat.reduceAdd, Nat.reduceSub, Int.reduceAdd, Int.reduceNeg, Int.reduceToNat, Int.reduceSub, Int.cast_ofNat_Int, List.take_succ_cons, List.take_zero, List.drop_succ_cons, List.drop_zero, List.take_nil, List.drop_nil, Option.toList_some, Option.toList_none, List.cons_append, List.nil_append, wp_spec, ne_eq, Nat.reduceEqDiff, not_false_eq_true, true_or, or_true]
  refine cl_X10_firstPairs (Nat.le_of_ble_eq_true rfl) (by omega) (by omega) (e_X10_firstPairs hY H hoa (fun b w => by cases w; exact sdi) hoe (fun b w => by cases w; exact sd) hoc (fun h4 G4 k4 P4 ns4 nf4 => ?_))
  have s4 := P4.1
  have snt4 : cq_s h4 nt = 8 := k4.s snt (by decide)
  refine bx_X10_openInNew_226 hY (pf2_ok hY) ?_
  try simp only [wp_iconst, wp_bipush, wp_sipush, wp_ldc, wp_ldc2_w, wp_lconst0, wp_lconst1, wp_aconst_null, wp_iload_0, wp_istore_0, wp_iload_1, wp_istore_1, wp_iload_2, wp_istore_2, wp_iload_3, wp_istore_3, wp_iload, wp_istore, wp_lload_0, wp_lstore_0, wp_lload_1, wp_lstore_1, wp_lload_2, wp_lstore_2, wp_lload_3, wp_lstore_3, wp_lload, wp_lstore, wp_aload_0, wp_astore_0, wp_aload_1, wp_astore_1, wp_aload_2, wp_astore_2, wp_aload_3, wp_astore_3, wp_aload, wp_astore, wp_iinc, wp_iadd, wp_isub, wp_imul, wp_iand, wp_ior, wp_ixor, wp_ishl, wp_ishr, wp_iushr, wp_irem, wp_ladd, wp_lsub, wp_lmul, wp_land, wp_lor, wp_lxor, wp_lshl, wp_lshr, wp_lushr, wp_lrem, wp_lcmp, wp_i2l, wp_l2i, wp_dupI, wp_dupA, wp_dup2J, wp_dup2IA, wp_popI, wp_popA, wp_pop2, wp_goto, wp_if_eq, wp_icmp_eq, wp_if_ne, wp_icmp_ne, wp_if_lt, wp_icmp_lt, wp_if_ge, wp_icmp_ge, wp_if_gt, wp_icmp_gt, wp_if_le, wp_icmp_le, wp_ifnull, wp_ifnonnull, wp_acmp_eq, wp_acmp_ne, wp_tableswitch, wp_get0, wp_put0, wp_get1, wp_put1, wp_get2, wp_put2, wp_get3, wp_put3, wp_new, wp_newarray, wp_anewarray, wp_alen, wp_iaload, wp_laload, wp_baload, wp_aaload, wp_iastore, wp_lastore, wp_bastore, wp_aastore, wp_return, wp_ireturnI, wp_ireturnZ, wp_lreturn, wp_areturnO, wp_areturnA, wp_max, wp_min, wp_obj, wp_virt, wp_nil, ld_I0, ld_Is, ld_J0, ld_Js, ld_A0, ld_As, ha_0, ha_s, cx_put1, cx_put2, cx_dl, cx_tgt, true_and, and_true, Nat.reduceAdd, Nat.reduceSub, Int.reduceAdd, Int.reduceNeg, Int.reduceToNat, Int.reduceSub, Int.cast_ofNat_Int, List.take_succ_cons, List.take_zero, List.drop_succ_cons, List.drop_zero, List.take_nil, List.drop_nil, Option.toList_some, Option.toList_none, List.cons_append, List.nil_append, wp_spec, ne_eq, Nat.reduceEqDiff, not_false_eq_true, true_or, or_true]
  refine cl_X9_turnOf (Nat.le_of_ble_eq_true rfl) snt4 (by omega) (by omega) (e_X9_turnOf hY G4 snt4 s4 (fun f h5 G5 k5 TT => ?_))
  have s5 := TT.1
  have ff := TT.f (G4.al _ (Nat.le_refl _)) k5 P4 (fun r' y1 y2 => G4.ta (j := 1) y2 (own_9 (by decide)) y1)
  have f4_ : cq_s h4 f = 99 → cq_s h f = 99 := fun z => s99 k4.et z
  have k45 := k4.trans k5
  have F5 := F.ev k45
  have R5 := R.st (P := fun _ => False) k45.x (fun _ z => z.elim)
  have sc : sc5 h5 a := ⟨k45.s S.s0 (by decide), k45.s S.s1 (by decide), k45.s S.s2 (by decide), k45.s S.s3 (by decide), k45.s S.s4 (by decide)⟩
  have ss5 : cq_s h5 a = 7 := sc.1
  have G6 : CI c n L Z E h0 [] (cq_sA h5 a 7 (some f)) := G5.s7 (p := a) (j := 7) (v := some f) ss5 (fun _ => E4_of G5 hE4 ss5 (by decide) (by decide)) (fun b q => by cases q; exact s5) (fun q => (nomatch q)) rfl
  have w6 : et h5 (cq_sA h5 a 7 (some f)) := et.sA et.refl ss5 (by decide) (by decide)
  have wh6 : et h (cq_sA h5 a 7 (some f)) := k45.et.trans w6
  have A6a : ∀ d, cq_s h d = 7 ∨ cq_s h d = 174 → d ≠ a → cq_A (cq_sA h5 a 7 (some f)) d = cq_A h d := fun d sd nd => by
    have y : cq_A h5 d = cq_A h d := sd.elim (fun z => k45.A z rfl) (fun z => k45.A z rfl)
    funext j
    rw [mm_sA, if_neg (fun z => nd z.1), y]
  have A63 : cq_A (cq_sA h5 a 7 (some f)) (a + 1) 3 = some (a + 5) := by rw [mm_sA, if_neg (fun z => by omega), k45.A S.s1 rfl]; exact e15
  have A67 : cq_A (cq_sA h5 a 7 (some f)) a 7 = some f := by rw [mm_sA, if_pos ⟨rfl, rfl⟩]
  have A612 : cq_A (cq_sA h5 a 7 (some f)) a 12 = some d := by rw [mm_sA, if_neg (fun z => absurd z.2 (by decide)), k45.A S.s0 rfl]; exact e12
  have J6s : ∀ w, cq_s h w = 6 → cq_s (cq_sA h5 a 7 (some f)) w = 6 ∧ cq_J (cq_sA h5 a 7 (some f)) w 1 = cq_J h w 1 := fun w sw => ⟨k45.s sw (by decide), congrFun (k45.J sw (by decide)) 1⟩
  have ff6 : fpT h4 (cq_sA h5 a 7 (some f)) nt f oa (some di) oe (some d) oc := ff.w w6
  have ex6 : evx (scl a) h5 (cq_sA h5 a 7 (some f)) := evx.sA (P := scl a) evx.refl (Or.inl rfl)
  have F6 := F5.loose sc fr ex6
  have ncl : ∀ q, scl a q → cq_s h5 q ≠ 0 ∧ cq_s h5 q ≠ 100 ∧ cq_s h5 q ≠ 3 := fun q z => by
    have := sc.cl z
    omega
  have R6 := R5.st ex6 ncl
  have n1 : ¬ a + 1 = a := by omega
  have S6 : SR0 x a s (cq_sA h5 a 7 (some f)) G := S.fr (fun q w => (k45.2.1 q w).1) (k45.I S.s0 rfl) (k45.J S.s0 (by decide)) (fun j w => by rw [mm_sA, if_neg (fun z => w z.2), k45.A S.s0 rfl]) (k45.I S.s1 rfl) (by
    funext j
    rw [mm_sA, if_neg (fun z => n1 z.1), k45.A S.s1 rfl]) (k45.J S.s2 (by decide)) (k45.I S.s3 rfl) (k45.J S.s4 (by decide))
  have I6 : ∀ j, cq_I (cq_sA h5 a 7 (some f)) op j = cq_I h op j := fun j => by
    have z := k45.I F.s13 rfl
    rw [← z]
    rfl
  have J6 : ∀ j, cq_J (cq_sA h5 a 7 (some f)) op j = cq_J h op j := fun j => by
    have z := k45.J F.s13 (by decide)
    rw [← z]
    rfl
  have Jb6 : ∀ j, cq_J (cq_sA h5 a 7 (some f)) ob j = cq_J h ob j := fun j => by
    have z := k45.J F.sob (by decide)
    rw [← z]
    rfl
  have sc6 : sc5 (cq_sA h5 a 7 (some f)) a := sc
  refine bx_X10_openInNew_229 hY (pf2_ok hY) ?_
  simp only [wp_iconst, wp_bipush, wp_sipush, wp_ldc, wp_ldc2_w, wp_lconst0, wp_lconst1, wp_aconst_null, wp_iload_0, wp_istore_0, wp_iload_1, wp_istore_1, wp_iload_2, wp_istore_2, wp_iload_3, wp_istore_3, wp_iload, wp_istore, wp_lload_0, wp_lstore_0, wp_lload_1, wp_lstore_1, wp_lload_2, wp_lstore_2, wp_lload_3, wp_lstore_3, wp_lload, wp_lstore, wp_aload_0, wp_astore_0, wp_aload_1, wp_astore_1, wp_aload_2, wp_astore_2, wp_aload_3, wp_astore_3, wp_aload, wp_astore, wp_iinc, wp_iadd, wp_isub, wp_imul, wp_iand, wp_ior, wp_ixor, wp_ishl, wp_ishr, wp_iushr, wp_irem, wp_ladd, wp_lsub, wp_lmul, wp_land, wp_lor, wp_lxor, wp_lshl, wp_lshr, wp_lushr, wp_lrem, wp_lcmp, wp_i2l, wp_l2i, wp_dupI, wp_dupA, wp_dup2J, wp_dup2IA, wp_popI, wp_popA, wp_pop2, wp_goto, wp_if_eq, wp_icmp_eq, wp_if_ne, wp_icmp_ne, wp_if_lt, wp_icmp_lt, wp_if_ge, wp_icmp_ge, wp_if_gt, wp_icmp_gt, wp_if_le, wp_icmp_le, wp_ifnull, wp_ifnonnull, wp_acmp_eq, wp_acmp_ne, wp_tableswitch, wp_get0, wp_put0, wp_get1, wp_put1, wp_get2, wp_put2, wp_get3, wp_put3, wp_new, wp_newarray, wp_anewarray, wp_alen, wp_iaload, wp_laload, wp_baload, wp_aaload, wp_iastore, wp_lastore, wp_bastore, wp_aastore, wp_return, wp_ireturnI, wp_ireturnZ, wp_lreturn, wp_areturnO, wp_areturnA, wp_max, wp_min, wp_obj, wp_virt, wp_nil, ld_I0, ld_Is, ld_J0, ld_Js, ld_A0, ld_As, ha_0, ha_s, cx_put1, cx_put2, cx_dl, cx_tgt, true_and, and_true, Nat.reduceAdd, Nat.reduceSub, Int.reduceAdd, Int.reduceNeg, Int.reduceToNat, Int.reduceSub, Int.cast_ofNat_Int, List.take_succ_cons, List.take_zero, List.drop_succ_cons, List.drop_zero, List.take_nil, List.drop_nil, Option.toList_some, Option.toList_none, List.cons_append, List.nil_append, wp_spec, ne_eq, Nat.reduceEqDiff, not_false_eq_true, true_or, or_true, ss5]
  generalize cq_sA h5 a 7 (some f) = g6 at G6 F6 R6 S6 I6 J6 Jb6 sc6 w6 wh6 A6a A63 A67 A612 J6s ff6 ⊢
  clear ex6 ncl R5 F5 sc ss5 k45
  have gc6 := G6.cs
  have f6 := F6.fu u hu.1 hu.2
  have i16 := I6 1
  have i26 := I6 2
  have i36 := I6 3
  have i46 := I6 4
  have j56 := J6 5
  have j66 := J6 6
  rw [i1] at i16
  rw [i2] at i26
  rw [i3] at i36
  rw [i4] at i46
  rw [j5] at j56
  rw [j6] at j66
  have km6 := S6.km
  rw [Q.i53] at km6
  simp only [wp_iconst, wp_bipush, wp_sipush, wp_ldc, wp_ldc2_w, wp_lconst0, wp_lconst1, wp_aconst_null, wp_iload_0, wp_istore_0, wp_iload_1, wp_istore_1, wp_iload_2, wp_istore_2, wp_iload_3, wp_istore_3, wp_iload, wp_istore, wp_lload_0, wp_lstore_0, wp_lload_1, wp_lstore_1, wp_lload_2, wp_lstore_2, wp_lload_3, wp_lstore_3, wp_lload, wp_lstore, wp_aload_0, wp_astore_0, wp_aload_1, wp_astore_1, wp_aload_2, wp_astore_2, wp_aload_3, wp_astore_3, wp_aload, wp_astore, wp_iinc, wp_iadd, wp_isub, wp_imul, wp_iand, wp_ior, wp_ixor, wp_ishl, wp_ishr, wp_iushr, wp_irem, wp_ladd, wp_lsub, wp_lmul, wp_land, wp_lor, wp_lxor, wp_lshl, wp_lshr, wp_lushr, wp_lrem, wp_lcmp, wp_i2l, wp_l2i, wp_dupI, wp_dupA, wp_dup2J, wp_dup2IA, wp_popI, wp_popA, wp_pop2, wp_goto, wp_if_eq, wp_icmp_eq, wp_if_ne, wp_icmp_ne, wp_if_lt, wp_icmp_lt, wp_if_ge, wp_icmp_ge, wp_if_gt, wp_icmp_gt, wp_if_le, wp_icmp_le, wp_ifnull, wp_ifnonnull, wp_acmp_eq, wp_acmp_ne, wp_tableswitch, wp_get0, wp_put0, wp_get1, wp_put1, wp_get2, wp_put2, wp_get3, wp_put3, wp_new, wp_newarray, wp_anewarray, wp_alen, wp_iaload, wp_laload, wp_baload, wp_aaload, wp_iastore, wp_lastore, wp_bastore, wp_aastore, wp_return, wp_ireturnI, wp_ireturnZ, wp_lreturn, wp_areturnO, wp_areturnA, wp_max, wp_min, wp_obj, wp_virt, wp_nil, ld_I0, ld_Is, ld_J0, ld_Js, ld_A0, ld_As, ha_0, ha_s, cx_put1, cx_put2, cx_dl, cx_tgt, true_and, and_true, Nat.reduceAdd, Nat.reduceSub, Int.reduceAdd, Int.reduceNeg, Int.reduceToNat, Int.reduceSub, Int.cast_ofNat_Int, List.take_succ_cons, List.take_zero, List.drop_succ_cons, List.drop_zero, List.take_nil, List.drop_nil, Option.toList_some, Option.toList_none, List.cons_append, List.nil_append, wp_spec, ne_eq, Nat.reduceEqDiff, not_false_eq_true, true_or, or_true, gc6, F6.a13, F6.a12, F6.s12]
  refine cl_X10_secretOf (Nat.le_of_ble_eq_true rfl) gc6 (by omega) (by omega) (s_X10_secretOf hY G6 ⟨by omega, n26.2⟩ F6.a0 hC (F6.uP hP) (fun o' so' => ?_))
  have ho' := so'.s
  rw [R6.1.op] at so'
  obtain ⟨b9, e3_, sb3, _⟩ := G6.g1_3 S6.s1 List.not_mem_nil
  have hE3 : E b9 ≠ none := E4_of G6 hE4 sb3 (by decide) (by decide)
  have hE7 : cq_s h0 a = 7 → E a ≠ none := fun _ => E4_of G6 hE4 S6.s0 (by decide) (by decide)
  refine bx_X10_openInNew_254 hY (pf2_ok hY) ?_
  try simp only [wp_iconst, wp_bipush, wp_sipush, wp_ldc, wp_ldc2_w, wp_lconst0, wp_lconst1, wp_aconst_null, wp_iload_0, wp_istore_0, wp_iload_1, wp_istore_1, wp_iload_2, wp_istore_2, wp_iload_3, wp_istore_3, wp_iload, wp_istore, wp_lload_0, wp_lstore_0, wp_lload_1, wp_lstore_1, wp_lload_2, wp_lstore_2, wp_lload_3, wp_lstore_3, wp_lload, wp_lstore, wp_aload_0, wp_astore_0, wp_aload_1, wp_astore_1, wp_aload_2, wp_astore_2, wp_aload_3, wp_astore_3, wp_aload, wp_astore, wp_iinc, wp_iadd, wp_isub, wp_imul, wp_iand, wp_ior, wp_ixor, wp_ishl, wp_ishr, wp_iushr, wp_irem, wp_ladd, wp_lsub, wp_lmul, wp_land, wp_lor, wp_lxor, wp_lshl, wp_lshr, wp_lushr, wp_lrem, wp_lcmp, wp_i2l, wp_l2i, wp_dupI, wp_dupA, wp_dup2J, wp_dup2IA, wp_popI, wp_popA, wp_pop2, wp_goto, wp_if_eq, wp_icmp_eq, wp_if_ne, wp_icmp_ne, wp_if_lt, wp_icmp_lt, wp_if_ge, wp_icmp_ge, wp_if_gt, wp_icmp_gt, wp_if_le, wp_icmp_le, wp_ifnull, wp_ifnonnull, wp_acmp_eq, wp_acmp_ne, wp_tableswitch, wp_get0, wp_put0, wp_get1, wp_put1, wp_get2, wp_put2, wp_get3, wp_put3, wp_new, wp_newarray, wp_anewarray, wp_alen, wp_iaload, wp_laload, wp_baload, wp_aaload, wp_iastore, wp_lastore, wp_bastore, wp_aastore, wp_return, wp_ireturnI, wp_ireturnZ, wp_lreturn, wp_areturnO, wp_areturnA, wp_max, wp_min, wp_obj, wp_virt, wp_nil, ld_I0, ld_Is, ld_J0, ld_Js, ld_A0, ld_As, ha_0, ha_s, cx_put1, cx_put2, cx_dl, cx_tgt, true_and, and_true, Nat.reduceAdd, Nat.reduceSub, Int.reduceAdd, Int.reduceNeg, Int.reduceToNat, Int.reduceSub, Int.cast_ofNat_Int, List.take_succ_cons, List.take_zero, List.drop_succ_cons, List.drop_zero, List.take_nil, List.drop_nil, Option.toList_some, Option.toList_none, List.cons_append, List.nil_append, wp_spec, ne_eq, Nat.reduceEqDiff, not_false_eq_true, true_or, or_true]
  refine cl_X4_carryOut (Nat.le_of_ble_eq_true rfl) F6.s13 (by omega) (by omega) (e_X4_carryOut hY G6 (by omega) F6.s13 S6.s0 F6.s12 f6.s0 ho' F6.aob S6.a19 S6.k0 S6.k1 S6.k2 e3_ hE3 hE7 (fun _ => by omega) (Or.inl i16) (fun _ => Or.inr i26) (fun q => by omega) (fun _ q2 => by omega) (fun _ _ m q q' t r_ w_ er_ ew_ G7 e7 f7_ tq1 tq2 tn2 wt st0 st j0 j1 => ?_))
  rw [i36, i46, j56, j66, R6.1.op, R6.1.pl, f6.dr, f6.sd] at e7
  rw [f6.dr, f6.sd] at j0 j1
  rw [A67] at er_
  rw [A612] at ew_
  cases er_
  cases ew_
  rw [i36, i46, km6, kpG_0, Int.add_zero] at f7_
  have s6_ : ∀ {d : Nat}, cq_s g6 d = 99 → cq_s h d = 99 := fun {d} z => s99 wh6 z
  have npT : ¬ a = pe u := ns S6.s0 f6.s0 (by decide)
  have es7 : cq_s (tsW (coD (coR (kpW (trW (kpW (cq_sI g6 a 5 0) (a + 1) (a + 2) (a + 3) (a + 4) (cq_I g6 (a + 1) 4) 0 (cq_J g6 a 13) (cq_I g6 a 17) (fun i => cq_J g6 ob i)) a q (cq_I g6 a 16) (cq_J g x 79) (f_key 1 root (f_common (cq_J g (x + 17) (21 * u + ln)) (cq_J g x 79))) o') (a + 1) (a + 2) (a + 3) (a + 4) (cq_I g6 (a + 1) 4 + 0) (cq_I g x 81) (cq_J g x 79) 0 (fun i => cq_J g6 ob (0 + i))) a (nxI ((cq_I g x 81).toNat + 1) (m_cfC g x u ln root)) (cq_I g x 81 + 1)) (pe u) t (cq_I g (x + 12) u)) a t q' (f_key 1 root (f_common (cq_J g (x + 17) (21 * u + ln)) (cq_J g x 79))) (f_common (dV (cq_J g (x + 1) u) (cq_I g (x + 12) u)) (cq_J g x 79))) = cq_s g6 := by rw [tsW_s, coD_s, coR_s, kpW_qs, trW_s, kpW_qs]; rfl
  have a_o : ∀ d, cq_s g6 d = 7 → d ≠ a → cq_A m d = cq_A g6 d := fun d sd nd => by
    have nd2 : ¬ d = pe u := ns sd f6.s0 (by decide)
    rw [e7.A (k0 := 7) (by rw [es7]; exact sd) rfl]
    funext j
    unfold tsW coD trW
    simp only [coR_A, kpW_qA, mm_sI, mm_sJ, mm_sA, mm_IJ, mm_IA, mm_JI, mm_JA, mm_AI, mm_AJ, mm_ssI, mm_ssJ, mm_ssA, mm_zI, mm_zJ, mm_zA, mm_nI, mm_nJ, mm_nA, nd, nd2, Nat.left_eq_add, Nat.add_eq_left, Nat.add_left_cancel_iff, Nat.reduceEqDiff, Int.reduceEq, false_and, and_false, if_false, if_true, and_self, true_and, true_or, or_true, false_or, or_false]
  have a_s : ∀ j, cq_A m a j = if j = 9 then some q' else if j = 7 then some q' else if j = 12 then some t else if j = 11 then some q else if j = 14 then o' else cq_A g6 a j := fun j => by
    rw [e7.A (k0 := 7) (by rw [es7]; exact S6.s0) rfl]
    unfold tsW coD trW
    simp only [coR_A, kpW_qA, mm_sI, mm_sJ, mm_sA, mm_IJ, mm_IA, mm_JI, mm_JA, mm_AI, mm_AJ, mm_ssI, mm_ssJ, mm_ssA, mm_zI, mm_zJ, mm_zA, mm_nI, mm_nJ, mm_nA, npT, Nat.left_eq_add, Nat.add_eq_left, Nat.add_left_cancel_iff, Nat.reduceEqDiff, Int.reduceEq, false_and, and_false, if_false, if_true, and_self, true_and, true_or, or_true, false_or, or_false]
    repeat' split
    all_goals (first | rfl | (exfalso; omega))
  have n1a : ¬ a + 1 = a := by omega
  have n1p : ¬ a + 1 = pe u := ns S6.s1 f6.s0 (by decide)
  have a_1 : cq_A m (a + 1) = cq_A g6 (a + 1) := by
    rw [e7.A (k0 := 1) (by rw [es7]; exact S6.s1) rfl]
    funext j
    unfold tsW coD trW
    simp only [coR_A, kpW_qA, mm_sI, mm_sJ, mm_sA, mm_IJ, mm_IA, mm_JI, mm_JA, mm_AI, mm_AJ, mm_ssI, mm_ssJ, mm_ssA, mm_zI, mm_zJ, mm_zA, mm_nI, mm_nJ, mm_nA, n1a, n1p, Nat.left_eq_add, Nat.add_eq_left, Nat.add_left_cancel_iff, Nat.reduceEqDiff, Int.reduceEq, false_and, and_false, if_false, if_true, and_self, true_and, true_or, or_true, false_or, or_false]
  have J7s : ∀ w, cq_s g6 w = 6 → cq_s m w = 6 ∧ cq_J m w 1 = cq_J g6 w 1 := fun w sw => by
    have nw : ¬ w = a := ns sw S6.s0 (by decide)
    have nw2 : ¬ w = a + 2 := ns sw S6.s2 (by decide)
    have nw4 : ¬ w = a + 4 := ns sw S6.s4 (by decide)
    refine ⟨e7.s (by rw [es7]; exact sw) (by decide), ?_⟩
    rw [e7.J (k0 := 6) (by rw [es7]; exact sw) (by decide), (tsW_o nw).2.1, coD_J, (coR_o nw).2, kpW_J nw2 nw4, (trW_o nw).2.1, kpW_J nw2 nw4]
    rfl
  have J46 : ∀ w, cq_s h w = 6 → cq_s m w = 6 ∧ cq_J m w 1 = cq_J h w 1 := fun w sw => ⟨(J7s w (J6s w sw).1).1, (J7s w (J6s w sw).1).2.trans (J6s w sw).2⟩
  have th : cq_s h t = 99 := s6_ st0
  have nx7 : NX c x pe u (m_bytes g x 3 8) e g a d oc h m := ⟨wh6.trans wt, fun d' y z => (a_o d' ((wh6.1 d' (by rw [y]; decide)).1.trans y) z).trans (A6a d' (Or.inl y) z), e7.s (by rw [es7]; exact S6.s0) (by decide), f, q, q', t, di, nt, oa, oe, o', b9, ⟨ent, edi⟩, ⟨soa.n (fun _ y => ⟨y, rfl⟩) J46 (by rw [th]; decide), soe.n (fun _ y => ⟨y, rfl⟩) J46 (by rw [th]; decide), so'.n J6s J7s (by rw [st0]; decide)⟩, (ff6.w wt).fw f4_, tq1.tw s6_, ⟨tq2.h (by rw [tn2, s6_ tn2]), s6_ tn2⟩, ⟨th, st, j1⟩, ⟨by rw [a_s, if_neg (by decide), if_pos rfl], by rw [a_s, if_pos rfl], by rw [a_s, if_neg (by decide), if_neg (by decide), if_neg (by decide), if_pos rfl], by rw [a_s, if_neg (by decide), if_neg (by decide), if_pos rfl], by rw [a_s, if_neg (by decide), if_neg (by decide), if_neg (by decide), if_neg (by decide), if_pos rfl]⟩, ⟨(wt.1 (a + 1) (by rw [S6.s1]; decide)).1.trans S6.s1, by rw [a_1]; exact e3_, (wt.1 b9 (by rw [sb3]; decide)).1.trans sb3, by rw [A63] at e3_; exact (Option.some.inj e3_).symm⟩, fun d' y z => by rw [f7_ d' ((wh6.1 d' (by rw [y]; decide)).1.trans y), if_neg z]; exact A6a d' (Or.inr y) (fun z2 => by rw [z2, S.s0] at y; exact absurd y (by decide)), fun r r0 r1 => by rw [f7_ b9 sb3, if_pos rfl]; unfold kpG; rw [if_pos ⟨r0, by omega⟩]⟩
  clear a_o a_s a_1 J46 es7
  have S7 := S6.turn Q3 (by rw [Q.i53]; omega) f6.s0 rfl rfl (fun i y0 y1 => by omega) (fun i y0 y1 => by rw [Int.zero_add, Jb6]; exact a2 i y0 y1) e7 st j0 j1
  have D := up12_q (x := x) (u := u) (g := g)
  have F6' := fx_draw D F6 hu (ev.refl (h := coD g6 (pe u) t (cq_I g (x + 12) u)))
  have sc7 : sc5 (coD g6 (pe u) t (cq_I g (x + 12) u)) a := sc6
  have ex7 := tu_ex sc6 e7
  have g30 : ∀ j, cq_I (cq_sI g (x + 12) u (cq_I g (x + 12) u + 1)) (x + 30) j = cq_I g (x + 30) j := fun j => D.I_ 30 j (by decide) (by omega)
  have g29 : ∀ j, cq_I (cq_sI g (x + 12) u (cq_I g (x + 12) u + 1)) (x + 29) j = cq_I g (x + 29) j := fun j => D.I_ 29 j (by decide) (by omega)
  have fr7 : ∀ u' v' i, 0 ≤ u' → u' < n → 0 ≤ v' → v' < n → 0 ≤ i → i < cq_I (cq_sI g (x + 12) u (cq_I g (x + 12) u + 1)) (x + 30) (6 * u' + v') → T (cq_I (cq_sI g (x + 12) u (cq_I g (x + 12) u + 1)) (x + 29) (4 * (6 * u' + v') + i)) ≠ a := fun u' v' i y1 y2 y3 y4 y5 y6 => by
    rw [g30] at y6
    rw [g29]
    exact fr u' v' i y1 y2 y3 y4 y5 y6
  have F7 := F6'.loose sc7 fr7 ex7
  have sp6 := f6.s0
  have R7a := R6.st (P := fun q => q = pe u) (h' := coD g6 (pe u) t (cq_I g (x + 12) u)) (by
    unfold coD
    exact evx.sA (P := fun a => a = pe u) (evx.sI (P := fun a => a = pe u) evx.refl rfl) rfl) (fun q w => by rw [w, sp6]; decide)
  have R7 := R7a.st ex7 (fun q z => by
    have := sc7.cl z
    omega)
  clear e7 ex7 sc7 R7a F6' S6 R6 F6 st0 st j0 j1 G6 f6 I6 J6 Jb6 i16 i26 i36 i46 j56 j66 km6 sc6 f7_ tq1 tq2 tn2 wt J7s w6 wh6 A6a A63 A67 A612 J6s ff6
  have hs7 : s = m_slotN (cq_sI g (x + 12) u (cq_I g (x + 12) u + 1)) x (6 * u + v) := by
    rw [slot_c (funext g29) (funext g30)]
    exact hs
  have e12 : ∀ o j, 1 ≤ o → ¬ (o = 12 ∧ j = u) → cq_I (cq_sI g (x + 12) u (cq_I g (x + 12) u + 1)) (x + o) j = cq_I g (x + o) j := D.I_
  have d12 := D.i12
  have dJ := D.J_
  have dx := D.x_
  generalize cq_sI g (x + 12) u (cq_I g (x + 12) u + 1) = g7 at F7 fr7 hs7 g29 g30 e12 d12 dJ dx
  clear D
  have c12 : cq_I G (x + 12) u = cq_I g (x + 12) u := Q.I_ 12 u (by decide) (by omega) (by omega) (by omega)
  have q30 : ∀ j, cq_I (bk x g gq) (x + 30) j = cq_I G (x + 30) j := fun j => by rw [b2 30 j (by decide) (by decide), A.I_ 30 j (by decide) (by decide) (by decide) (by unfold inS; omega) (by decide) (by omega)]
  have q29 : ∀ j, cq_I (bk x g gq) (x + 29) j = cq_I G (x + 29) j := fun j => by rw [b2 29 j (by decide) (by decide), A.I_ 29 j (by decide) (by decide) (by decide) (by unfold inS; omega) (by decide) (by omega)]
  have NQ7 : NQ x (6 * u + v) s g7 (bk x g gq) := ⟨by rw [q30, g30]; exact Q.nq.r30, fun i y0 y1 => by rw [g30] at y1; rw [q29, g29]; exact Q.nq.r29 i y0 y1⟩
  have eg : ∀ o j, 1 ≤ o → o ≤ 65 → o ∉ tL → ¬ (o = 30 ∧ j = 6 * u + v) → ¬ (o = 29 ∧ 4 * (6 * u + v) ≤ j ∧ j < 4 * (6 * u + v) + 4) → ¬ inS s o j → cq_I (bk x g gq) (x + o) j = cq_I g7 (x + o) j ∧ cq_J (bk x g gq) (x + o) j = cq_J g7 (x + o) j := by
    intro o j w1 w2 w3 w4 w5 w6
    have w7 : ¬ (((31 ≤ o ∧ o ≤ 47) ∨ o = 53) ∧ j = s) := fun z => w6 (Or.inl z)
    refine ⟨?_, ?_⟩
    · by_cases z : o = 65
      · rw [z, b3, e12 65 j (by decide) (by omega)]
      · rw [b2 o j w1 z]
        by_cases y : o = 12 ∧ j = u
        · rw [y.1, y.2, A.i12, d12, c12]
        · rw [A.I_ o j w1 w2 w3 w6 z y, Q.I_ o j w1 w4 w5 w7, e12 o j w1 y]
    · rw [b4, A.J_ o j w1 w2 w3 w6, Q.J_ o j w1 (fun z => w7 ⟨Or.inl z.1, z.2⟩), dJ o j w1]
  have gc7 := G7.cs
  have f7 := F7.fu u hu.1 hu.2
  have fo7 := F7.fo u v hu.1 hu.2 hv.1 hv.2
  have r13 := F7.r13 u hu.1 hu.2
  have zra : cq_z m (pe u + 6) = n := G7.tz r13.2
  have era := F7.ra u v hu.1 hu.2 hv.1 hv.2
  have e3 : cq_I m en 3 = v := R7.1.fr.trans ev_
  have x23 : cq_I (bk x g gq) (x + 23) u = cq_I g (x + 23) u := by rw [(eg 23 u (by decide) (by decide) (by decide) (by omega) (by omega) (by unfold inS; omega)).1, e12 23 u (by decide) (by omega)]
  have x58 : cq_I (bk x g gq) (x + 58) u = cq_I g (x + 58) u := by rw [(eg 58 u (by decide) (by decide) (by decide) (by omega) (by omega) (by unfold inS; omega)).1, e12 58 u (by decide) (by omega)]
  have x85 := b1 85
  refine bx_X10_openInNew_257 hY (pf2_ok hY) ?_
  simp only [wp_iconst, wp_bipush, wp_sipush, wp_ldc, wp_ldc2_w, wp_lconst0, wp_lconst1, wp_aconst_null, wp_iload_0, wp_istore_0, wp_iload_1, wp_istore_1, wp_iload_2, wp_istore_2, wp_iload_3, wp_istore_3, wp_iload, wp_istore, wp_lload_0, wp_lstore_0, wp_lload_1, wp_lstore_1, wp_lload_2, wp_lstore_2, wp_lload_3, wp_lstore_3, wp_lload, wp_lstore, wp_aload_0, wp_astore_0, wp_aload_1, wp_astore_1, wp_aload_2, wp_astore_2, wp_aload_3, wp_astore_3, wp_aload, wp_astore, wp_iinc, wp_iadd, wp_isub, wp_imul, wp_iand, wp_ior, wp_ixor, wp_ishl, wp_ishr, wp_iushr, wp_irem, wp_ladd, wp_lsub, wp_lmul, wp_land, wp_lor, wp_lxor, wp_lshl, wp_lshr, wp_lushr, wp_lrem, wp_lcmp, wp_i2l, wp_l2i, wp_dupI, wp_dupA, wp_dup2J, wp_dup2IA, wp_popI, wp_popA, wp_pop2, wp_goto, wp_if_eq, wp_icmp_eq, wp_if_ne, wp_icmp_ne, wp_if_lt, wp_icmp_lt, wp_if_ge, wp_icmp_ge, wp_if_gt, wp_icmp_gt, wp_if_le, wp_icmp_le, wp_ifnull, wp_ifnonnull, wp_acmp_eq, wp_acmp_ne, wp_tableswitch, wp_get0, wp_put0, wp_get1, wp_put1, wp_get2, wp_put2, wp_get3, wp_put3, wp_new, wp_newarray, wp_anewarray, wp_alen, wp_iaload, wp_laload, wp_baload, wp_aaload, wp_iastore, wp_lastore, wp_bastore, wp_aastore, wp_return, wp_ireturnI, wp_ireturnZ, wp_lreturn, wp_areturnO, wp_areturnA, wp_max, wp_min, wp_obj, wp_virt, wp_nil, ld_I0, ld_Is, ld_J0, ld_Js, ld_A0, ld_As, ha_0, ha_s, cx_put1, cx_put2, cx_dl, cx_tgt, true_and, and_true, Nat.reduceAdd, Nat.reduceSub, Int.reduceAdd, Int.reduceNeg, Int.reduceToNat, Int.reduceSub, Int.cast_ofNat_Int, List.take_succ_cons, List.take_zero, List.drop_succ_cons, List.drop_zero, List.take_nil, List.drop_nil, Option.toList_some, Option.toList_none, List.cons_append, List.nil_append, wp_spec, ne_eq, Nat.reduceEqDiff, not_false_eq_true, true_or, or_true, f7.s0, r13.1, gc7, F7.a12, F7.s12, e3, r13.2, zra, era, ra_181]
  refine ⟨by omega, ?_⟩
  refine cl_X6_putFirst (Nat.le_of_ble_eq_true rfl) fo7.s0 (by omega) (by omega) (e_X6_putFirst hY G7 List.not_mem_nil fo7.s0 S7.s0 S7.s9 (fun g8 G8 e8 => ?_))
  have F8 := fx_put F7 hu hv hs7 NQ7 S7 eg (fun j => by rw [b1, dx]) fr7 e8
  have t5 := fo7.s0
  have t182 := fo7.s1
  have R8 := R7.st (P := fun q => q = ro u v ∨ q = ro u v + 1) (h' := g8) (by
    rw [e8]
    unfold rwF
    exact (evx.refl.sI (Or.inl rfl)).rA (Or.inr rfl)) (fun q w => by
    rcases w with rfl | rfl
    · rw [t5]; decide
    · rw [t182]; decide)
  have A78 : ∀ (d k0 : Nat), cq_s m d = k0 → k0 ≠ 182 → cq_A g8 d = cq_A m d := fun d k0 sd nk => by
    have nd : ¬ d = ro u v + 1 := ns sd t182 nk
    rw [e8]
    unfold rwF
    rw [rr_A, if_neg nd]
    rfl
  have w78 : et m g8 := ⟨fun d _ => by rw [e8]; exact ⟨rfl, rfl⟩, fun d j w _ => by rw [A78 d 8 w (by decide)], fun d w => A78 d 101 w (by decide)⟩
  have nx8 := nx7.w w78 (fun d y => by rcases y with y | y | y <;> exact A78 d _ y (by decide)) (fun d _ => by rw [e8]; rfl)
  rw [← x85] at hK
  exact cw_room (Nat.zero_le _) (Nat.zero_le _) (on_note hY G8 F8 R8 hu hb eln eon ee (by rw [x58]; exact h58) (by rw [x85]; exact h85) (by rw [x23]; exact hon) (fun h' C' F' R' q' => hK h' _ C' F' R' rfl (nx8.w (et.of q'.1 q'.2.1 q'.2.2.1) (fun d _ => by rw [q'.2.2.1]) q'.2.2.2)))
end
