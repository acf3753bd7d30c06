/-! what the tables must say, by program, of each instruction -/
def cx_sc (PG : List ev_M) (M : ev_M) (sort u nn : Nat) : Bool := match ev_nth PG u with
  | some M' => decide (ev_mK M' = sort) && decide (nn = if sort = 0 then ev_mP M' else ev_mP M' + 1) && decide (ev_mF M' + 1 ≤ ev_mF M) && decide (8 + (ev_mL M' + 11) + ev_mO M' ≤ ev_mO M)
  | none => false
def cx_tg (pc : Nat) (off : Int) : Bool := decide (0 ≤ (pc : Int) + off)
def cx_sE (G : ev_G) (TY : Nat → Nat → FieldType) (ra : cx_A) (PG : List ev_M) (M : ev_M) (pc : Nat) (E : ev_E) : Bool := match E.1 with
  | .iconst n => E.2.1 == 1 && decide ((Int32.ofInt n).toInt = n)
  | .bipush n => E.2.1 == 2 && decide ((Int8.ofInt n).toInt32.toInt = n)
  | .sipush n => E.2.1 == 3 && decide ((Int16.ofInt n).toInt32.toInt = n)
  | .ldc _ => E.2.1 == 2 && decide ((Int32.ofInt E.2.2.2.2).toInt = E.2.2.2.2)
  | .lconst n => E.2.1 == 1 && decide (Int64.ofNat (n : Nat) = Int64.ofInt (n : Nat))
  | .ldc2_w _ => E.2.1 == 3
  | .iload _ => E.2.1 == 2
  | .lload _ => E.2.1 == 2
  | .aload _ => E.2.1 == 2
  | .istore _ => E.2.1 == 2
  | .lstore _ => E.2.1 == 2
  | .astore _ => E.2.1 == 2
  | .iinc _ n => E.2.1 == 3 && decide ((Int32.ofInt n).toInt = n)
  | .goto off => E.2.1 == 3 && cx_tg pc off
  | .ifCond _ off => E.2.1 == 3 && cx_tg pc off
  | .if_icmp _ off => E.2.1 == 3 && cx_tg pc off
  | .ifnull off => E.2.1 == 3 && cx_tg pc off
  | .ifnonnull off => E.2.1 == 3 && cx_tg pc off
  | .if_acmp _ off => E.2.1 == 3 && cx_tg pc off
  | .tableswitch dflt lo hi offs => cx_tg pc dflt && offs.toList.all (cx_tg pc) && decide ((offs.toList.length : Int) = hi - lo + 1)
  | .getfield _ => E.2.1 == 3 && decide (ev_fs (TY E.2.2.1 E.2.2.2.1) = E.2.2.2.2.toNat)
  | .putfield _ => E.2.1 == 3
  | .new _ => E.2.1 == 3 && (match ev_nth G.1 E.2.2.1 with
    | some r => decide (r.2.2 = E.2.2.2.1)
    | none => false)
  | .newarray a => E.2.1 == 2 && decide (100 ≤ E.2.2.2.1) && decide ((ra E.2.2.2.1).2.1 = E.2.2.1) && decide ((ra E.2.2.2.1).1 = ev_fs (newarray.typeOf a))
  | .anewarray _ => E.2.1 == 3 && decide (100 ≤ E.2.2.2.1) && decide ((ra E.2.2.2.1).2.1 = E.2.2.1) && decide ((ra E.2.2.2.1).1 = 3)
  | .invokestatic _ => E.2.1 == 3 && (E.2.2.1 == 998 || E.2.2.1 == 997 || cx_sc PG M 0 E.2.2.1 E.2.2.2.2.toNat)
  | .invokevirtual _ => E.2.1 == 3 && cx_sc PG M 1 E.2.2.1 E.2.2.2.2.toNat
  | .invokespecial _ => E.2.1 == 3 && (E.2.2.1 == 999 || cx_sc PG M 2 E.2.2.1 E.2.2.2.2.toNat)
  | _ => E.2.1 == 1
/-- what the tables say of a method's every instruction -/
def cx_md (Tg Tn : List Cond) (AO : List String) (G : ev_G) (TY : Nat → Nat → FieldType) (ra : cx_A) (PG : List ev_M) (M : ev_M) : Prop :=
  ∀ (pc : Nat) (E : ev_E), ev_at M pc = some E → decode (ev_mB M) pc = .ok (E.1, E.2.1) ∧ ev_lok Tg Tn AO G TY PG (ev_mN M).cls (ev_mK M) E ∧ cx_sE G TY ra PG M pc E = true
/-- the tables' own facts, for arrays by their roles too -/
def cx_Fx (Tg Tn : List Cond) (AO : List String) (G : ev_G) (TY : Nat → Nat → FieldType) (ra : cx_A) (PG : List ev_M) (tys : List (ClassId × FieldType)) : Prop :=
  ev_Fx Tg Tn G TY ∧ G.1.length ≤ 98 ∧ PG.length ≤ 900 ∧ tys.map Prod.snd = G.2.1 ∧ (∀ M ∈ PG, ev_mok Tg Tn AO G TY PG M) ∧
  (∀ s, s < 100 → s ≠ 98 → 4 ≤ (ra s).1) ∧ (ra 98).1 = 0 ∧ (∀ s, (ra s).1 = 3 → ∃ (E : String) (T : u_T) (N : Nat), G.2.1[(ra s).2.1]? = some (.object E) ∧ G.1[(ra s).2.2]? = some (E, T, N)) ∧
  (∀ (ci : Nat) (C : String) (T : u_T) (N : Nat), G.1[ci]? = some (C, T, N) → ∀ j, j < N → ev_fs (TY ci j) < 4)
/-- the answer of a method -/
def cx_vr (v : Option Value) (a : Option cx_V) : Prop := match v, a with
  | none, none => True
  | some v, some a => cx_g v a
  | _, _ => False
theorem cx_vr_st {v : Option Value} {a : Option cx_V} {cst : List Value} {st : List cx_V} (h : cx_vr v a) (h1 : cx_g1 cst st) : cx_g1 (v.toList ++ cst) (a.toList ++ st) := by
  cases v with
  | none => cases a with
    | none => exact h1
    | some a => exact h.elim
  | some v => cases a with
    | none => exact h.elim
    | some a => exact ⟨h, h1⟩
def cx_Sd (B b L : Nat) (xs : Nat → Int32) (s : State) : Prop := b < B ∧ va_X b L xs s s.heap
section CXW
variable (Tg Tn : List Cond) (AO : List String) (G : ev_G) (TY : Nat → Nat → FieldType) (ra : cx_A) (l : Launch) (D : va_G) (tys : List (ClassId × FieldType)) (B b L : Nat) (xs : Nat → Int32)
/-- what is known at a return -/
def cx_RH (M : ev_M) (P : Option cx_V → cx_Q → Prop) (p : Program) (e : Env) (R : Room) (s : State) (m : MethodId) (args : Array Value) (below : List Frame) (meth : Method) (c : Code) (Q : State → Prop) (mc ms : Nat) : Prop :=
  ∀ (H : Heap) (locs : List Loc) (cells slots : Nat) (ls : Array Slot) (pc : Nat) (cst : List Value) (E : ev_E) (st : List cx_V) (a : Option cx_V) (h : cx_Q), P a h → ev_at M pc = some E → E.2.1 = 1 → cx_rtf E.1 (ev_mR M) st (fun x => x = a) → cx_g1 cst st → cx_R ra D G.1 tys TY B b L xs h H → ev_Lo B s.heap H locs → cells ≤ mc → slots ≤ ms → W p l e R s m args below meth c H locs cells slots Q (F0 m pc ls cst)
/-- from here the machine comes to the method's end, with P of its answer and of the memory -/
def cx_W (M : ev_M) (P : Option cx_V → cx_Q → Prop) (pc : Nat) (lv : cx_L) (st : List cx_V) (h : cx_Q) (bc bs : Nat) : Prop :=
  ∀ (p : Program) (e : Env) (R : Room) (s : State) (m : MethodId) (args : Array Value) (below : List Frame) (meth : Method) (c : Code) (Q : State → Prop) (H : Heap) (locs : List Loc) (cells slots : Nat) (ls : Array Slot) (cst : List Value) (mc ms : Nat),
    ev_Cx D tys Tg Tn AO G M p s m args meth c → cx_lv ls (ev_mL M) lv → cx_g1 cst st → cx_R ra D G.1 tys TY B b L xs h H → ev_Lo B s.heap H locs → cx_Sd B b L xs s → cells + bc ≤ mc → slots + bs ≤ ms → mc ≤ R.cells → ms ≤ R.slots → ev_mF M ≤ R.frames → ev_mO M ≤ R.locals → cx_RH G TY ra l D tys B b L xs M P p e R s m args below meth c Q mc ms →
    W p l e R s m args below meth c H locs cells slots Q (F0 m pc ls cst)
/-- a call: the called method's own run, behind which it goes on here -/
def cx_cl (PG : List ev_M) (M : ev_M) (P : Option cx_V → cx_Q → Prop) (sort u v : Nat) (as : List cx_V) (pc : Nat) (lv : cx_L) (rest : List cx_V) (h : cx_Q) (bc bs : Nat) : Prop :=
  ∃ M' : ev_M, PG[u]? = some M' ∧ as.length = (if sort = 0 then ev_mP M' else ev_mP M' + 1) ∧ cx_sz as ≤ ev_mL M' ∧ cx_sz rest ≤ 8 ∧ ev_mY M' ≤ bc ∧ ev_mS M' ≤ bs ∧ (sort ≠ 0 → ∃ (i : Nat) (r : List cx_V), as.reverse = .inr (.inr (some i)) :: r ∧ (sort = 1 → cq_s h i = v)) ∧
    cx_W Tg Tn AO G TY ra l D tys B b L xs M' (fun a h' => cx_W Tg Tn AO G TY ra l D tys B b L xs M P pc lv (a.toList ++ rest) h' (bc - ev_mY M') (bs - ev_mS M')) 0 (cx_ent (ev_mL M') as.reverse) [] h (ev_mY M') (ev_mS M')
end CXW
theorem cx_szr : ∀ (x y : List cx_V), cx_sz (x ++ y) = cx_sz x + cx_sz y
  | [], y => by simp [cx_sz]
  | a :: x, y => by
    have := cx_szr x y
    simp only [List.cons_append, cx_sz]; omega
theorem cx_szrev : ∀ (x : List cx_V), cx_sz x.reverse = cx_sz x
  | [] => rfl
  | a :: x => by
    rw [List.reverse_cons, cx_szr, cx_szrev x]
    simp only [cx_sz]; omega
section CXC
variable {p : Program} {l : Launch} {e : Env} {R : Room} {s : State} {m : MethodId} {args : Array Value} {below : List Frame} {meth : Method} {c : Code} {H : Heap} {locs : List Loc} {cells slots : Nat} {Q : State → Prop}
variable {pc : Nat} {ls : Array Slot} {B b L : Nat} {xs : Nat → Int32} {D : va_G} {tys : List (ClassId × FieldType)} {Tg Tn : List Cond} {AO : List String} {G : ev_G} {TY : Nat → Nat → FieldType} {ra : cx_A} {PG : List ev_M} {M : ev_M} {P : Option cx_V → cx_Q → Prop}
variable {lv : cx_L} {st : List cx_V} {h : cx_Q} {bc bs : Nat}
/-- the rows of a method's end -/
theorem cx_retrow {E : ev_E} {a : Option cx_V} {cst : List Value} {Qc : Array Value → State → Outcome → State → Prop} {free : Addr → Prop} (X : ev_Cx D tys Tg Tn AO G M p s m args meth c) (hd : decode (ev_mB M) pc = .ok (E.1, 1)) (hr : cx_rtf E.1 (ev_mR M) st (fun x => x = a)) (h1 : cx_g1 cst st)
    (hq : ∀ v : Option Value, cx_vr v a → ∀ t : State, t.heap = H → s.WarmedH t.vm → Qc args s (.returned v) t) (hf : ∀ q ∈ locs, free q.base) : W p l e R s m args below meth c H locs cells slots (MQ below Qc args s cells slots free) (F0 m pc ls cst) := by
  obtain ⟨ins, len, u, v, z⟩ := E
  obtain ⟨hx, hb, hml, hown, hts, hret, hlocks, hin0, hK, hNw, hAO⟩ := X
  dsimp only at hd hr
  unfold cx_rtf at hr
  split at hr
  · rename_i hM
    subst hr
    have := cx_nil h1
    subst this
    exact W.vret hx hb (hret.trans hM) (hq none trivial) hf hd hlocks
  · rename_i n hM
    subst hr
    obtain ⟨w, ws, rfl, e1, g1⟩ := cx_cons h1
    have := cx_nil g1
    subst this
    obtain ⟨x, rfl, e2⟩ := cx_int e1
    exact W.zret hx hb (hret.trans hM) rfl (hq (some _) e1) hf hd hlocks
  · rename_i n hM
    obtain ⟨h01, rfl⟩ := hr
    obtain ⟨w, ws, rfl, e1, g1⟩ := cx_cons h1
    have := cx_nil g1
    subst this
    obtain ⟨x, rfl, e2⟩ := cx_int e1
    have hn : narrow .boolean (.int x) = .int x := by
      rcases cx_01 (x := x) (by rw [e2]; exact h01) with rfl | rfl <;> decide
    exact W.zret hx hb (hret.trans hM) hn (hq (some _) e1) hf hd hlocks
  · rename_i y hM
    subst hr
    obtain ⟨w, ws, rfl, e1, g1⟩ := cx_cons h1
    have := cx_nil g1
    subst this
    cases cx_long e1
    exact W.lret hx hb (hret.trans hM) (hq (some _) e1) hf hd hlocks
  · rename_i n r hM
    subst hr
    obtain ⟨w, ws, rfl, e1, g1⟩ := cx_cons h1
    have := cx_nil g1
    subst this
    exact W.aret hx hb (hret.trans hM) (Or.inl ⟨_, rfl⟩) (cx_any e1) (hq (some _) e1) hf hd hlocks
  · rename_i n r hM
    subst hr
    obtain ⟨w, ws, rfl, e1, g1⟩ := cx_cons h1
    have := cx_nil g1
    subst this
    exact W.aret hx hb (hret.trans hM) (Or.inr ⟨_, rfl⟩) (cx_any e1) (hq (some _) e1) hf hd hlocks
  · exact hr.elim
/-- a call, when the called method has a contract -/
theorem cx_mkrun {M' : ev_M} {sort u v idx : Nat} {z : Int} {ins : Instr} {As rest cst : List Value} {Pc : Array Value → State → Prop} {Qc : Array Value → State → Outcome → State → Prop} {free : Addr → Prop} (Fx : cx_Fx Tg Tn AO G TY ra PG tys) (X : ev_Cx D tys Tg Tn AO G M p s m args meth c) (hk : ev_mok Tg Tn AO G TY PG M')
    (hins : (sort = 0 ∧ ins = .invokestatic idx) ∨ (sort = 1 ∧ ins = .invokevirtual idx) ∨ (sort = 2 ∧ ins = .invokespecial idx)) (hu9 : u < 900) (hsort : ev_mK M' = sort) (lk : ev_lok Tg Tn AO G TY PG (ev_mN M).cls (ev_mK M) (ins, 3, u, v, z)) (hu : PG[u]? = some M')
    (hM : Met l (ev_mN M') (ev_ws Tg M') (ev_rm M') Pc Qc (ev_mY M') (ev_mS M') free) (hfb : FrameBlind Pc) (hPc : ∀ U : State, U.heap = H → s.WarmedH U.vm → Pc As.toArray U) (hlen : As.length = if sort = 0 then ev_mP M' else ev_mP M' + 1)
    (hrecv : sort ≠ 0 → ∃ (i : Nat) (As' : List Value), As = .ref i :: As' ∧ (sort = 1 → cq_s h i = v)) (hR : cx_R ra D G.1 tys TY B b L xs h H) (hsz : ls.size = ev_mL M) (hst : cst = As.reverse ++ rest) (hW : (rest.map fun v => v.category).sum ≤ 8) (hd : decode (ev_mB M) pc = .ok (ins, 3)) (hF : ev_mF M' + 1 ≤ R.frames) (hO : 8 + (ev_mL M' + 11) + ev_mO M' ≤ R.locals) (hc : cells + ev_mY M' ≤ R.cells) (hs : slots + ev_mS M' ≤ R.slots) :
    va_Run p l e R s m args below meth c H locs cells slots (ev_mY M') (ev_mS M') (F0 m pc ls cst) rest (Qc As.toArray) free := by
  obtain ⟨hx, hb, hml, hown, hts, hret, hlocks, hin0, hK, hNw, hAO⟩ := X
  have f98 := Fx.2.1
  obtain ⟨f1, f2, f3, f4, f5⟩ := Fx.1
  have hwsin := ev_ws_in hk
  obtain ⟨m1, m2, m3, m4, m5, m6, m7, m8⟩ := hk
  have hG : GoodIn Tg (ev_ws Tg M') := ev_goodW f2 hwsin
  have hfix : CallFix p m c (ev_mB M) (ev_mL M) s args Tg (ev_mN M).cls := ⟨hx, hb, hml, hown, hts⟩
  subst hst
  rcases hins with ⟨rfl, rfl⟩ | ⟨rfl, rfl⟩ | ⟨rfl, rfl⟩
  · obtain ⟨-, M2, k1, k2⟩ : u < 900 ∧ ∃ M2 : ev_M, PG[u]? = some M2 ∧ Cond.methodLink (ev_mN M).cls idx (ev_mN M2) ∈ Tg := by
      rcases lk with ⟨k0, -⟩ | ⟨k0, -⟩ | k0
      · dsimp only at k0; omega
      · dsimp only at k0; omega
      · exact k0
    have e1 := Option.some.inj (hu.symm.trans k1)
    subst e1
    exact va_runS hfix hM ⟨callB_of (ev_mP M') hts hG rfl rfl rfl (hts _ m3) (hts _ k2) m4 ⟨hF, hO⟩, hts _ (m5 (by rw [hsort]))⟩ ⟨hfb, hPc⟩ rfl (by simpa using hlen) hsz rfl (lv_room hW) hd ⟨hc, hs⟩
  · obtain ⟨M2, k1, k2, T, N, k3⟩ := lk
    have e1 := Option.some.inj (hu.symm.trans k1)
    subst e1
    obtain ⟨i, As', rfl, hc2⟩ := hrecv (by decide)
    obtain ⟨-, V, ⟨cellV, g1, g2, g3, -⟩, -⟩ := cx_obj hR f98 k3 (hc2 rfl)
    have hcls := (hK.1 v _ k3).2
    refine va_runV (C := (ev_mN M').cls) (As := As') (b := i) hfix hM ⟨callB_of (ev_mP M') hts hG rfl rfl rfl (hts _ m3) (hts _ k2) m4 ⟨hF, hO⟩, hts _ (m6 (by rw [hsort])).1, hts _ (m6 (by rw [hsort])).2⟩ ⟨hfb, ⟨cellV, g1, by rw [g3]; rfl, by rw [g2]; exact hcls.1⟩, hPc⟩ rfl (by simpa using hlen) hsz (by simp) (lv_room hW) hd ⟨hc, hs⟩
  · obtain ⟨i, As', rfl, -⟩ := hrecv (by decide)
    obtain ⟨n1, n2, n3⟩ := m7 (by rw [hsort])
    rcases lk with ⟨k0, -⟩ | ⟨-, M2, k1, k2⟩
    · dsimp only at k0; omega
    · have e1 := Option.some.inj (hu.symm.trans k1)
      subst e1
      have hw : ev_ws Tg M' = Cond.code (ev_mN M') (ev_mB M') (ev_mL M') none :: Tg := by unfold ev_ws; rw [n3]
      rcases k2 with k2 | ⟨host, k2⟩
      · exact va_runI (As := As') (b := i) hfix hM ⟨callB_of (ev_mP M') hts hG hw rfl rfl (hts _ m3) (hts _ k2) m4 ⟨hF, hO⟩, n1, hts _ n2⟩ ⟨hfb, hPc⟩ rfl (by simpa using hlen) hsz (by simp) (lv_room hW) hd ⟨hc, hs⟩
      · exact va_runIN (As := As') (b := i) hfix hM ⟨va_cnB (ev_mP M') hts hG hw rfl rfl (hNw _ k2) (hts _ m3) m4 ⟨hF, hO⟩, n1, hts _ n2⟩ ⟨hfb, hPc⟩ rfl (by simpa using hlen) hsz (by simp) (lv_room hW) hd ⟨hc, hs⟩
theorem cx_call_ok {sort u v idx nn : Nat} {z : Int} {ins : Instr} (Fx : cx_Fx Tg Tn AO G TY ra PG tys) (hmd : ∀ M ∈ PG, cx_md Tg Tn AO G TY ra PG M)
    (hins : (sort = 0 ∧ ins = .invokestatic idx) ∨ (sort = 1 ∧ ins = .invokevirtual idx) ∨ (sort = 2 ∧ ins = .invokespecial idx)) (hd : decode (ev_mB M) pc = .ok (ins, 3)) (lk : ev_lok Tg Tn AO G TY PG (ev_mN M).cls (ev_mK M) (ins, 3, u, v, z)) (hsc : cx_sc PG M sort u nn = true)
    (hq : cx_cl Tg Tn AO G TY ra l D tys B b L xs PG M P sort u v (st.take nn) (pc + 3) lv (st.drop nn) h bc bs) : cx_W Tg Tn AO G TY ra l D tys B b L xs M P pc lv st h bc bs := by
  intro p e R s m args below meth c Q H locs cells slots ls cst mc ms X hl h1 hR hL hS hc hs hmc hms hF hO hRH
  obtain ⟨M', hu, hlen0, hsz0, hrest, hY, hZ, hrcv, hrun⟩ := hq
  have hM'm : M' ∈ PG := List.mem_of_getElem? hu
  have hk := Fx.2.2.2.2.1 M' hM'm
  have hu9 : u < 900 := by
    have : u < PG.length := (List.getElem?_eq_some_iff.mp hu).1
    have := Fx.2.2.1
    omega
  unfold cx_sc at hsc
  rw [ev_nth_eq, hu] at hsc
  simp only [Bool.and_eq_true, decide_eq_true_eq] at hsc
  obtain ⟨⟨⟨o2, o3⟩, o7⟩, o8⟩ := hsc
  obtain ⟨gT, gD⟩ := cx_g1_take nn h1
  have gA := cx_g1_rev gT
  have hst : cst = (cst.take nn).reverse.reverse ++ cst.drop nn := by rw [List.reverse_reverse, List.take_append_drop]
  have hlen : (cst.take nn).reverse.length = if sort = 0 then ev_mP M' else ev_mP M' + 1 := by
    rw [cx_g1_len gA, List.length_reverse, hlen0]
  have hW8 : ((cst.drop nn).map fun v => v.category).sum ≤ 8 := by rw [cx_szc gD]; exact hrest
  have hrecv : sort ≠ 0 → ∃ (i : Nat) (As' : List Value), (cst.take nn).reverse = .ref i :: As' ∧ (sort = 1 → cq_s h i = v) := by
    intro h0
    obtain ⟨i, r, e1, e2⟩ := hrcv h0
    rw [e1] at gA
    obtain ⟨w, ws, e3, e4, -⟩ := cx_cons gA
    cases cx_ref e4
    exact ⟨i, ws, e3, e2⟩
  have hMet : Met l (ev_mN M') (ev_ws Tg M') (ev_rm M') (fun a U => a = ((cst.take nn).reverse).toArray ∧ cx_R ra D G.1 tys TY B b L xs h U.heap ∧ ev_Kw D G.1 tys Tn AO U ∧ cx_Sd B b L xs U) (fun _ st0 oc t => ∃ (a : Option cx_V) (v : Option Value) (h' : cx_Q), oc = .returned v ∧ cx_vr v a ∧ cx_R ra D G.1 tys TY B b L xs h' t.heap ∧ (∀ q : Nat, q < B → t.heap[q]? = st0.heap[q]?) ∧ cx_W Tg Tn AO G TY ra l D tys B b L xs M P (pc + 3) lv (a.toList ++ st.drop nn) h' (bc - ev_mY M') (bs - ev_mS M')) (ev_mY M') (ev_mS M') (fun q => B ≤ q) := by
    refine Met.ofW (cc := ev_mB M') (maxL := ev_mL M') (ret := ev_mR M') hk.1 rfl ?_
    intro p' e' s' m' args' below' meth' c' s₁' Bd hml' hv'
    obtain ⟨rfl, hR', hKw', hS'⟩ := hv'
    have hts' := atoms_spec (ws := ev_ws Tg M') Bd.pre
    rw [lg_entry_eq]
    have hl' := lv_entry ((cst.take nn).reverse) (n := ev_mL M') (by rw [ev_lgsl, cx_szc gA, cx_szrev]; exact hsz0)
    have hcx : ev_Cx D tys Tg Tn AO G M' p' s' m' _ meth' c' := ⟨Bd.exec, Bd.bytes, hml', findClass_of_methodNamed Bd.named, fun w hw => hts' w (List.mem_cons_of_mem _ hw), Bd.returns, Bd.notSynchronized, fun q => (name_of_methodNamed Bd.named Bd.method).1.trans (hk.2.2.2.2.2.2.1 (by rw [q])).1, hKw'⟩
    refine hrun p' e' _ s' m' _ below' meth' c' _ s'.heap [] 0 0 _ [] (ev_mY M') (ev_mS M') hcx (cx_lv_ent gA hl') trivial hR' ⟨fun _ _ => rfl, fun _ q => by cases q⟩ hS' (by omega) (by omega) (Nat.le_refl _) (Nat.le_refl _) (Nat.le_refl _) (Nat.le_refl _) ?_
    intro H1 locs1 cells1 slots1 ls1 pc1 cst1 E1 st1 a1 h1' hP hat hlen1 hrok g1' hR1 hLo1 hc1 hs1
    refine W.widen hc1 hs1 ?_
    have hd1 := (hmd M' hM'm pc1 E1 hat).1
    rw [hlen1] at hd1
    exact cx_retrow hcx hd1 hrok g1' (fun v0 hv0 t0 ht0 _ => ⟨a1, v0, h1', rfl, hv0, by rw [ht0]; exact hR1, fun q hq => by rw [ht0]; exact hLo1.1 q hq, hP⟩) hLo1.2
  refine ev_call (cx_mkrun (h := h) Fx X hk hins hu9 o2 lk hu hMet ?_ ?_ hlen hrecv hR hl.1 hst hW8 hd (by omega) (by omega) (by omega) (by omega)) ?_
  · intro a U g mk q
    obtain ⟨q1, q2, q3, q4, q5⟩ := q
    exact ⟨q1, q2, ev_Kw_vm (s := U) (U := U.calling g mk a) Fx.1.2.2.1 rfl q3, q4, va_X.moved (u := U) (U := U.calling g mk a) (Vm.Alike.refl U.vm) q5⟩
  · intro U hU hW
    refine ⟨rfl, by rw [hU]; exact hR, ev_Kw_warm Fx.1.2.2.1 hW X.2.2.2.2.2.2.2.2, hS.1, ?_⟩
    exact va_X.moved hW.alike (hS.2.kept (by rw [hU]; exact hL.1 b hS.1))
  · intro v0 st₀ t Lx h0 hq hLx
    obtain ⟨a, v', h', e1, hvr, hR', hlo, hgo⟩ := hq
    cases e1
    exact hgo p e R s m args below meth c Q t.heap _ _ _ ls _ mc ms X hl (cx_vr_st hvr gD) hR' ⟨fun q hq => by rw [hlo q hq, h0]; exact hL.1 q hq, fun q hq => (List.mem_append.mp hq).elim (hL.2 q) (hLx q)⟩ hS (by omega) (by omega) hmc hms hF hO hRH
end CXC
