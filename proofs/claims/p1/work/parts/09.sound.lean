/-! lists of values beside lists of what they may be -/
theorem ev_g1_app {B b : Nat} : ∀ {a c : List Value} {x y : List ev_A}, ev_g1 B b a x → ev_g1 B b c y → ev_g1 B b (a ++ c) (x ++ y)
  | [], _, [], _, _, h => h
  | [], _, _ :: _, _, h, _ => h.elim
  | _ :: _, _, [], _, h, _ => h.elim
  | _ :: _, _, _ :: _, _, h, h' => ⟨h.1, ev_g1_app h.2 h'⟩
theorem ev_g1_rev {B b : Nat} : ∀ {a : List Value} {x : List ev_A}, ev_g1 B b a x → ev_g1 B b a.reverse x.reverse
  | [], [], _ => trivial
  | [], _ :: _, h => h.elim
  | _ :: _, [], h => h.elim
  | v :: vs, a :: as, h => by
    rw [List.reverse_cons, List.reverse_cons]
    exact ev_g1_app (ev_g1_rev h.2) ⟨h.1, trivial⟩
theorem ev_g1_take {B b : Nat} : ∀ (n : Nat) {a : List Value} {x : List ev_A}, ev_g1 B b a x → ev_g1 B b (a.take n) (x.take n) ∧ ev_g1 B b (a.drop n) (x.drop n)
  | 0, _, _, h => ⟨by simp only [List.take_zero]; trivial, by simpa using h⟩
  | _ + 1, [], [], _ => ⟨trivial, trivial⟩
  | _ + 1, [], _ :: _, h => h.elim
  | _ + 1, _ :: _, [], h => h.elim
  | n + 1, _ :: _, _ :: _, h => ⟨⟨h.1, (ev_g1_take n h.2).1⟩, (ev_g1_take n h.2).2⟩
theorem ev_g1_len {B b : Nat} : ∀ {a : List Value} {x : List ev_A}, ev_g1 B b a x → a.length = x.length
  | [], [], _ => rfl
  | [], _ :: _, h => h.elim
  | _ :: _, [], h => h.elim
  | _ :: _, _ :: _, h => by rw [List.length_cons, List.length_cons, ev_g1_len h.2]
theorem ev_args_ok {B b : Nat} : ∀ {i : Nat} {a : List Value} {x : List ev_A}, ev_g1 B b a x → ev_g2 B b (lv_args i a) (ev_args i x)
  | _, [], [], _ => trivial
  | _, [], _ :: _, h => h.elim
  | _, _ :: _, [], h => h.elim
  | i, v :: vs, a :: as, h => by
    have e := ev_cat h.1
    have e2 : (if v.category = 2 then i + 2 else i + 1) = (if a.1 == 1 then i + 2 else i + 1) := by
      rw [← e]
      simp
    unfold lv_args ev_args
    rw [e2]
    exact ⟨⟨rfl, h.1⟩, ev_args_ok h.2⟩
theorem ev_lgsl : ∀ (vs : List Value), (lg_sl vs).length = (vs.map fun v => v.category).sum
  | [] => rfl
  | v :: vs => by
    have ih := ev_lgsl vs
    unfold lg_sl at ih ⊢
    rw [List.flatMap_cons, List.length_append, ih, List.map_cons, List.sum_cons]
    rcases lv_cat v with q | q
    · rw [q]; simp
    · rw [q]; simp
/-- the answer of a method -/
def ev_vr (B b : Nat) (v : Option Value) (a : Option ev_A) : Prop := match v, a with
  | none, none => True
  | some v, some a => ev_g B b v a
  | _, _ => False
theorem ev_vr_st {B b : Nat} {v : Option Value} {a : Option ev_A} {cst : List Value} {st : List ev_A} (h : ev_vr B b v a) (h1 : ev_g1 B b cst st) : ev_g1 B b (v.toList ++ cst) (a.toList ++ st) := by
  cases v with
  | none => cases a with
    | none => exact h1
    | some a => exact h.elim
  | some v => cases a with
    | none => exact h.elim
    | some a => exact ⟨h, h1⟩
def ev_rm (M : ev_M) : Room := { frames := ev_mF M, cells := ev_mY M, slots := ev_mS M, locals := ev_mO M }
def ev_ws (Tg : List Cond) (M : ev_M) : List Cond := Cond.code (ev_mN M) (ev_mB M) (ev_mL M) (ev_mR M) :: Tg
/-- what the tables say of a method -/
def ev_mok (Tg Tn : List Cond) (AO : List String) (G : ev_G) (TY : Nat → Nat → FieldType) (PG : List ev_M) (M : ev_M) : Prop :=
  plainName (ev_mN M).cls = true ∧ Cond.code (ev_mN M) (ev_mB M) (ev_mL M) (ev_mR M) ∈ Tg ∧ Cond.initialized (ev_mN M).cls ∈ Tg ∧ ((ev_mN M).cls ≠ "java/lang/invoke/MethodHandle" ∧ (ev_mN M).cls ≠ "java/lang/invoke/VarHandle" ∧ (parseMethodDescriptor (ev_mN M).desc).map (fun d => d.parameters.length) = some (ev_mP M)) ∧
  (ev_mK M % 10 = 0 → Cond.static (ev_mN M) ∈ Tg) ∧ (ev_mK M % 10 = 1 → Cond.instanceMethod (ev_mN M) ∈ Tg ∧ Cond.selects (ev_mN M).cls (ev_mN M) (ev_mN M) ∈ Tg) ∧ (ev_mK M % 10 = 2 → (ev_mN M).name = "<init>" ∧ Cond.instanceMethod (ev_mN M) ∈ Tg ∧ ev_mR M = none) ∧
  ∀ (pc : Nat) (E : ev_E), ev_at M pc = some E → decode (ev_mB M) pc = .ok (E.1, E.2.1) ∧ ev_lok Tg Tn AO G TY PG (ev_mN M).cls (ev_mK M) E
section EVC
variable {p : Program} {l : Launch} {e : Env} {R : Room} {s : State} {m : MethodId} {args : Array Value} {below : List Frame} {meth : Method} {c : Code} {H : Heap} {locs : List Loc} {cells slots : Nat} {Q : State → Prop}
variable {pc : Nat} {ls : Array Slot} {B b L : Nat} {xs : Nat → Int32} {D : va_G} {tys : List (ClassId × FieldType)} {Tg Tn : List Cond} {AO : List String} {G : ev_G} {TY : Nat → Nat → FieldType} {PG : List ev_M} {M : ev_M}
theorem ev_call {Qa : State → Outcome → State → Prop} {free : Addr → Prop} {mc ms : Nat} {rest st0 : List Value} (hr : va_Run p l e R s m args below meth c H locs cells slots mc ms (F0 m pc ls st0) rest Qa free)
    (kk : ∀ (v : Option Value) (st₀ t : State) (Lc : List Loc), st₀.heap = H → Qa st₀ (.returned v) t → (∀ q ∈ Lc, free q.base) → W p l e R s m args below meth c t.heap (locs ++ Lc) (cells + mc) (slots + ms) Q (F0 m (pc + 3) ls (v.toList ++ rest))) : W p l e R s m args below meth c H locs cells slots Q (F0 m pc ls st0) := by
  intro T hT X
  obtain ⟨v, st₀, t, T', Lc, h0, X', hL, e1, e2, hq, st⟩ := hr T hT X
  obtain ⟨t2, a1, b1⟩ := kk v st₀ t Lc h0 hq hL T' e1 X'
  exact ⟨t2, st t2 a1, b1⟩
theorem ev_retrow {E : ev_E} {st : List ev_A} {a : Option ev_A} {cst : List Value} {Qc : Array Value → State → Outcome → State → Prop} {free : Addr → Prop} (X : ev_Cx D tys Tg Tn AO G M p s m args meth c) (hd : decode (ev_mB M) pc = .ok (E.1, 1)) (hr : ev_rok E M st = some a) (h1 : ev_g1 B b cst st)
    (hq : ∀ v : Option Value, ev_vr B b v a → ∀ t : State, t.heap = H → s.WarmedH t.vm → Qc args s (.returned v) t) (hf : ∀ q ∈ locs, free q.base) : W p l e R s m args below meth c H locs cells slots (MQ below Qc args s cells slots free) (F0 m pc ls cst) := by
  obtain ⟨ins, len, u, v, z⟩ := E
  obtain ⟨hx, hb, hml, hown, hts, hret, hlocks, hin0, hK, hNw, hAO⟩ := X
  dsimp only at hd
  cases ins
  case return_ =>
    simp only [ev_rok] at hr
    split at hr
    · rename_i hM
      cases hr
      have := ev_nil h1
      subst this
      exact W.vret hx hb (hret.trans hM) (hq none trivial) hf hd hlocks
    · cases hr
  case ireturn =>
    simp only [ev_rok] at hr
    split at hr
    · split at hr
      · rename_i a' ty hM hz
        cases hr
        simp only [Bool.and_eq_true, decide_eq_true_eq] at hz
        obtain ⟨w, ws, rfl, e1, g1⟩ := ev_cons h1
        have := ev_nil g1
        subst this
        obtain ⟨hn, -⟩ := ev_fit_ok e1 hz.2
        obtain ⟨x, rfl, -⟩ := ev_isI e1 hz.1.1
        exact W.zret hx hb (hret.trans hM) hn (hq (some _) e1) hf hd hlocks
      · cases hr
    · cases hr
  case lreturn =>
    simp only [ev_rok] at hr
    split at hr
    · split at hr
      · rename_i a' ty hM hz
        cases hr
        simp only [Bool.and_eq_true] at hz
        obtain ⟨w, ws, rfl, e1, g1⟩ := ev_cons h1
        have := ev_nil g1
        subst this
        obtain ⟨x, rfl, -⟩ := ev_isL e1 hz.2
        have := ev_tyJ_ok hz.1
        subst this
        exact W.lret hx hb (hret.trans hM) (hq (some _) e1) hf hd hlocks
      · cases hr
    · cases hr
  case areturn =>
    simp only [ev_rok] at hr
    split at hr
    · split at hr
      · rename_i a' ty hM hz
        cases hr
        rw [Bool.and_eq_true] at hz
        obtain ⟨w, ws, rfl, e1, g1⟩ := ev_cons h1
        have := ev_nil g1
        subst this
        have hty : (∃ n, ty = .object n) ∨ ∃ t, ty = .array t := by
          have h3 := hz.1
          cases ty <;> first | exact Or.inl ⟨_, rfl⟩ | exact Or.inr ⟨_, rfl⟩ | exact absurd h3 (by simp [ev_fs])
        exact W.aret hx hb (hret.trans hM) hty (ev_isA e1 (by simpa using hz.2)) (hq (some _) e1) hf hd hlocks
      · cases hr
    · cases hr
  all_goals (exact absurd hr (by simp [ev_rok]))
theorem ev_goodW (h2 : ∀ w ∈ Tg, (w.onTables && w.keeps) = true ∨ ∃ ty, w = .arrayClass ty) {ws : List Cond} (h : ∀ w ∈ ws, w ∈ Tg) : GoodIn Tg ws := fun w hw => ⟨h w hw, h2 w (h w hw)⟩
theorem ev_ws_in {M' : ev_M} (hk : ev_mok Tg Tn AO G TY PG M') : ∀ w ∈ ev_ws Tg M', w ∈ Tg := fun w hw => by
  rcases List.mem_cons.mp hw with rfl | h
  · exact hk.2.1
  · exact h
/-- a call, when the called method has a contract -/
theorem ev_mkrun {M' : ev_M} {sort u v idx : Nat} {z : Int} {ins : Instr} {As rest cst : List Value} {Pc : Array Value → State → Prop} {Qc : Array Value → State → Outcome → State → Prop} {free : Addr → Prop} {h : ev_Q} (Fx : ev_Fx Tg Tn G TY) (X : ev_Cx D tys Tg Tn AO G M p s m args meth c) (hk : ev_mok Tg Tn AO G TY PG M')
    (hins : (sort = 0 ∧ ins = .invokestatic idx) ∨ (sort = 1 ∧ ins = .invokevirtual idx) ∨ (sort = 2 ∧ ins = .invokespecial idx)) (hu9 : u < 900) (hsort : ev_mK M' % 10 = sort) (lk : ev_lok Tg Tn AO G TY PG (ev_mN M).cls (ev_mK M) (ins, 3, u, v, z)) (hu : PG[u]? = some M')
    (hM : Met l (ev_mN M') (ev_ws Tg M') (ev_rm M') Pc Qc (ev_mY M') (ev_mS M') free) (hfb : FrameBlind Pc) (hPc : ∀ U : State, U.heap = H → s.WarmedH U.vm → Pc As.toArray U) (hlen : As.length = if sort = 0 then ev_mP M' else ev_mP M' + 1)
    (hrecv : sort ≠ 0 → ∃ (i : Nat) (As' : List Value), As = .ref (B + i) :: As' ∧ (sort = 1 → ∃ c2 : ev_C, ev_hg h i = some c2 ∧ c2.1 = v)) (hR : ev_R D G.1 tys B b h H) (hsz : ls.size = ev_mL M) (hst : cst = As.reverse ++ rest) (hW : (rest.map fun v => v.category).sum ≤ 8) (hd : decode (ev_mB M) pc = .ok (ins, 3)) (hF : ev_mF M' + 1 ≤ R.frames) (hO : 8 + (ev_mL M' + 11) + ev_mO M' ≤ R.locals) (hc : cells + ev_mY M' ≤ R.cells) (hs : slots + ev_mS M' ≤ R.slots) :
    va_Run p l e R s m args below meth c H locs cells slots (ev_mY M') (ev_mS M') (F0 m pc ls cst) rest (Qc As.toArray) free := by
  obtain ⟨hx, hb, hml, hown, hts, hret, hlocks, hin0, hK, hNw, hAO⟩ := X
  obtain ⟨f1, f2, f3, f4, f5⟩ := Fx
  have hwsin := ev_ws_in hk
  obtain ⟨m1, m2, m3, m4, m5, m6, m7, m8⟩ := hk
  have hG : GoodIn Tg (ev_ws Tg M') := ev_goodW f2 hwsin
  have hfix : CallFix p m c (ev_mB M) (ev_mL M) s args Tg (ev_mN M).cls := ⟨hx, hb, hml, hown, hts⟩
  subst hst
  rcases hins with ⟨rfl, rfl⟩ | ⟨rfl, rfl⟩ | ⟨rfl, rfl⟩
  · obtain ⟨-, M2, k1, k2⟩ : u < 900 ∧ ∃ M2 : ev_M, PG[u]? = some M2 ∧ Cond.methodLink (ev_mN M).cls idx (ev_mN M2) ∈ Tg := by
      rcases lk with ⟨k0, -⟩ | ⟨k0, -⟩ | k0
      · dsimp only at k0; omega
      · dsimp only at k0; omega
      · exact k0
    have e1 := Option.some.inj (hu.symm.trans k1)
    subst e1
    exact va_runS hfix hM ⟨callB_of (ev_mP M') hts hG rfl rfl rfl (hts _ m3) (hts _ k2) m4 ⟨hF, hO⟩, hts _ (m5 hsort)⟩ ⟨hfb, hPc⟩ rfl (by simpa using hlen) hsz rfl (lv_room hW) hd ⟨hc, hs⟩
  · obtain ⟨M2, k1, k2, T, N, k3⟩ := lk
    have e1 := Option.some.inj (hu.symm.trans k1)
    subst e1
    obtain ⟨i, As', rfl, hc2⟩ := hrecv (by decide)
    obtain ⟨c2, hc2, hcv⟩ := hc2 rfl
    obtain ⟨V, ⟨cellV, g1, g2, g3, -⟩, -⟩ := ev_obj hR f1 k3 hc2 hcv
    have hcls := (hK.1 v _ k3).2
    refine va_runV (C := (ev_mN M').cls) (As := As') (b := B + i) hfix hM ⟨callB_of (ev_mP M') hts hG rfl rfl rfl (hts _ m3) (hts _ k2) m4 ⟨hF, hO⟩, hts _ (m6 hsort).1, hts _ (m6 hsort).2⟩ ⟨hfb, ⟨cellV, g1, by rw [g3]; rfl, by rw [g2]; exact hcls.1⟩, hPc⟩ rfl (by simpa using hlen) hsz (by simp) (lv_room hW) hd ⟨hc, hs⟩
  · obtain ⟨i, As', rfl, -⟩ := hrecv (by decide)
    obtain ⟨n1, n2, n3⟩ := m7 hsort
    rcases lk with ⟨k0, -⟩ | ⟨-, M2, k1, k2⟩
    · dsimp only at k0; omega
    · have e1 := Option.some.inj (hu.symm.trans k1)
      subst e1
      have hw : ev_ws Tg M' = Cond.code (ev_mN M') (ev_mB M') (ev_mL M') none :: Tg := by unfold ev_ws; rw [n3]
      rcases k2 with k2 | ⟨host, k2⟩
      · exact va_runI (As := As') (b := B + i) hfix hM ⟨callB_of (ev_mP M') hts hG hw rfl rfl (hts _ m3) (hts _ k2) m4 ⟨hF, hO⟩, n1, hts _ n2⟩ ⟨hfb, hPc⟩ rfl (by simpa using hlen) hsz (by simp) (lv_room hW) hd ⟨hc, hs⟩
      · exact va_runIN (As := As') (b := B + i) hfix hM ⟨va_cnB (ev_mP M') hts hG hw rfl rfl (hNw _ k2) (hts _ m3) m4 ⟨hF, hO⟩, n1, hts _ n2⟩ ⟨hfb, hPc⟩ rfl (by simpa using hlen) hsz (by simp) (lv_room hW) hd ⟨hc, hs⟩
end EVC
