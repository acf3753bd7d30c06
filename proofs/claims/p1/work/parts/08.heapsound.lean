/-! what the tables must say for an instruction to be as its row says -/
def ev_lok (Tg Tn : List Cond) (AO : List String) (G : ev_G) (TY : Nat → Nat → FieldType) (PG : List ev_M) (own : String) (kd : Nat) (E : ev_E) : Prop := match E.1 with
  | .getfield idx => ∃ (C : String) (T : u_T) (N : Nat), G.1[E.2.2.1]? = some (C, T, N) ∧ E.2.2.2.1 < N ∧ (T E.2.2.2.1).1 = C ∧ (Cond.fieldLink own idx C (T E.2.2.2.1).2.1 (T E.2.2.2.1).2.2.1 ∈ Tg ∨ ∃ host, Cond.fieldLinkNest own idx C (T E.2.2.2.1).2.1 (T E.2.2.2.1).2.2.1 host ∈ Tn)
  | .putfield idx => ∃ (C : String) (T : u_T) (N : Nat), G.1[E.2.2.1]? = some (C, T, N) ∧ E.2.2.2.1 < N ∧ (T E.2.2.2.1).1 = C ∧ (Cond.fieldLink own idx C (T E.2.2.2.1).2.1 (T E.2.2.2.1).2.2.1 ∈ Tg ∨ (∃ host, Cond.fieldLinkNest own idx C (T E.2.2.2.1).2.1 (T E.2.2.2.1).2.2.1 host ∈ Tn) ∧ (T E.2.2.2.1).2.2.2 = false) ∧ ((T E.2.2.2.1).2.2.2 = true → C = own ∧ kd = 2) ∧ ev_fs (TY E.2.2.1 E.2.2.2.1) = E.2.2.2.2.toNat
  | .new idx => ∃ (C : String) (T : u_T) (N : Nat), G.1[E.2.2.1]? = some (C, T, N) ∧ Cond.classLink own idx C ∈ Tg ∧ Cond.instantiable C N ∈ Tg ∧ Cond.initialized C ∈ Tg
  | .newarray at_ => G.2.1[E.2.2.1]? = some (newarray.typeOf at_) ∧ ev_fs (newarray.typeOf at_) < 3 ∧ Cond.arrayClass (newarray.typeOf at_) ∈ Tg
  | .anewarray idx => ∃ n : String, G.2.1[E.2.2.1]? = some (.object n) ∧ Cond.classLink own idx n ∈ Tg ∧ n ∈ AO
  | .ldc idx => Cond.constant own idx (Int32.ofInt E.2.2.2.2) ∈ Tg
  | .ldc2_w idx => Cond.constantLong own idx (Int64.ofInt E.2.2.2.2) ∈ Tg
  | .invokevirtual idx => ∃ M' : ev_M, PG[E.2.2.1]? = some M' ∧ Cond.methodLink own idx (ev_mN M') ∈ Tg ∧ ∃ (T : u_T) (N : Nat), G.1[E.2.2.2.1]? = some ((ev_mN M').cls, T, N)
  | .invokestatic idx => (E.2.2.1 = 998 ∧ Cond.methodLink own idx Lib.Math.max.name ∈ Tg ∧ Cond.static Lib.Math.max.name ∈ Tg ∧ Cond.initialized "java/lang/Math" ∈ Tg ∧ Cond.code Lib.Math.max.name Lib.Math.max.code 2 (some .int) ∈ Tg) ∨ (E.2.2.1 = 997 ∧ Cond.methodLink own idx Lib.Math.min.name ∈ Tg ∧ Cond.static Lib.Math.min.name ∈ Tg ∧ Cond.initialized "java/lang/Math" ∈ Tg ∧ Cond.code Lib.Math.min.name Lib.Math.min.code 2 (some .int) ∈ Tg) ∨ (E.2.2.1 < 900 ∧ ∃ M' : ev_M, PG[E.2.2.1]? = some M' ∧ Cond.methodLink own idx (ev_mN M') ∈ Tg)
  | .invokespecial idx => (E.2.2.1 = 999 ∧ Cond.methodLink own idx objectInit ∈ Tg ∧ Cond.instanceMethod objectInit ∈ Tg ∧ Cond.code objectInit ⟨#[0xb1]⟩ 1 none ∈ Tg) ∨ (E.2.2.1 ≠ 999 ∧ ∃ M' : ev_M, PG[E.2.2.1]? = some M' ∧ (Cond.methodLink own idx (ev_mN M') ∈ Tg ∨ ∃ host, Cond.methodLinkNest own idx (ev_mN M') host ∈ Tn))
  | _ => True
def ev_Kw (D : va_G) (cl : List vw_C) (tys : List (ClassId × FieldType)) (Tn : List Cond) (AO : List String) (U : State) : Prop := va_K D cl tys U ∧ (∀ w ∈ Tn, va_Nw w U) ∧ ∀ n ∈ AO, va_AO n U
/-- the tables' own facts -/
def ev_Fx (Tg Tn : List Cond) (G : ev_G) (TY : Nat → Nat → FieldType) : Prop :=
  G.1.length ≤ 100 ∧ (∀ w ∈ Tg, (w.onTables && w.keeps) = true ∨ ∃ ty, w = .arrayClass ty) ∧ (∀ w ∈ Tn, (∃ a i x n d hh, w = Cond.fieldLinkNest a i x n d hh) ∨ ∃ a i x hh, w = Cond.methodLinkNest a i x hh) ∧
  (∀ (ci : Nat) (C : String) (T : u_T) (N : Nat), G.1[ci]? = some (C, T, N) → (∀ w ∈ u_ws C T N, w ∈ Tg) ∧ (∀ k, k < N → parseFieldDescriptor (T k).2.2.1 = some (TY ci k)) ∧ ∀ a, a < N → ∀ b, b < N → a ≠ b → (T a).2.1 ≠ (T b).2.1) ∧
  ∀ (ci : Nat) (c : ev_C), G.2.2[ci]? = some c → ∃ (C : String) (T : u_T) (N : Nat), G.1[ci]? = some (C, T, N) ∧ c.1 = ci ∧ c.2.1 = N ∧ ∀ j, j < N → ev_fs (TY ci j) < 4 ∧ ev_cg c j = ev_df (TY ci j)
/-- what stands fast while a method runs -/
def ev_Cx (D : va_G) (tys : List (ClassId × FieldType)) (Tg Tn : List Cond) (AO : List String) (G : ev_G) (M : ev_M) (p : Program) (s : State) (m : MethodId) (args : Array Value) (meth : Method) (c : Code) : Prop :=
  p.tables.exec = Jvm.exec ∧ c.code = ev_mB M ∧ c.maxLocals = ev_mL M ∧ s.vm.findClass (ev_mN M).cls = some m.cls ∧ (∀ w ∈ Tg, w.before args s = true) ∧ meth.sig.returnType = ev_mR M ∧ meth.locks = false ∧ (ev_mK M = 2 → meth.name = "<init>") ∧ ev_Kw D G.1 tys Tn AO s
/-- the script, if it is looked at -/
def ev_Sd (o : Bool) (B b L : Nat) (xs : Nat → Int32) (s : State) (sg : List ev_A) : Prop := ev_Sc sg L xs ∧ (sg ≠ [] → o = true) ∧ (o = true → b < B ∧ va_X b L xs s s.heap)
theorem ev_tmap {tys : List (ClassId × FieldType)} {tl : List FieldType} (h : tys.map Prod.snd = tl) {t : Nat} {ty : FieldType} (e : tl[t]? = some ty) : ∃ cA, tys[t]? = some (cA, ty) := by
  subst h
  rw [List.getElem?_map] at e
  cases h2 : tys[t]? with
  | none => rw [h2] at e; cases e
  | some q =>
    rw [h2] at e
    obtain ⟨cA, ty'⟩ := q
    cases e
    exact ⟨cA, rfl⟩
theorem ev_szc {B b : Nat} : ∀ {cst : List Value} {st : List ev_A}, ev_g1 B b cst st → (cst.map fun v => v.category).sum = ev_sz st
  | [], [], _ => rfl
  | [], _ :: _, h => h.elim
  | _ :: _, [], h => h.elim
  | v :: vs, a :: as, h => by
    have ih := ev_szc h.2
    simp only [ev_sz, List.map_cons, List.sum_cons] at ih ⊢
    rw [ih]
    have := ev_cat h.1
    rcases lv_cat v with q | q
    · rw [q] at this ⊢
      have h1 : (a.1 == 1) = false := by rw [← this]; rfl
      rw [h1]; rfl
    · rw [q] at this ⊢
      have h1 : (a.1 == 1) = true := by rw [← this]; rfl
      rw [h1]; rfl
theorem ev_ref2 {B b : Nat} {v : Value} {t : Nat} {z z' : Int} (h : ev_g B b v (t, z, z')) (ht : (t == 2) = true) : v = .ref (B + z.toNat) := by
  have : t = 2 := by simpa using ht
  subst this
  exact h
section EVS
variable {p : Program} {l : Launch} {e : Env} {R : Room} {s : State} {m : MethodId} {args : Array Value} {below : List Frame} {meth : Method} {c : Code} {H : Heap} {locs : List Loc} {cells slots : Nat} {Q : State → Prop}
variable {pc : Nat} {o : Bool} {ls : Array Slot} {B b L : Nat} {xs : Nat → Int32} {D : va_G} {tys : List (ClassId × FieldType)} {Tg Tn : List Cond} {AO : List String} {G : ev_G} {TY : Nat → Nat → FieldType} {PG : List ev_M} {M : ev_M}
variable {h : ev_Q} {sg st : List ev_A} {bc bs : Nat} {cst : List Value} {Lq : List (ev_Q × List ev_A × List ev_A × Nat × Nat)}
theorem ev_hald_inv {ok : FieldType → Bool} (hp : ev_hald G ok h sg st bc bs = some Lq) : ∃ (a : ev_A) (z z' : Int) (r : List ev_A) (j : Nat) (c : ev_C) (ty : FieldType), st = a :: (2, z, z') :: r ∧ ev_idx a = some j ∧ ev_hg h z.toNat = some c ∧ 100 ≤ c.1 ∧ j < c.2.1 ∧ G.2.1[c.1 - 100]? = some ty ∧ ok ty = true ∧ Lq = [(h, sg, ev_cg c j :: r, bc, bs)] := by
  unfold ev_hald at hp
  split at hp
  · split at hp
    · split at hp
      · split at hp
        · split at hp
          · split at hp
            · rename_i a t z z' r _ j hj htt _ c hc _ ty hty hq
              cases hp
              obtain ⟨q1, q2, q3⟩ := hq
              rw [ev_nth_eq] at hty
              exact ⟨a, z, z', r, j, c, ty, by rw [beq_iff_eq] at htt; rw [htt], hj, hc, q1, q2, hty, q3, rfl⟩
            · cases hp
          · split at hp
            · rename_i hq
              exact absurd hq.2.2 (by simp)
            · cases hp
        · cases hp
      · cases hp
    · cases hp
  · cases hp
theorem ev_hast_inv {ok : FieldType → Bool} {f : Nat} (hp : ev_hast G ok f h sg st bc bs = some Lq) : ∃ (a x : ev_A) (z z' : Int) (r : List ev_A) (j : Nat) (c : ev_C) (ty : FieldType), st = a :: x :: (2, z, z') :: r ∧ ev_idx x = some j ∧ ev_fit f a = true ∧ ev_hg h z.toNat = some c ∧ 100 ≤ c.1 ∧ j < c.2.1 ∧ G.2.1[c.1 - 100]? = some ty ∧ ok ty = true ∧ Lq = [(ev_hs h z.toNat (ev_cs c j a), sg, r, bc, bs)] := by
  unfold ev_hast at hp
  split at hp
  · split at hp
    · split at hp
      · split at hp
        · split at hp
          · split at hp
            · rename_i a x t z z' r _ j hj htt _ c hc _ ty hty hq
              cases hp
              obtain ⟨q1, q2, q3⟩ := hq
              rw [Bool.and_eq_true] at htt
              rw [ev_nth_eq] at hty
              exact ⟨a, x, z, z', r, j, c, ty, by rw [beq_iff_eq] at htt; rw [htt.1], hj, htt.2, hc, q1, q2, hty, q3, rfl⟩
            · cases hp
          · split at hp
            · rename_i hq
              exact absurd hq.2.2 (by simp)
            · cases hp
        · cases hp
      · cases hp
    · cases hp
  · cases hp
theorem ev_haas_inv (hp : ev_haas G h sg st bc bs = some Lq) : ∃ (a x : ev_A) (z z' : Int) (r : List ev_A) (j : Nat) (c : ev_C) (n : String), st = a :: x :: (2, z, z') :: r ∧ ev_idx x = some j ∧ ev_hg h z.toNat = some c ∧ 100 ≤ c.1 ∧ j < c.2.1 ∧ G.2.1[c.1 - 100]? = some (.object n) ∧ ev_isO G h a n = true ∧ Lq = [(ev_hs h z.toNat (ev_cs c j a), sg, r, bc, bs)] := by
  unfold ev_haas at hp
  split at hp
  · split at hp
    · split at hp
      · split at hp
        · split at hp
          · split at hp
            · rename_i a x t z z' r _ j hj htt _ c hc _ n hty hq
              cases hp
              obtain ⟨q1, q2, q3⟩ := hq
              rw [ev_nth_eq] at hty
              exact ⟨a, x, z, z', r, j, c, n, by rw [beq_iff_eq] at htt; rw [htt], hj, hc, q1, q2, hty, q3, rfl⟩
            · cases hp
          · split at hp
            · rename_i hq
              exact absurd hq.2.2 (by simp)
            · cases hp
        · cases hp
      · cases hp
    · cases hp
  · cases hp
theorem ev_hsld_inv {E : ev_E} (hp : ev_hsld E h sg st bc bs = some Lq) : ∃ (a : ev_A) (z z' : Int) (r : List ev_A) (j : Nat) (l0 h0 l1 h1 : Int) (sg' : List ev_A), st = a :: (4, z, z') :: r ∧ ev_idx a = some j ∧ sg = (0, l0, h0) :: sg' ∧ (j : Int) < l0 ∧ sg[j + 1]? = some (0, l1, h1) ∧ Lq = (ev_cut l1 h1 (ev_cuts E.2.2.2.1 j sg)).map fun a => (h, sg.set (j + 1) a, a :: r, bc, bs) := by
  unfold ev_hsld at hp
  split at hp
  · split at hp
    · split at hp
      · split at hp
        · split at hp
          · split at hp
            · split at hp
              · rename_i a t z z' r _ j hj htt _ t0 l0 h0 sg' hq _ t1 l1 h1 hn ht1
                cases hp
                rw [Bool.and_eq_true, decide_eq_true_eq, beq_iff_eq] at hq
                rw [beq_iff_eq] at ht1 htt
                rw [ev_nth_eq] at hn
                obtain ⟨q1, q2⟩ := hq
                subst q1
                subst ht1
                subst htt
                exact ⟨a, z, z', r, j, l0, h0, l1, h1, sg', rfl, hj, rfl, q2, hn, rfl⟩
              · cases hp
            · cases hp
          · cases hp
        · cases hp
      · cases hp
    · cases hp
  · cases hp
theorem ev_isO_inv {a : ev_A} {n : String} (q : ev_isO G h a n = true) : a.1 = 3 ∨ (a.1 = 2 ∧ ∃ (c2 : ev_C) (T : u_T) (N : Nat), ev_hg h a.2.1.toNat = some c2 ∧ G.1[c2.1]? = some (n, T, N)) := by
  unfold ev_isO at q
  rw [Bool.or_eq_true, Bool.and_eq_true, beq_iff_eq, beq_iff_eq] at q
  rcases q with q | ⟨q1, q2⟩
  · exact Or.inl q
  · split at q2
    · rename_i c2 hc2
      split at q2
      · rename_i r hr
        rw [ev_nth_eq] at hr
        obtain ⟨C, T, N⟩ := r
        have : C = n := by simpa using q2
        subst this
        exact Or.inr ⟨q1, c2, T, N, hc2, hr⟩
      · cases q2
    · cases q2
theorem ev_hmm_inv {f : Int → Int → Int → Int → ev_A} (hp : ev_hmm f M h sg st bc bs = some Lq) : ∃ l1 h1 l2 h2 r, st = (0, l2, h2) :: (0, l1, h1) :: r ∧ 1 ≤ ev_mF M ∧ ev_sz r + 13 ≤ ev_mO M ∧ Lq = [(h, sg, f l1 h1 l2 h2 :: r, bc, bs)] := by
  unfold ev_hmm at hp
  split at hp
  · split at hp
    · rename_i t2 l2 g2 t1 l1 g1 r hq
      cases hp
      simp only [Bool.and_eq_true, decide_eq_true_eq, beq_iff_eq] at hq
      obtain ⟨⟨⟨rfl, rfl⟩, q1⟩, q2⟩ := hq
      exact ⟨l1, g1, l2, g2, r, rfl, q1, q2, rfl⟩
    · cases hp
  · cases hp
theorem ev_mx_ok {x y : Int32} {l1 h1 l2 h2 : Int} (a1 : l1 ≤ x.toInt) (a2 : x.toInt ≤ h1) (b1 : l2 ≤ y.toInt) (b2 : y.toInt ≤ h2) : ev_g B b (.int (if x < y then y else x)) (ev_mx l1 h1 l2 h2) := by
  refine ⟨_, rfl, ?_, ?_⟩ <;> (show _ ≤ _) <;> unfold ev_mx <;> dsimp only <;> by_cases q : x < y <;> simp only [q, if_true, if_false] <;> (rw [Int32.lt_iff_toInt_lt] at q) <;> split <;> omega
theorem ev_mn_ok {x y : Int32} {l1 h1 l2 h2 : Int} (a1 : l1 ≤ x.toInt) (a2 : x.toInt ≤ h1) (b1 : l2 ≤ y.toInt) (b2 : y.toInt ≤ h2) : ev_g B b (.int (if y < x then y else x)) (ev_mn l1 h1 l2 h2) := by
  refine ⟨_, rfl, ?_, ?_⟩ <;> (show _ ≤ _) <;> unfold ev_mn <;> dsimp only <;> by_cases q : y < x <;> simp only [q, if_true, if_false] <;> (rw [Int32.lt_iff_toInt_lt] at q) <;> split <;> omega
theorem ev_tyI_ok {ty : FieldType} (q : ev_tyI ty = true) : ty = .int := by cases ty <;> first | rfl | exact absurd q (by simp [ev_tyI])
theorem ev_tyJ_ok {ty : FieldType} (q : ev_tyJ ty = true) : ty = .long := by cases ty <;> first | rfl | exact absurd q (by simp [ev_tyJ])
theorem ev_tyZ_ok {ty : FieldType} (q : ev_tyZ ty = true) : ty = .boolean := by cases ty <;> first | rfl | exact absurd q (by simp [ev_tyZ])
theorem ev_tyO_ok {ty : FieldType} (q : ev_tyO ty = true) : ∃ E, ty = .object E := by cases ty <;> first | exact ⟨_, rfl⟩ | exact absurd q (by simp [ev_tyO])
theorem ev_hp_ok {E : ev_E} (Fx : ev_Fx Tg Tn G TY) (X : ev_Cx D tys Tg Tn AO G M p s m args meth c) (lk : ev_lok Tg Tn AO G TY PG (ev_mN M).cls (ev_mK M) E) (hd : decode (ev_mB M) pc = .ok (E.1, E.2.1)) (hp : ev_hp G M E h sg st bc bs = some Lq) (ht : tys.map Prod.snd = G.2.1) (hR : ev_R D G.1 tys B b h H) (hL : ev_Lo B s.heap H locs) (hS : ev_Sd o B b L xs s sg) (h1 : ev_g1 B b cst st) (hsz : ls.size = ev_mL M) (hc : cells + bc ≤ R.cells) (hs : slots + bs ≤ R.slots) (hF : ev_mF M ≤ R.frames) (hO : ev_mO M ≤ R.locals)
    (kk : ∀ q ∈ Lq, ∀ (H1 : Heap) (locs1 : List Loc) (cst1 : List Value) (cells1 slots1 : Nat), ev_R D G.1 tys B b q.1 H1 → ev_Lo B s.heap H1 locs1 → ev_Sd o B b L xs s q.2.1 → ev_g1 B b cst1 q.2.2.1 → cells1 + q.2.2.2.1 ≤ cells + bc → slots1 + q.2.2.2.2 ≤ slots + bs → W p l e R s m args below meth c H1 locs1 cells1 slots1 Q (F0 m (pc + E.2.1) ls cst1)) : W p l e R s m args below meth c H locs cells slots Q (F0 m pc ls cst) := by
  obtain ⟨ins, len, u, v, z⟩ := E
  obtain ⟨hx, hb, hml, hown, hts, hret, hlocks, hin0, hK, hNw, hAO⟩ := X
  obtain ⟨f1, f2, f3, f4, f5⟩ := Fx
  dsimp only at hd kk
  cases ins
  case getfield idx =>
    simp only [ev_hp] at hp
    split at hp
    · rename_i hq
      rw [beq_iff_eq] at hq
      subst hq
      unfold ev_hget at hp
      split at hp
      · split at hp
        · split at hp
          · split at hp
            · rename_i t z1 z2 r htt _ cell hcell hci
              cases hp
              obtain ⟨w, ws, rfl, e1, g1⟩ := ev_cons h1
              have := ev_ref2 e1 htt
              subst this
              obtain ⟨C, T, N, k1, k2, k3, k4⟩ := lk
              refine ev_r_get (Ts := Tg) (C := C) (T := T) (N := N) hx hb hts (f4 _ _ _ _ k1).1 hown hK hR f1 k1 k2 k3 ?_ hcell (by simpa using hci) hd (fun v0 hv0 => kk _ (List.mem_singleton.mpr rfl) H locs _ _ _ hR hL hS ⟨hv0, g1⟩ (Nat.le_refl _) (Nat.le_refl _))
              rcases k4 with k4 | ⟨host, k4⟩
              · exact Or.inl (hts _ k4)
              · exact Or.inr ⟨host, va_Nw.use rfl (hNw _ k4)⟩
            · cases hp
          · cases hp
        · cases hp
      · cases hp
    · cases hp
  case putfield idx =>
    simp only [ev_hp] at hp
    split at hp
    · rename_i hq
      rw [beq_iff_eq] at hq
      subst hq
      unfold ev_hput at hp
      split at hp
      · split at hp
        · split at hp
          · split at hp
            · rename_i a t z1 z2 r htt _ cell hcell hci
              cases hp
              rw [Bool.and_eq_true] at htt
              obtain ⟨w0, ws, rfl, e0, g0⟩ := ev_cons h1
              obtain ⟨w, ws, rfl, e1, g1⟩ := ev_cons g0
              have := ev_ref2 e1 htt.1
              subst this
              obtain ⟨C, T, N, k1, k2, k3, k4, k5, k6⟩ := lk
              refine ev_r_put (Ts := Tg) (C := C) (T := T) (N := N) (ty0 := TY u) hx hb hts (f4 _ _ _ _ k1).1 (f4 _ _ _ _ k1).2.1 (f4 _ _ _ _ k1).2.2 hown hK hR hL f1 k1 k2 k3 ?_ (fun q => ⟨(k5 q).1, hin0 (k5 q).2⟩) e0 (by rw [k6]; exact htt.2) hcell (by simpa using hci) hd (fun H1 locs1 q1 q2 => kk _ (List.mem_singleton.mpr rfl) H1 locs1 _ _ _ q1 q2 hS g1 (Nat.le_refl _) (Nat.le_refl _))
              rcases k4 with k4 | ⟨⟨host, k4⟩, k7⟩
              · exact Or.inl (hts _ k4)
              · exact Or.inr ⟨⟨host, va_Nw.use rfl (hNw _ k4)⟩, k7⟩
            · cases hp
          · cases hp
        · cases hp
      · cases hp
    · cases hp
  case new idx =>
    simp only [ev_hp] at hp
    split at hp
    · rename_i hq
      rw [beq_iff_eq] at hq
      subst hq
      unfold ev_hnew at hp
      split at hp
      · split at hp
        · split at hp
          · rename_i cell hcell hbc _ h' hh
            cases hp
            rw [ev_nth_eq] at hcell
            obtain ⟨C, T, N, k1, k2, k3, k4⟩ := lk
            obtain ⟨C', T', N', m1, m2, m3, m4⟩ := f5 _ _ hcell
            have e1 := Option.some.inj (k1.symm.trans m1)
            obtain ⟨rfl, e2⟩ := Prod.mk.inj e1
            obtain ⟨rfl, rfl⟩ := Prod.mk.inj e2
            refine ev_r_new (Ts := Tg) (ty0 := TY u) hx hb hts (f4 _ _ _ _ k1).1 (f4 _ _ _ _ k1).2.1 hown (hts _ k2) (hts _ k3) (hts _ k4) hK hR hL k1 hh ⟨m2, m4⟩ (by omega) (by omega) hd (fun H1 q1 q2 => kk _ (List.mem_singleton.mpr rfl) H1 locs _ _ _ q1 q2 hS ⟨rfl, h1⟩ (by dsimp only; omega) (by dsimp only; omega))
          · cases hp
        · cases hp
      · cases hp
    · cases hp
  case newarray at_ =>
    simp only [ev_hp] at hp
    split at hp
    · rename_i hq
      rw [beq_iff_eq] at hq
      subst hq
      unfold ev_hnwa at hp
      split at hp
      · split at hp
        · split at hp
          · split at hp
            · rename_i a r _ n hn hbc _ h' hh
              cases hp
              obtain ⟨w, ws, rfl, e1, g1⟩ := ev_cons h1
              obtain ⟨x, rfl, x1, x2⟩ := ev_idx_ok e1 hn
              obtain ⟨k1, k2, k3⟩ := lk
              obtain ⟨cA, k4⟩ := ev_tmap ht k1
              exact ev_r_newa hx hb (hts _ k3) hK hR hL k4 k2 hh rfl x1 x2 hbc.2.2 (by omega) (by omega) hd (fun H1 q1 q2 => kk _ (List.mem_singleton.mpr rfl) H1 locs _ _ _ q1 q2 hS ⟨rfl, g1⟩ (by dsimp only; omega) (by dsimp only; omega))
            · cases hp
          · cases hp
        · cases hp
      · cases hp
    · cases hp
  case anewarray idx =>
    simp only [ev_hp] at hp
    split at hp
    · rename_i hq
      rw [beq_iff_eq] at hq
      subst hq
      unfold ev_hnwa at hp
      split at hp
      · split at hp
        · split at hp
          · split at hp
            · rename_i a r _ n hn hbc _ h' hh
              cases hp
              obtain ⟨w, ws, rfl, e1, g1⟩ := ev_cons h1
              obtain ⟨x, rfl, x1, x2⟩ := ev_idx_ok e1 hn
              obtain ⟨nm, k1, k2, k3⟩ := lk
              obtain ⟨cA, k4⟩ := ev_tmap ht k1
              exact ev_r_anew hx hb hown (hts _ k2) (hAO _ k3) hK hR hL k4 hh rfl x1 x2 hbc.2.2 (by omega) (by omega) hd (fun H1 q1 q2 => kk _ (List.mem_singleton.mpr rfl) H1 locs _ _ _ q1 q2 hS ⟨rfl, g1⟩ (by dsimp only; omega) (by dsimp only; omega))
            · cases hp
          · cases hp
        · cases hp
      · cases hp
    · cases hp
  case arraylength =>
    simp only [ev_hp] at hp
    split at hp
    · rename_i hq
      rw [beq_iff_eq] at hq
      subst hq
      unfold ev_hlen at hp
      split at hp
      · split at hp
        · split at hp
          · split at hp
            · rename_i t z1 z2 r htt _ cell hcell hci
              cases hp
              obtain ⟨w, ws, rfl, e1, g1⟩ := ev_cons h1
              have := ev_ref2 e1 htt
              subst this
              exact ev_r_alen (t := cell.1 - 100) hx hb hK hR f1 hcell (by omega) hci.2 hd (fun v0 hv0 => kk _ (List.mem_singleton.mpr rfl) H locs _ _ _ hR hL hS ⟨hv0, g1⟩ (Nat.le_refl _) (Nat.le_refl _))
            · cases hp
          · cases hp
        · split at hp
          · split at hp
            · rename_i t z1 z2 r htt ht4 _ a sg'
              cases hp
              obtain ⟨w, ws, rfl, e1, g1⟩ := ev_cons h1
              have : t = 4 := by simpa using ht4
              subst this
              have e1 : w = .ref b := e1
              subst e1
              obtain ⟨hbB, hX⟩ := hS.2.2 (hS.2.1 (by simp))
              exact ev_r_slen hx hb hX hbB hL hd (kk _ (List.mem_singleton.mpr rfl) H locs _ _ _ hR hL hS ⟨ev_gI (hS.1.2.1 a rfl), g1⟩ (Nat.le_refl _) (Nat.le_refl _))
            · cases hp
          · cases hp
      · cases hp
    · cases hp
  case ldc idx =>
    simp only [ev_hp] at hp
    split at hp
    · rename_i hq
      rw [beq_iff_eq] at hq
      subst hq
      cases hp
      exact lv_ldc hx hb hown (hts _ lk) hd (kk _ (List.mem_singleton.mpr rfl) H locs _ _ _ hR hL hS ⟨ev_I_ok _, h1⟩ (Nat.le_refl _) (Nat.le_refl _))
    · cases hp
  case ldc2_w idx =>
    simp only [ev_hp] at hp
    split at hp
    · rename_i hq
      rw [beq_iff_eq] at hq
      subst hq
      cases hp
      exact lv_ldc2 hx hb hown (hts _ lk) hd (kk _ (List.mem_singleton.mpr rfl) H locs _ _ _ hR hL hS ⟨ev_J_ok _, h1⟩ (Nat.le_refl _) (Nat.le_refl _))
    · cases hp
  case invokestatic idx =>
    simp only [ev_hp] at hp
    split at hp
    · rename_i hq
      rw [Bool.and_eq_true, beq_iff_eq, beq_iff_eq] at hq
      obtain ⟨rfl, hu⟩ := hq
      obtain ⟨l1, g1, l2, g2, r, rfl, m1, m2, rfl⟩ := ev_hmm_inv hp
      obtain ⟨w0, ws, rfl, e0, u0⟩ := ev_cons h1
      obtain ⟨w, ws, rfl, e1, u1⟩ := ev_cons u0
      obtain ⟨y, rfl, b1, b2⟩ := ev_int e0
      obtain ⟨x, rfl, a1, a2⟩ := ev_int e1
      have h3 := ev_szc u1
      rcases lk with ⟨k0, k1, k2, k3, k4⟩ | ⟨k0, k1, k2, k3, k4⟩ | ⟨k0, -⟩
      · exact va_mmax hx hb (hml.trans hsz.symm) hown (hts _ k1) (hts _ k2) (hts _ k3) (hts _ k4) (by omega) (by omega) (by omega) (by omega) hd (kk _ (List.mem_singleton.mpr rfl) H locs _ _ _ hR hL hS ⟨ev_mx_ok a1 a2 b1 b2, u1⟩ (Nat.le_refl _) (Nat.le_refl _))
      · dsimp only at k0; omega
      · dsimp only at k0; omega
    · split at hp
      · rename_i hq
        rw [Bool.and_eq_true, beq_iff_eq, beq_iff_eq] at hq
        obtain ⟨rfl, hu⟩ := hq
        obtain ⟨l1, g1, l2, g2, r, rfl, m1, m2, rfl⟩ := ev_hmm_inv hp
        obtain ⟨w0, ws, rfl, e0, u0⟩ := ev_cons h1
        obtain ⟨w, ws, rfl, e1, u1⟩ := ev_cons u0
        obtain ⟨y, rfl, b1, b2⟩ := ev_int e0
        obtain ⟨x, rfl, a1, a2⟩ := ev_int e1
        have h3 := ev_szc u1
        rcases lk with ⟨k0, k1, k2, k3, k4⟩ | ⟨k0, k1, k2, k3, k4⟩ | ⟨k0, -⟩
        · dsimp only at k0; omega
        · exact va_mmin hx hb (hml.trans hsz.symm) hown (hts _ k1) (hts _ k2) (hts _ k3) (hts _ k4) (by omega) (by omega) (by omega) (by omega) hd (kk _ (List.mem_singleton.mpr rfl) H locs _ _ _ hR hL hS ⟨ev_mn_ok a1 a2 b1 b2, u1⟩ (Nat.le_refl _) (Nat.le_refl _))
        · dsimp only at k0; omega
      · cases hp
  case invokespecial idx =>
    simp only [ev_hp] at hp
    split at hp
    · rename_i hq
      rw [Bool.and_eq_true, beq_iff_eq, beq_iff_eq] at hq
      obtain ⟨rfl, hu⟩ := hq
      unfold ev_hobj at hp
      split at hp
      · split at hp
        · rename_i t z1 z2 r htt
          cases hp
          simp only [Bool.and_eq_true, decide_eq_true_eq] at htt
          obtain ⟨w, ws, rfl, e1, g1⟩ := ev_cons h1
          have := ev_ref2 e1 htt.1.1
          subst this
          rcases lk with ⟨-, k1, k2, k3⟩ | ⟨k0, -⟩
          · refine W.objInit hx hb hown (hts _ k1) (hts _ k2) (hts _ k3) rfl (by rw [hml]; exact hsz) rfl hd (by omega) ?_ (kk _ (List.mem_singleton.mpr rfl) H locs _ _ _ hR hL hS g1 (Nat.le_refl _) (Nat.le_refl _))
            have h3 := ev_szc g1
            show 2 * 0 + (ws.map fun v => v.category).sum + 12 ≤ R.locals
            omega
          · exact absurd hu k0
        · cases hp
      · cases hp
    · cases hp
  case iaload =>
    simp only [ev_hp] at hp
    split at hp
    · rename_i hq
      rw [beq_iff_eq] at hq
      subst hq
      unfold ev_or at hp
      split at hp
      · rename_i _ r9 h9
        cases hp
        obtain ⟨a, z1, z2, r, j, cell, ty, rfl, hj, hcell, q1, q2, hty, hok, rfl⟩ := ev_hald_inv h9
        obtain ⟨w0, ws, rfl, e0, g0⟩ := ev_cons h1
        obtain ⟨w, ws, rfl, e1, g1⟩ := ev_cons g0
        obtain ⟨x, rfl, x1, x2⟩ := ev_idx_ok e0 hj
        have := ev_ref2 e1 rfl
        subst this
        have := ev_tyI_ok hok
        subst this
        exact ev_r_ald (t := cell.1 - 100) (Or.inl ⟨rfl, rfl⟩) hx hb hK hR f1 hcell (by omega) (ev_tmap ht hty) x1 x2 q2 hd (fun v0 hv0 => kk _ (List.mem_singleton.mpr rfl) H locs _ _ _ hR hL hS ⟨hv0, g1⟩ (Nat.le_refl _) (Nat.le_refl _))
      · obtain ⟨a, z1, z2, r, j, l0, g0, l1, g1, sg', rfl, hj, rfl, q1, q2, rfl⟩ := ev_hsld_inv hp
        obtain ⟨w0, ws, rfl, e0, u0⟩ := ev_cons h1
        obtain ⟨w, ws, rfl, e1, u1⟩ := ev_cons u0
        obtain ⟨x, rfl, x1, x2⟩ := ev_idx_ok e0 hj
        have e1 : w = .ref b := e1
        subst e1
        have hLn : j < L := by
          obtain ⟨y, y1, y2, y3⟩ := hS.1.2.1 _ rfl
          cases y1
          have e9 : (nI L).toInt = L := nI_toInt hS.1.1
          dsimp only at y2
          rw [e9] at y2
          omega
        obtain ⟨y, y1, y2, y3⟩ := hS.1.2.2 j _ q2 hLn
        cases y1
        obtain ⟨a9, m1, m2⟩ := ev_cut_ok (B := 0) (b := 0) (ks := ev_cuts v j ((0, l0, g0) :: sg')) y2 y3
        obtain ⟨hbB, hX⟩ := hS.2.2 (hS.2.1 (by simp))
        exact ev_r_sld hx hb hX hbB hL x1 x2 hLn hd (kk (h, ((0, l0, g0) :: sg').set (j + 1) a9, a9 :: r, bc, bs) (List.mem_map.mpr ⟨a9, m1, rfl⟩) H locs _ _ _ hR hL ⟨hS.1.set m2, fun _ => hS.2.1 (by simp), hS.2.2⟩ ⟨ev_gI m2, u1⟩ (Nat.le_refl _) (Nat.le_refl _))
    · cases hp
  case laload =>
    simp only [ev_hp] at hp
    split at hp
    · rename_i hq
      rw [beq_iff_eq] at hq
      subst hq
      obtain ⟨a, z1, z2, r, j, cell, ty, rfl, hj, hcell, q1, q2, hty, hok, rfl⟩ := ev_hald_inv hp
      obtain ⟨w0, ws, rfl, e0, g0⟩ := ev_cons h1
      obtain ⟨w, ws, rfl, e1, g1⟩ := ev_cons g0
      obtain ⟨x, rfl, x1, x2⟩ := ev_idx_ok e0 hj
      have := ev_ref2 e1 rfl
      subst this
      have := ev_tyJ_ok hok
      subst this
      exact ev_r_ald (t := cell.1 - 100) (Or.inr (Or.inl ⟨rfl, rfl⟩)) hx hb hK hR f1 hcell (by omega) (ev_tmap ht hty) x1 x2 q2 hd (fun v0 hv0 => kk _ (List.mem_singleton.mpr rfl) H locs _ _ _ hR hL hS ⟨hv0, g1⟩ (Nat.le_refl _) (Nat.le_refl _))
    · cases hp
  case baload =>
    simp only [ev_hp] at hp
    split at hp
    · rename_i hq
      rw [beq_iff_eq] at hq
      subst hq
      obtain ⟨a, z1, z2, r, j, cell, ty, rfl, hj, hcell, q1, q2, hty, hok, rfl⟩ := ev_hald_inv hp
      obtain ⟨w0, ws, rfl, e0, g0⟩ := ev_cons h1
      obtain ⟨w, ws, rfl, e1, g1⟩ := ev_cons g0
      obtain ⟨x, rfl, x1, x2⟩ := ev_idx_ok e0 hj
      have := ev_ref2 e1 rfl
      subst this
      have := ev_tyZ_ok hok
      subst this
      exact ev_r_ald (t := cell.1 - 100) (Or.inr (Or.inr (Or.inl ⟨rfl, rfl⟩))) hx hb hK hR f1 hcell (by omega) (ev_tmap ht hty) x1 x2 q2 hd (fun v0 hv0 => kk _ (List.mem_singleton.mpr rfl) H locs _ _ _ hR hL hS ⟨hv0, g1⟩ (Nat.le_refl _) (Nat.le_refl _))
    · cases hp
  case aaload =>
    simp only [ev_hp] at hp
    split at hp
    · rename_i hq
      rw [beq_iff_eq] at hq
      subst hq
      obtain ⟨a, z1, z2, r, j, cell, ty, rfl, hj, hcell, q1, q2, hty, hok, rfl⟩ := ev_hald_inv hp
      obtain ⟨w0, ws, rfl, e0, g0⟩ := ev_cons h1
      obtain ⟨w, ws, rfl, e1, g1⟩ := ev_cons g0
      obtain ⟨x, rfl, x1, x2⟩ := ev_idx_ok e0 hj
      have := ev_ref2 e1 rfl
      subst this
      obtain ⟨n9, rfl⟩ := ev_tyO_ok hok
      exact ev_r_ald (t := cell.1 - 100) (Or.inr (Or.inr (Or.inr ⟨rfl, n9, rfl⟩))) hx hb hK hR f1 hcell (by omega) (ev_tmap ht hty) x1 x2 q2 hd (fun v0 hv0 => kk _ (List.mem_singleton.mpr rfl) H locs _ _ _ hR hL hS ⟨hv0, g1⟩ (Nat.le_refl _) (Nat.le_refl _))
    · cases hp
  case iastore =>
    simp only [ev_hp] at hp
    split at hp
    · rename_i hq
      rw [beq_iff_eq] at hq
      subst hq
      obtain ⟨a, x0, z1, z2, r, j, cell, ty, rfl, hj, hfit, hcell, q1, q2, hty, hok, rfl⟩ := ev_hast_inv hp
      obtain ⟨wa, ws, rfl, ea, ga⟩ := ev_cons h1
      obtain ⟨w0, ws, rfl, e0, g0⟩ := ev_cons ga
      obtain ⟨w, ws, rfl, e1, g1⟩ := ev_cons g0
      obtain ⟨x, rfl, x1, x2⟩ := ev_idx_ok e0 hj
      have := ev_ref2 e1 rfl
      subst this
      have := ev_tyI_ok hok
      subst this
      exact ev_r_ast (t := cell.1 - 100) (Or.inl ⟨rfl, rfl⟩) hx hb hK hR hL f1 hcell (by omega) (ev_tmap ht hty) x1 x2 q2 ea hfit hd (fun H1 locs1 k1 k2 => kk _ (List.mem_singleton.mpr rfl) H1 locs1 _ _ _ k1 k2 hS g1 (Nat.le_refl _) (Nat.le_refl _))
    · cases hp
  case lastore =>
    simp only [ev_hp] at hp
    split at hp
    · rename_i hq
      rw [beq_iff_eq] at hq
      subst hq
      obtain ⟨a, x0, z1, z2, r, j, cell, ty, rfl, hj, hfit, hcell, q1, q2, hty, hok, rfl⟩ := ev_hast_inv hp
      obtain ⟨wa, ws, rfl, ea, ga⟩ := ev_cons h1
      obtain ⟨w0, ws, rfl, e0, g0⟩ := ev_cons ga
      obtain ⟨w, ws, rfl, e1, g1⟩ := ev_cons g0
      obtain ⟨x, rfl, x1, x2⟩ := ev_idx_ok e0 hj
      have := ev_ref2 e1 rfl
      subst this
      have := ev_tyJ_ok hok
      subst this
      exact ev_r_ast (t := cell.1 - 100) (Or.inr (Or.inl ⟨rfl, rfl⟩)) hx hb hK hR hL f1 hcell (by omega) (ev_tmap ht hty) x1 x2 q2 ea hfit hd (fun H1 locs1 k1 k2 => kk _ (List.mem_singleton.mpr rfl) H1 locs1 _ _ _ k1 k2 hS g1 (Nat.le_refl _) (Nat.le_refl _))
    · cases hp
  case bastore =>
    simp only [ev_hp] at hp
    split at hp
    · rename_i hq
      rw [beq_iff_eq] at hq
      subst hq
      obtain ⟨a, x0, z1, z2, r, j, cell, ty, rfl, hj, hfit, hcell, q1, q2, hty, hok, rfl⟩ := ev_hast_inv hp
      obtain ⟨wa, ws, rfl, ea, ga⟩ := ev_cons h1
      obtain ⟨w0, ws, rfl, e0, g0⟩ := ev_cons ga
      obtain ⟨w, ws, rfl, e1, g1⟩ := ev_cons g0
      obtain ⟨x, rfl, x1, x2⟩ := ev_idx_ok e0 hj
      have := ev_ref2 e1 rfl
      subst this
      have := ev_tyZ_ok hok
      subst this
      exact ev_r_ast (t := cell.1 - 100) (Or.inr (Or.inr ⟨rfl, rfl⟩)) hx hb hK hR hL f1 hcell (by omega) (ev_tmap ht hty) x1 x2 q2 ea hfit hd (fun H1 locs1 k1 k2 => kk _ (List.mem_singleton.mpr rfl) H1 locs1 _ _ _ k1 k2 hS g1 (Nat.le_refl _) (Nat.le_refl _))
    · cases hp
  case aastore =>
    simp only [ev_hp] at hp
    split at hp
    · rename_i hq
      rw [beq_iff_eq] at hq
      subst hq
      obtain ⟨a, x0, z1, z2, r, j, cell, n, rfl, hj, hcell, q1, q2, hty, hok, rfl⟩ := ev_haas_inv hp
      obtain ⟨wa, ws, rfl, ea, ga⟩ := ev_cons h1
      obtain ⟨w0, ws, rfl, e0, g0⟩ := ev_cons ga
      obtain ⟨w, ws, rfl, e1, g1⟩ := ev_cons g0
      obtain ⟨x, rfl, x1, x2⟩ := ev_idx_ok e0 hj
      have := ev_ref2 e1 rfl
      subst this
      exact ev_r_aast (t := cell.1 - 100) hx hb hK hR hL f1 hcell (by omega) (ev_tmap ht hty) x1 x2 q2 ea (ev_isO_inv hok) hd (fun H1 locs1 k1 k2 => kk _ (List.mem_singleton.mpr rfl) H1 locs1 _ _ _ k1 k2 hS g1 (Nat.le_refl _) (Nat.le_refl _))
    · cases hp
  all_goals (exact absurd hp (by simp [ev_hp]))
end EVS
