/-! rows that serve any machine over the tables -/
abbrev ev_A : Type := Nat × Int × Int
def ev_look : List (Nat × ev_A) → Nat → Option ev_A
  | [], _ => none
  | q :: r, i => if q.1 == i then some q.2 else ev_look r i
abbrev ev_C : Type := Nat × Nat × ev_A × List (Nat × ev_A)
def ev_cg (c : ev_C) (j : Nat) : ev_A := match ev_look c.2.2.2 j with
  | some a => a
  | none => c.2.2.1
def ev_nth {α : Type} : List α → Nat → Option α
  | [], _ => none
  | a :: _, 0 => some a
  | _ :: l, n + 1 => ev_nth l n
theorem ev_nth_eq {α : Type} : ∀ (l : List α) (i : Nat), ev_nth l i = l[i]?
  | [], _ => by simp [ev_nth]
  | a :: l, 0 => by simp [ev_nth]
  | a :: l, n + 1 => by simp [ev_nth, ev_nth_eq l n]
/-- what stands below B is as it was, and what was written stands from B on -/
def ev_Lo (B : Nat) (H0 H : Heap) (locs : List Loc) : Prop := (∀ q : Nat, q < B → H[q]? = H0[q]?) ∧ ∀ q ∈ locs, B ≤ q.base
theorem ev_Lo.put {B : Nat} {H0 H H1 : Heap} {locs : List Loc} {i k : Nat} (h : ev_Lo B H0 H locs) (ho : ∀ q, q ≠ B + i → H1[q]? = H[q]?) : ev_Lo B H0 H1 (locs ++ [⟨B + i, k⟩]) := by
  refine ⟨fun q hq => by rw [ho q (by omega)]; exact h.1 q hq, fun q hq => ?_⟩
  rcases List.mem_append.mp hq with h1 | h1
  · exact h.2 q h1
  · rw [List.mem_singleton.mp h1]; exact Nat.le_add_right _ _
theorem ev_Lo.push {B : Nat} {H0 H H1 : Heap} {locs : List Loc} {n : Nat} (h : ev_Lo B H0 H locs) (hs : H.size = B + n) (ho : ∀ q, q < H.size → H1[q]? = H[q]?) : ev_Lo B H0 H1 locs :=
  ⟨fun q hq => by rw [ho q (by omega)]; exact h.1 q hq, h.2⟩
/-- a field's sort: 0 int, 1 long, 2 boolean, 3 a reference -/
def ev_fs (ty : FieldType) : Nat := match ty with
  | .int => 0
  | .long => 1
  | .boolean => 2
  | .object _ => 3
  | .array _ => 3
  | _ => 9
/-- what a new cell of a field's type holds -/
def ev_df (ty : FieldType) : ev_A := match ev_fs ty with
  | 0 => (0, 0, 0)
  | 1 => (1, 0, 0)
  | 2 => (0, 0, 0)
  | _ => (3, 0, 0)
abbrev ev_E : Type := Instr × Nat × Nat × Nat × Int
abbrev ev_M : Type := MethodName × ByteArray × Nat × Option FieldType × List (List ev_E) × Nat × Nat × Nat × Nat × Nat × Nat
def ev_mN (M : ev_M) : MethodName := M.1
def ev_mB (M : ev_M) : ByteArray := M.2.1
def ev_mL (M : ev_M) : Nat := M.2.2.1
def ev_mR (M : ev_M) : Option FieldType := M.2.2.2.1
def ev_mC (M : ev_M) : List (List ev_E) := M.2.2.2.2.1
def ev_mK (M : ev_M) : Nat := M.2.2.2.2.2.1
def ev_mP (M : ev_M) : Nat := M.2.2.2.2.2.2.1
def ev_mF (M : ev_M) : Nat := M.2.2.2.2.2.2.2.1
def ev_mO (M : ev_M) : Nat := M.2.2.2.2.2.2.2.2.1
def ev_mY (M : ev_M) : Nat := M.2.2.2.2.2.2.2.2.2.1
def ev_mS (M : ev_M) : Nat := M.2.2.2.2.2.2.2.2.2.2
def ev_at (M : ev_M) (pc : Nat) : Option ev_E := match ev_nth (ev_mC M) (pc / 32) with
  | some ch => (match ev_nth ch (pc % 32) with
    | some E => if E.2.1 == 0 then none else some E
    | none => none)
  | none => none
/-- what the program's tables are made of: classes, array sorts, blank objects -/
abbrev ev_G : Type := List vw_C × List FieldType × List ev_C
def ev_lok (Tg Tn : List Cond) (AO : List String) (G : ev_G) (TY : Nat → Nat → FieldType) (PG : List ev_M) (own : String) (kd : Nat) (E : ev_E) : Prop := match E.1 with
  | .getfield idx => ∃ (C : String) (T : u_T) (N : Nat), G.1[E.2.2.1]? = some (C, T, N) ∧ E.2.2.2.1 < N ∧ (T E.2.2.2.1).1 = C ∧ (Cond.fieldLink own idx C (T E.2.2.2.1).2.1 (T E.2.2.2.1).2.2.1 ∈ Tg ∨ ∃ host, Cond.fieldLinkNest own idx C (T E.2.2.2.1).2.1 (T E.2.2.2.1).2.2.1 host ∈ Tn)
  | .putfield idx => ∃ (C : String) (T : u_T) (N : Nat), G.1[E.2.2.1]? = some (C, T, N) ∧ E.2.2.2.1 < N ∧ (T E.2.2.2.1).1 = C ∧ (Cond.fieldLink own idx C (T E.2.2.2.1).2.1 (T E.2.2.2.1).2.2.1 ∈ Tg ∨ (∃ host, Cond.fieldLinkNest own idx C (T E.2.2.2.1).2.1 (T E.2.2.2.1).2.2.1 host ∈ Tn) ∧ (T E.2.2.2.1).2.2.2 = false) ∧ ((T E.2.2.2.1).2.2.2 = true → C = own ∧ kd = 2) ∧ ev_fs (TY E.2.2.1 E.2.2.2.1) = E.2.2.2.2.toNat
  | .new idx => ∃ (C : String) (T : u_T) (N : Nat), G.1[E.2.2.1]? = some (C, T, N) ∧ Cond.classLink own idx C ∈ Tg ∧ Cond.instantiable C N ∈ Tg ∧ Cond.initialized C ∈ Tg
  | .newarray at_ => G.2.1[E.2.2.1]? = some (newarray.typeOf at_) ∧ ev_fs (newarray.typeOf at_) < 3 ∧ Cond.arrayClass (newarray.typeOf at_) ∈ Tg
  | .anewarray idx => ∃ n : String, G.2.1[E.2.2.1]? = some (.object n) ∧ Cond.classLink own idx n ∈ Tg ∧ n ∈ AO
  | .ldc idx => Cond.constant own idx (Int32.ofInt E.2.2.2.2) ∈ Tg
  | .ldc2_w idx => Cond.constantLong own idx (Int64.ofInt E.2.2.2.2) ∈ Tg
  | .invokevirtual idx => ∃ M' : ev_M, PG[E.2.2.1]? = some M' ∧ Cond.methodLink own idx (ev_mN M') ∈ Tg ∧ ∃ (T : u_T) (N : Nat), G.1[E.2.2.2.1]? = some ((ev_mN M').cls, T, N)
  | .invokestatic idx => (E.2.2.1 = 998 ∧ Cond.methodLink own idx Lib.Math.max.name ∈ Tg ∧ Cond.static Lib.Math.max.name ∈ Tg ∧ Cond.initialized "java/lang/Math" ∈ Tg ∧ Cond.code Lib.Math.max.name Lib.Math.max.code 2 (some .int) ∈ Tg) ∨ (E.2.2.1 = 997 ∧ Cond.methodLink own idx Lib.Math.min.name ∈ Tg ∧ Cond.static Lib.Math.min.name ∈ Tg ∧ Cond.initialized "java/lang/Math" ∈ Tg ∧ Cond.code Lib.Math.min.name Lib.Math.min.code 2 (some .int) ∈ Tg) ∨ (E.2.2.1 < 900 ∧ ∃ M' : ev_M, PG[E.2.2.1]? = some M' ∧ Cond.methodLink own idx (ev_mN M') ∈ Tg)
  | .invokespecial idx => (E.2.2.1 = 999 ∧ Cond.methodLink own idx objectInit ∈ Tg ∧ Cond.instanceMethod objectInit ∈ Tg ∧ Cond.code objectInit ⟨#[0xb1]⟩ 1 none ∈ Tg) ∨ (E.2.2.1 ≠ 999 ∧ ∃ M' : ev_M, PG[E.2.2.1]? = some M' ∧ (Cond.methodLink own idx (ev_mN M') ∈ Tg ∨ ∃ host, Cond.methodLinkNest own idx (ev_mN M') host ∈ Tn))
  | _ => True
def ev_Kw (D : va_G) (cl : List vw_C) (tys : List (ClassId × FieldType)) (Tn : List Cond) (AO : List String) (U : State) : Prop := va_K D cl tys U ∧ (∀ w ∈ Tn, va_Nw w U) ∧ ∀ n ∈ AO, va_AO n U
/-- the tables' own facts -/
def ev_Fx (Tg Tn : List Cond) (G : ev_G) (TY : Nat → Nat → FieldType) : Prop :=
  G.1.length ≤ 100 ∧ (∀ w ∈ Tg, (w.onTables && w.keeps) = true ∨ ∃ ty, w = .arrayClass ty) ∧ (∀ w ∈ Tn, (∃ a i x n d hh, w = Cond.fieldLinkNest a i x n d hh) ∨ ∃ a i x hh, w = Cond.methodLinkNest a i x hh) ∧
  (∀ (ci : Nat) (C : String) (T : u_T) (N : Nat), G.1[ci]? = some (C, T, N) → (∀ w ∈ u_ws C T N, w ∈ Tg) ∧ (∀ k, k < N → parseFieldDescriptor (T k).2.2.1 = some (TY ci k)) ∧ ∀ a, a < N → ∀ b, b < N → a ≠ b → (T a).2.1 ≠ (T b).2.1) ∧
  ∀ (ci : Nat) (c : ev_C), G.2.2[ci]? = some c → ∃ (C : String) (T : u_T) (N : Nat), G.1[ci]? = some (C, T, N) ∧ c.1 = ci ∧ c.2.1 = N ∧ ∀ j, j < N → ev_fs (TY ci j) < 4 ∧ ev_cg c j = ev_df (TY ci j)
/-- what stands fast while a method runs -/
def ev_Cx (D : va_G) (tys : List (ClassId × FieldType)) (Tg Tn : List Cond) (AO : List String) (G : ev_G) (M : ev_M) (p : Program) (s : State) (m : MethodId) (args : Array Value) (meth : Method) (c : Code) : Prop :=
  p.tables.exec = Jvm.exec ∧ c.code = ev_mB M ∧ c.maxLocals = ev_mL M ∧ s.vm.findClass (ev_mN M).cls = some m.cls ∧ (∀ w ∈ Tg, w.before args s = true) ∧ meth.sig.returnType = ev_mR M ∧ meth.locks = false ∧ (ev_mK M = 2 → meth.name = "<init>") ∧ ev_Kw D G.1 tys Tn AO s
theorem ev_tmap {tys : List (ClassId × FieldType)} {tl : List FieldType} (h : tys.map Prod.snd = tl) {t : Nat} {ty : FieldType} (e : tl[t]? = some ty) : ∃ cA, tys[t]? = some (cA, ty) := by
  subst h
  rw [List.getElem?_map] at e
  cases h2 : tys[t]? with
  | none => rw [h2] at e; cases e
  | some q =>
    rw [h2] at e
    obtain ⟨cA, ty'⟩ := q
    cases e
    exact ⟨cA, rfl⟩
theorem ev_lgsl : ∀ (vs : List Value), (lg_sl vs).length = (vs.map fun v => v.category).sum
  | [] => rfl
  | v :: vs => by
    have ih := ev_lgsl vs
    unfold lg_sl at ih ⊢
    rw [List.flatMap_cons, List.length_append, ih, List.map_cons, List.sum_cons]
    rcases lv_cat v with q | q
    · rw [q]; simp
    · rw [q]; simp
def ev_rm (M : ev_M) : Room := { frames := ev_mF M, cells := ev_mY M, slots := ev_mS M, locals := ev_mO M }
def ev_ws (Tg : List Cond) (M : ev_M) : List Cond := Cond.code (ev_mN M) (ev_mB M) (ev_mL M) (ev_mR M) :: Tg
/-- what the tables say of a method -/
def ev_mok (Tg Tn : List Cond) (AO : List String) (G : ev_G) (TY : Nat → Nat → FieldType) (PG : List ev_M) (M : ev_M) : Prop :=
  plainName (ev_mN M).cls = true ∧ Cond.code (ev_mN M) (ev_mB M) (ev_mL M) (ev_mR M) ∈ Tg ∧ Cond.initialized (ev_mN M).cls ∈ Tg ∧ ((ev_mN M).cls ≠ "java/lang/invoke/MethodHandle" ∧ (ev_mN M).cls ≠ "java/lang/invoke/VarHandle" ∧ (parseMethodDescriptor (ev_mN M).desc).map (fun d => d.parameters.length) = some (ev_mP M)) ∧
  (ev_mK M % 10 = 0 → Cond.static (ev_mN M) ∈ Tg) ∧ (ev_mK M % 10 = 1 → Cond.instanceMethod (ev_mN M) ∈ Tg ∧ Cond.selects (ev_mN M).cls (ev_mN M) (ev_mN M) ∈ Tg) ∧ (ev_mK M % 10 = 2 → (ev_mN M).name = "<init>" ∧ Cond.instanceMethod (ev_mN M) ∈ Tg ∧ ev_mR M = none) ∧
  ∀ (pc : Nat) (E : ev_E), ev_at M pc = some E → decode (ev_mB M) pc = .ok (E.1, E.2.1) ∧ ev_lok Tg Tn AO G TY PG (ev_mN M).cls (ev_mK M) E
section EVC
variable {p : Program} {l : Launch} {e : Env} {R : Room} {s : State} {m : MethodId} {args : Array Value} {below : List Frame} {meth : Method} {c : Code} {H : Heap} {locs : List Loc} {cells slots : Nat} {Q : State → Prop}
variable {pc : Nat} {ls : Array Slot} {D : va_G} {tys : List (ClassId × FieldType)} {Tg Tn : List Cond} {AO : List String} {G : ev_G} {TY : Nat → Nat → FieldType} {PG : List ev_M} {M : ev_M}
theorem ev_call {Qa : State → Outcome → State → Prop} {free : Addr → Prop} {mc ms : Nat} {rest st0 : List Value} (hr : va_Run p l e R s m args below meth c H locs cells slots mc ms (F0 m pc ls st0) rest Qa free)
    (kk : ∀ (v : Option Value) (st₀ t : State) (Lc : List Loc), st₀.heap = H → Qa st₀ (.returned v) t → (∀ q ∈ Lc, free q.base) → W p l e R s m args below meth c t.heap (locs ++ Lc) (cells + mc) (slots + ms) Q (F0 m (pc + 3) ls (v.toList ++ rest))) : W p l e R s m args below meth c H locs cells slots Q (F0 m pc ls st0) := by
  intro T hT X
  obtain ⟨v, st₀, t, T', Lc, h0, X', hL, e1, e2, hq, st⟩ := hr T hT X
  obtain ⟨t2, a1, b1⟩ := kk v st₀ t Lc h0 hq hL T' e1 X'
  exact ⟨t2, st t2 a1, b1⟩
theorem ev_goodW (h2 : ∀ w ∈ Tg, (w.onTables && w.keeps) = true ∨ ∃ ty, w = .arrayClass ty) {ws : List Cond} (h : ∀ w ∈ ws, w ∈ Tg) : GoodIn Tg ws := fun w hw => ⟨h w hw, h2 w (h w hw)⟩
theorem ev_ws_in {M' : ev_M} (hk : ev_mok Tg Tn AO G TY PG M') : ∀ w ∈ ev_ws Tg M', w ∈ Tg := fun w hw => by
  rcases List.mem_cons.mp hw with rfl | h
  · exact hk.2.1
  · exact h
end EVC
theorem ev_Kw_warm {D : va_G} {cl : List vw_C} {tys : List (ClassId × FieldType)} {Tn : List Cond} {AO : List String} {s U : State} (f3 : ∀ w ∈ Tn, (∃ a i x n d hh, w = Cond.fieldLinkNest a i x n d hh) ∨ ∃ a i x hh, w = Cond.methodLinkNest a i x hh) (hW : s.WarmedH U.vm) (h : ev_Kw D cl tys Tn AO s) : ev_Kw D cl tys Tn AO U := by
  refine ⟨va_K.moved hW.alike h.1, fun w hw => ?_, fun n hn => va_AO.moved hW.alike (h.2.2 n hn)⟩
  have h2 := h.2.1 w hw
  rcases f3 w hw with ⟨a, i, x, n, d, hh, rfl⟩ | ⟨a, i, x, hh, rfl⟩
  · exact va_Nw.warmF hW h2
  · exact va_Nw.warmM hW h2
theorem ev_Kw_vm {D : va_G} {cl : List vw_C} {tys : List (ClassId × FieldType)} {Tn : List Cond} {AO : List String} {s U : State} (f3 : ∀ w ∈ Tn, (∃ a i x n d hh, w = Cond.fieldLinkNest a i x n d hh) ∨ ∃ a i x hh, w = Cond.methodLinkNest a i x hh) (hW : s.vm = U.vm) (h : ev_Kw D cl tys Tn AO s) : ev_Kw D cl tys Tn AO U := by
  have hal : s.vm.Alike U.vm := by rw [hW]; exact Vm.Alike.refl _
  refine ⟨va_K.moved hal h.1, fun w hw => ?_, fun n hn => va_AO.moved hal (h.2.2 n hn)⟩
  have h2 := h.2.1 w hw
  rcases f3 w hw with ⟨a, i, x, n, d, hh, rfl⟩ | ⟨a, i, x, hh, rfl⟩
  · exact va_Nw.same rfl hW h2
  · exact va_Nw.same rfl hW h2
