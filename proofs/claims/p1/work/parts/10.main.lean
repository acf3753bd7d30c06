section EVM
variable (G : ev_G) (PG : List ev_M) (fin : Option ev_A → ev_Q → Bool) (stop : ev_S → Bool)
/-- what is left to be shown behind a return -/
def ev_P (n : Nat) (fs : List ev_F) (a : Option ev_A) (h : ev_Q) (sg : List ev_A) : Prop := match fs with
  | [] => fin a h = true
  | (M, pc, lv, st, bc, bs) :: fs' => ∃ k, k < n ∧ ev_run G PG fin stop k ((M, pc, lv, a.toList ++ st, bc, bs) :: fs', h, sg) = true
theorem ev_P_mono {n k : Nat} (hk : k ≤ n) {fs : List ev_F} {a : Option ev_A} {h : ev_Q} {sg : List ev_A} (q : ev_P G PG fin stop k fs a h sg) : ev_P G PG fin stop n fs a h sg := by
  cases fs with
  | nil => exact q
  | cons f fs =>
    obtain ⟨j, h1, h2⟩ := q
    exact ⟨j, Nat.lt_of_lt_of_le h1 hk, h2⟩
variable (l : Launch) (D : va_G) (tys : List (ClassId × FieldType)) (Tg Tn : List Cond) (AO : List String) (o : Bool) (B b L : Nat) (xs : Nat → Int32)
def ev_RH (n : Nat) (fs : List ev_F) (M : ev_M) (p : Program) (e : Env) (R : Room) (s : State) (m : MethodId) (args : Array Value) (below : List Frame) (meth : Method) (c : Code) (Q : State → Prop) (mc ms : Nat) : Prop :=
  ∀ (H : Heap) (locs : List Loc) (cells slots : Nat) (ls : Array Slot) (pc : Nat) (cst : List Value) (E : ev_E) (st : List ev_A) (a : Option ev_A) (h : ev_Q) (sg : List ev_A), ev_P G PG fin stop n fs a h sg → ev_at M pc = some E → E.2.1 = 1 → ev_rok E M st = some a → ev_g1 B b cst st → ev_R D G.1 tys B b h H → ev_Lo B s.heap H locs → ev_Sd o B b L xs s sg → cells ≤ mc → slots ≤ ms → W p l e R s m args below meth c H locs cells slots Q (F0 m pc ls cst)
theorem ev_RH_mono {n k : Nat} (hk : k ≤ n) {fs : List ev_F} {M : ev_M} {p : Program} {e : Env} {R : Room} {s : State} {m : MethodId} {args : Array Value} {below : List Frame} {meth : Method} {c : Code} {Q : State → Prop} {mc ms : Nat} (q : ev_RH G PG fin stop l D tys o B b L xs n fs M p e R s m args below meth c Q mc ms) : ev_RH G PG fin stop l D tys o B b L xs k fs M p e R s m args below meth c Q mc ms :=
  fun H locs cells slots ls pc cst E st a h sg hP => q H locs cells slots ls pc cst E st a h sg (ev_P_mono G PG fin stop hk hP)
variable (dk : ev_M → Prop)
def ev_Goal (n : Nat) (S : ev_S) : Prop := match S with
  | ([], _, _) => True
  | ((M, pc, lv, st, bc, bs) :: fs, h, sg) => dk M → (∀ f ∈ fs, dk f.1) → ∀ (p : Program) (e : Env) (R : Room) (s : State) (m : MethodId) (args : Array Value) (below : List Frame) (meth : Method) (c : Code) (Q : State → Prop) (H : Heap) (locs : List Loc) (cells slots : Nat) (ls : Array Slot) (clv : List (Nat × Value)) (cst : List Value) (mc ms : Nat),
    ev_Cx D tys Tg Tn AO G M p s m args meth c → lv_has ls (ev_mL M) clv → ev_g2 B b clv lv → ev_g1 B b cst st → ev_R D G.1 tys B b h H → ev_Lo B s.heap H locs → ev_Sd o B b L xs s sg → cells + bc ≤ mc → slots + bs ≤ ms → mc ≤ R.cells → ms ≤ R.slots → ev_mF M ≤ R.frames → ev_mO M ≤ R.locals → ev_RH G PG fin stop l D tys o B b L xs n fs M p e R s m args below meth c Q mc ms →
    W p l e R s m args below meth c H locs cells slots Q (F0 m pc ls cst)
/-- a method of which it is only known that it answers some long, and changes nothing -/
def ev_Hv (M : ev_M) : Prop := ∀ ys : List Int64, ys.length = ev_mP M → Met l (ev_mN M) (ev_ws Tg M) (ev_rm M) (fun a _ => a = (ys.map Value.long).toArray) (fun _ st oc t => (∃ x : Int64, oc = .returned (some (.long x))) ∧ t.heap = st.heap) (ev_mY M) (ev_mS M) (fun _ => False)
end EVM
theorem ev_longs {B b : Nat} : ∀ {vs : List Value} {as : List ev_A}, ev_g1 B b vs as → as.all (fun a => a.1 == 1) = true → ∃ ys : List Int64, vs = ys.map Value.long
  | [], [], _, _ => ⟨[], rfl⟩
  | [], _ :: _, h, _ => h.elim
  | _ :: _, [], h, _ => h.elim
  | v :: vs, a :: as, h, q => by
    rw [List.all_cons, Bool.and_eq_true] at q
    obtain ⟨ys, e⟩ := ev_longs h.2 q.2
    obtain ⟨x, e2, -⟩ := ev_isL h.1 q.1
    exact ⟨x :: ys, by rw [e2, e]; rfl⟩
theorem ev_Kw_warm {D : va_G} {cl : List vw_C} {tys : List (ClassId × FieldType)} {Tn : List Cond} {AO : List String} {s U : State} (f3 : ∀ w ∈ Tn, (∃ a i x n d hh, w = Cond.fieldLinkNest a i x n d hh) ∨ ∃ a i x hh, w = Cond.methodLinkNest a i x hh) (hW : s.WarmedH U.vm) (h : ev_Kw D cl tys Tn AO s) : ev_Kw D cl tys Tn AO U := by
  refine ⟨va_K.moved hW.alike h.1, fun w hw => ?_, fun n hn => va_AO.moved hW.alike (h.2.2 n hn)⟩
  have h2 := h.2.1 w hw
  rcases f3 w hw with ⟨a, i, x, n, d, hh, rfl⟩ | ⟨a, i, x, hh, rfl⟩
  · exact va_Nw.warmF hW h2
  · exact va_Nw.warmM hW h2
theorem ev_Kw_vm {D : va_G} {cl : List vw_C} {tys : List (ClassId × FieldType)} {Tn : List Cond} {AO : List String} {s U : State} (f3 : ∀ w ∈ Tn, (∃ a i x n d hh, w = Cond.fieldLinkNest a i x n d hh) ∨ ∃ a i x hh, w = Cond.methodLinkNest a i x hh) (hW : s.vm = U.vm) (h : ev_Kw D cl tys Tn AO s) : ev_Kw D cl tys Tn AO U := by
  have hal : s.vm.Alike U.vm := by rw [hW]; exact Vm.Alike.refl _
  refine ⟨va_K.moved hal h.1, fun w hw => ?_, fun n hn => va_AO.moved hal (h.2.2 n hn)⟩
  have h2 := h.2.1 w hw
  rcases f3 w hw with ⟨a, i, x, n, d, hh, rfl⟩ | ⟨a, i, x, hh, rfl⟩
  · exact va_Nw.same rfl hW h2
  · exact va_Nw.same rfl hW h2
