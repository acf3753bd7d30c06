/-! the tables' words, checked by program -/
def ev_isN (w : Cond) : Bool := match w with
  | .fieldLinkNest _ _ _ _ _ _ => true
  | .methodLinkNest _ _ _ _ => true
  | _ => false
/-- words with a key and their place in the tables -/
abbrev ev_N : Type := List (Nat × Nat × Cond)
/-- the tables come in pieces: a place is its piece's number, times 1000, and the place there -/
def ev_nok (TT : List (List Cond)) (nd : ev_N) : Bool := nd.all (fun q => match ev_nth TT (q.2.1 / 1000) with
  | some l => decide (ev_nth l (q.2.1 % 1000) = some q.2.2)
  | none => false)
def ev_fd : ev_N → Nat → Option Cond
  | [], _ => none
  | q :: r, k => if q.1 == k then some q.2.2 else ev_fd r k
def ev_has (nd : ev_N) (k : Nat) (w : Cond) : Bool := (match ev_fd nd k with
  | some w' => decide (w' = w)
  | none => false) && goodWord w
theorem ev_fd_ok : ∀ {nd : ev_N} {k : Nat} {w : Cond}, ev_fd nd k = some w → ∃ q ∈ nd, q.2.2 = w
  | [], _, _, h => by simp [ev_fd] at h
  | q :: r, k, w, h => by
    unfold ev_fd at h
    split at h
    · cases h
      exact ⟨q, List.mem_cons_self, rfl⟩
    · obtain ⟨q', h1, h2⟩ := ev_fd_ok h
      exact ⟨q', List.mem_cons_of_mem _ h1, h2⟩
def ev_hasF (nd : ev_N) (own : String) (idx : Nat) (C n d : String) : Bool := match ev_fd nd idx with
  | some (.fieldLinkNest a i x n' d' _) => decide (a = own) && decide (i = idx) && decide (x = C) && decide (n' = n) && decide (d' = d)
  | _ => false
def ev_hasM (nd : ev_N) (own : String) (idx : Nat) (y : MethodName) : Bool := match ev_fd nd idx with
  | some (.methodLinkNest a i x _) => decide (a = own) && decide (i = idx) && decide (x = y)
  | _ => false
theorem ev_nok_in {TT : List (List Cond)} {nd : ev_N} (h : ev_nok TT nd = true) {q : Nat × Nat × Cond} (hq : q ∈ nd) : q.2.2 ∈ TT.flatten := by
  have h1 := List.all_eq_true.mp h q hq
  split at h1
  · rename_i l hl
    rw [decide_eq_true_eq, ev_nth_eq] at h1
    rw [ev_nth_eq] at hl
    exact List.mem_flatten.mpr ⟨l, List.mem_of_getElem? hl, List.mem_of_getElem? h1⟩
  · cases h1
theorem ev_has_ok {TT : List (List Cond)} {nd : ev_N} (h : ev_nok TT nd = true) {k : Nat} {w : Cond} (hw : ev_has nd k w = true) : w ∈ TT.flatten.filter goodWord := by
  unfold ev_has at hw
  rw [Bool.and_eq_true] at hw
  obtain ⟨h1, h3⟩ := hw
  split at h1
  · rename_i w' hw'
    rw [decide_eq_true_eq] at h1
    subst h1
    obtain ⟨q, m1, m2⟩ := ev_fd_ok hw'
    rw [← m2]
    exact List.mem_filter.mpr ⟨ev_nok_in h m1, by rw [m2]; exact h3⟩
  · cases h1
theorem ev_hasF_ok {Tn : List Cond} {nd : ev_N} (h : ∀ q ∈ nd, ev_isN q.2.2 = true → q.2.2 ∈ Tn) {own C n d : String} {idx : Nat} (hw : ev_hasF nd own idx C n d = true) : ∃ host, Cond.fieldLinkNest own idx C n d host ∈ Tn := by
  unfold ev_hasF at hw
  split at hw
  · rename_i a j x n' d' host hf
    simp only [Bool.and_eq_true, decide_eq_true_eq] at hw
    obtain ⟨⟨⟨⟨rfl, rfl⟩, rfl⟩, rfl⟩, rfl⟩ := hw
    obtain ⟨q, m1, m2⟩ := ev_fd_ok hf
    have h3 := h q m1 (by rw [m2]; rfl)
    rw [m2] at h3
    exact ⟨host, h3⟩
  · cases hw
theorem ev_hasM_ok {Tn : List Cond} {nd : ev_N} (h : ∀ q ∈ nd, ev_isN q.2.2 = true → q.2.2 ∈ Tn) {own : String} {idx : Nat} {y : MethodName} (hw : ev_hasM nd own idx y = true) : ∃ host, Cond.methodLinkNest own idx y host ∈ Tn := by
  unfold ev_hasM at hw
  split at hw
  · rename_i a j x host hf
    simp only [Bool.and_eq_true, decide_eq_true_eq] at hw
    obtain ⟨⟨rfl, rfl⟩, rfl⟩ := hw
    obtain ⟨q, m1, m2⟩ := ev_fd_ok hf
    have h3 := h q m1 (by rw [m2]; rfl)
    rw [m2] at h3
    exact ⟨host, h3⟩
  · cases hw
/-- a method of the tables under its number -/
def ev_lm (PG : List ev_M) (u : Nat) (f : ev_M → Bool) : Bool := match ev_nth PG u with
  | some M' => f M'
  | none => false
def ev_lc (G : ev_G) (u : Nat) (f : vw_C → Bool) : Bool := match ev_nth G.1 u with
  | some r => f r
  | none => false
def ev_la (G : ev_G) (u : Nat) (f : String → Bool) : Bool := match ev_nth G.2.1 u with
  | some (.object n) => f n
  | _ => false
theorem ev_lm_ok {PG : List ev_M} {u : Nat} {f : ev_M → Bool} (h : ev_lm PG u f = true) : ∃ M', PG[u]? = some M' ∧ f M' = true := by
  unfold ev_lm at h
  split at h
  · rename_i M' hM
    rw [ev_nth_eq] at hM
    exact ⟨M', hM, h⟩
  · cases h
theorem ev_lc_ok {G : ev_G} {u : Nat} {f : vw_C → Bool} (h : ev_lc G u f = true) : ∃ C T N, G.1[u]? = some (C, T, N) ∧ f (C, T, N) = true := by
  unfold ev_lc at h
  split at h
  · rename_i r hr
    rw [ev_nth_eq] at hr
    obtain ⟨C, T, N⟩ := r
    exact ⟨C, T, N, hr, h⟩
  · cases h
theorem ev_la_ok {G : ev_G} {u : Nat} {f : String → Bool} (h : ev_la G u f = true) : ∃ n, G.2.1[u]? = some (.object n) ∧ f n = true := by
  unfold ev_la at h
  split at h
  · rename_i n hn
    rw [ev_nth_eq] at hn
    exact ⟨n, hn, h⟩
  · cases h
def ev_lchk (AO : List String) (G : ev_G) (TY : Nat → Nat → FieldType) (PG : List ev_M) (nd : ev_N) (own : String) (kd : Nat) (E : ev_E) : Bool := match E.1 with
  | .getfield idx => ev_lc G E.2.2.1 fun r => decide (E.2.2.2.1 < r.2.2) && decide ((r.2.1 E.2.2.2.1).1 = r.1) && (ev_has nd idx (.fieldLink own idx r.1 (r.2.1 E.2.2.2.1).2.1 (r.2.1 E.2.2.2.1).2.2.1) || ev_hasF nd own idx r.1 (r.2.1 E.2.2.2.1).2.1 (r.2.1 E.2.2.2.1).2.2.1)
  | .putfield idx => ev_lc G E.2.2.1 fun r => decide (E.2.2.2.1 < r.2.2) && decide ((r.2.1 E.2.2.2.1).1 = r.1) && (ev_has nd idx (.fieldLink own idx r.1 (r.2.1 E.2.2.2.1).2.1 (r.2.1 E.2.2.2.1).2.2.1) || (ev_hasF nd own idx r.1 (r.2.1 E.2.2.2.1).2.1 (r.2.1 E.2.2.2.1).2.2.1 && decide ((r.2.1 E.2.2.2.1).2.2.2 = false))) && (decide ((r.2.1 E.2.2.2.1).2.2.2 = false) || (decide (r.1 = own) && decide (kd = 2))) && decide (ev_fs (TY E.2.2.1 E.2.2.2.1) = E.2.2.2.2.toNat)
  | .new idx => ev_lc G E.2.2.1 fun r => ev_has nd idx (.classLink own idx r.1) && ev_has nd (20000 + E.2.2.1) (.instantiable r.1 r.2.2) && ev_has nd (30000 + E.2.2.1) (.initialized r.1)
  | .newarray a => decide (ev_nth G.2.1 E.2.2.1 = some (newarray.typeOf a)) && decide (ev_fs (newarray.typeOf a) < 3) && ev_has nd (40000 + E.2.2.1) (.arrayClass (newarray.typeOf a))
  | .anewarray idx => ev_la G E.2.2.1 fun n => ev_has nd idx (.classLink own idx n) && decide (n ∈ AO)
  | .ldc idx => ev_has nd idx (.constant own idx (Int32.ofInt E.2.2.2.2))
  | .ldc2_w idx => ev_has nd idx (.constantLong own idx (Int64.ofInt E.2.2.2.2))
  | .invokevirtual idx => ev_lm PG E.2.2.1 fun M' => ev_has nd idx (.methodLink own idx (ev_mN M')) && ev_lc G E.2.2.2.1 fun r => decide (r.1 = (ev_mN M').cls)
  | .invokestatic idx => if E.2.2.1 == 998 then ev_has nd idx (.methodLink own idx Lib.Math.max.name) && ev_has nd 50008 (.static Lib.Math.max.name) && ev_has nd 50010 (.initialized "java/lang/Math") && ev_has nd 50011 (.code Lib.Math.max.name Lib.Math.max.code 2 (some .int)) else if E.2.2.1 == 997 then ev_has nd idx (.methodLink own idx Lib.Math.min.name) && ev_has nd 50009 (.static Lib.Math.min.name) && ev_has nd 50010 (.initialized "java/lang/Math") && ev_has nd 50012 (.code Lib.Math.min.name Lib.Math.min.code 2 (some .int)) else decide (E.2.2.1 < 900) && ev_lm PG E.2.2.1 fun M' => ev_has nd idx (.methodLink own idx (ev_mN M'))
  | .invokespecial idx => if E.2.2.1 == 999 then ev_has nd idx (.methodLink own idx objectInit) && ev_has nd 50006 (.instanceMethod objectInit) && ev_has nd 50007 (.code objectInit ⟨#[0xb1]⟩ 1 none) else ev_lm PG E.2.2.1 fun M' => ev_has nd idx (.methodLink own idx (ev_mN M')) || ev_hasM nd own idx (ev_mN M')
  | _ => true
theorem ev_nest_in {TT : List (List Cond)} {nd : ev_N} (h : ev_nok TT nd = true) : ∀ q ∈ nd, ev_isN q.2.2 = true → q.2.2 ∈ TT.flatten.filter ev_isN := fun _ hq h2 => List.mem_filter.mpr ⟨ev_nok_in h hq, h2⟩
theorem ev_lchk_ok {TT : List (List Cond)} {Tn : List Cond} {AO : List String} {G : ev_G} {TY : Nat → Nat → FieldType} {PG : List ev_M} {nd : ev_N} {own : String} {kd : Nat} {E : ev_E} (hn : ev_nok TT nd = true) (hT : ∀ q ∈ nd, ev_isN q.2.2 = true → q.2.2 ∈ Tn) (h : ev_lchk AO G TY PG nd own kd E = true) : ev_lok (TT.flatten.filter goodWord) Tn AO G TY PG own kd E := by
  obtain ⟨ins, len, u, v, z⟩ := E
  cases ins
  case getfield idx =>
    obtain ⟨C, T', N, h1, h2⟩ := ev_lc_ok h
    simp only [Bool.and_eq_true, decide_eq_true_eq, Bool.or_eq_true] at h2
    refine ⟨C, T', N, h1, h2.1.1, h2.1.2, ?_⟩
    rcases h2.2 with q | q
    · exact Or.inl (ev_has_ok hn q)
    · exact Or.inr (ev_hasF_ok hT q)
  case putfield idx =>
    obtain ⟨C, T', N, h1, h2⟩ := ev_lc_ok h
    simp only [Bool.and_eq_true, decide_eq_true_eq, Bool.or_eq_true] at h2
    obtain ⟨⟨⟨⟨q1, q2⟩, q3⟩, q4⟩, q5⟩ := h2
    refine ⟨C, T', N, h1, q1, q2, ?_, ?_, q5⟩
    · rcases q3 with q | ⟨q, q'⟩
      · exact Or.inl (ev_has_ok hn q)
      · exact Or.inr ⟨ev_hasF_ok hT q, q'⟩
    · intro hf
      rcases q4 with q | q
      · dsimp only at hf
        rw [hf] at q; cases q
      · exact q
  case new idx =>
    obtain ⟨C, T', N, h1, h2⟩ := ev_lc_ok h
    simp only [Bool.and_eq_true] at h2
    exact ⟨C, T', N, h1, ev_has_ok hn h2.1.1, ev_has_ok hn h2.1.2, ev_has_ok hn h2.2⟩
  case newarray a =>
    simp only [ev_lchk, Bool.and_eq_true, decide_eq_true_eq, ev_nth_eq] at h
    exact ⟨h.1.1, h.1.2, ev_has_ok hn h.2⟩
  case anewarray idx =>
    obtain ⟨n, h1, h2⟩ := ev_la_ok h
    simp only [Bool.and_eq_true, decide_eq_true_eq] at h2
    exact ⟨n, h1, ev_has_ok hn h2.1, h2.2⟩
  case ldc idx => exact ev_has_ok hn h
  case ldc2_w idx => exact ev_has_ok hn h
  case invokevirtual idx =>
    obtain ⟨M', h1, h2⟩ := ev_lm_ok h
    rw [Bool.and_eq_true] at h2
    obtain ⟨C, T', N, h3, h4⟩ := ev_lc_ok h2.2
    rw [decide_eq_true_eq] at h4
    dsimp only at h4
    subst h4
    exact ⟨M', h1, ev_has_ok hn h2.1, T', N, h3⟩
  case invokestatic idx =>
    simp only [ev_lchk] at h
    split at h
    · rename_i hu
      simp only [Bool.and_eq_true] at h
      exact Or.inl ⟨by simpa using hu, ev_has_ok hn h.1.1.1, ev_has_ok hn h.1.1.2, ev_has_ok hn h.1.2, ev_has_ok hn h.2⟩
    · split at h
      · rename_i hu
        simp only [Bool.and_eq_true] at h
        exact Or.inr (Or.inl ⟨by simpa using hu, ev_has_ok hn h.1.1.1, ev_has_ok hn h.1.1.2, ev_has_ok hn h.1.2, ev_has_ok hn h.2⟩)
      · rw [Bool.and_eq_true, decide_eq_true_eq] at h
        obtain ⟨M', h1, h2⟩ := ev_lm_ok h.2
        exact Or.inr (Or.inr ⟨h.1, M', h1, ev_has_ok hn h2⟩)
  case invokespecial idx =>
    simp only [ev_lchk] at h
    split at h
    · rename_i hu
      simp only [Bool.and_eq_true] at h
      exact Or.inl ⟨by simpa using hu, ev_has_ok hn h.1.1, ev_has_ok hn h.1.2, ev_has_ok hn h.2⟩
    · rename_i hu
      obtain ⟨M', h1, h2⟩ := ev_lm_ok h
      rw [Bool.or_eq_true] at h2
      refine Or.inr ⟨by simpa using hu, M', h1, ?_⟩
      rcases h2 with q | q
      · exact Or.inl (ev_has_ok hn q)
      · exact Or.inr (ev_hasM_ok hT q)
  all_goals exact trivial
/-- a method's instructions are its bytes, and its words stand in the tables -/
def ev_cchk (AO : List String) (G : ev_G) (TY : Nat → Nat → FieldType) (PG : List ev_M) (nd : ev_N) (M : ev_M) : Bool := (List.range (32 * (ev_mC M).length)).all fun pc => match ev_at M pc with
  | none => true
  | some E => decide (decode (ev_mB M) pc = .ok (E.1, E.2.1)) && ev_lchk AO G TY PG nd (ev_mN M).cls (ev_mK M) E
def ev_hchk (nd : ev_N) (M : ev_M) : Bool := plainName (ev_mN M).cls && ev_has nd 50002 (.initialized (ev_mN M).cls) && decide ((ev_mN M).cls ≠ "java/lang/invoke/MethodHandle") && decide ((ev_mN M).cls ≠ "java/lang/invoke/VarHandle") && decide ((parseMethodDescriptor (ev_mN M).desc).map (fun d => d.parameters.length) = some (ev_mP M)) && (match ev_mK M % 10 with
  | 0 => ev_has nd 50003 (.static (ev_mN M))
  | 1 => ev_has nd 50004 (.instanceMethod (ev_mN M)) && ev_has nd 50005 (.selects (ev_mN M).cls (ev_mN M) (ev_mN M))
  | _ => decide ((ev_mN M).name = "<init>") && ev_has nd 50004 (.instanceMethod (ev_mN M)) && decide (ev_mR M = none))
theorem ev_at_lt {M : ev_M} {pc : Nat} {E : ev_E} (h : ev_at M pc = some E) : pc < 32 * (ev_mC M).length := by
  unfold ev_at at h
  split at h
  · rename_i ch hch
    rw [ev_nth_eq] at hch
    have := (List.getElem?_eq_some_iff.mp hch).1
    omega
  · cases h
theorem ev_mchk_okT {TT : List (List Cond)} {Tn : List Cond} {AO : List String} {G : ev_G} {TY : Nat → Nat → FieldType} {PG : List ev_M} (nd : ev_N) {M : ev_M} (hc : Cond.code (ev_mN M) (ev_mB M) (ev_mL M) (ev_mR M) ∈ TT.flatten.filter goodWord) (hn : ev_nok TT nd = true) (hT : ∀ q ∈ nd, ev_isN q.2.2 = true → q.2.2 ∈ Tn) (h1 : ev_hchk nd M = true) (h2 : ev_cchk AO G TY PG nd M = true) : ev_mok (TT.flatten.filter goodWord) Tn AO G TY PG M := by
  unfold ev_hchk at h1
  simp only [Bool.and_eq_true, decide_eq_true_eq] at h1
  obtain ⟨⟨⟨⟨⟨a1, a3⟩, a4⟩, a5⟩, a6⟩, a7⟩ := h1
  refine ⟨a1, hc, ev_has_ok hn a3, ⟨a4, a5, a6⟩, fun q => ?_, fun q => ?_, fun q => ?_, fun pc E hE => ?_⟩
  · rw [q] at a7
    exact ev_has_ok hn a7
  · rw [q] at a7
    have a8 : (ev_has nd 50004 (.instanceMethod (ev_mN M)) && ev_has nd 50005 (.selects (ev_mN M).cls (ev_mN M) (ev_mN M))) = true := a7
    rw [Bool.and_eq_true] at a8
    exact ⟨ev_has_ok hn a8.1, ev_has_ok hn a8.2⟩
  · rw [q] at a7
    have a8 : (decide ((ev_mN M).name = "<init>") && ev_has nd 50004 (.instanceMethod (ev_mN M)) && decide (ev_mR M = none)) = true := a7
    rw [Bool.and_eq_true, Bool.and_eq_true, decide_eq_true_eq, decide_eq_true_eq] at a8
    exact ⟨a8.1.1, ev_has_ok hn a8.1.2, a8.2⟩
  · have h3 := List.all_eq_true.mp h2 pc (List.mem_range.mpr (ev_at_lt hE))
    rw [hE] at h3
    dsimp only at h3
    rw [Bool.and_eq_true, decide_eq_true_eq] at h3
    exact ⟨h3.1, ev_lchk_ok hn hT h3.2⟩
theorem ev_mchk_ok {TT : List (List Cond)} {AO : List String} {G : ev_G} {TY : Nat → Nat → FieldType} {PG : List ev_M} (nd : ev_N) {M : ev_M} (hc : Cond.code (ev_mN M) (ev_mB M) (ev_mL M) (ev_mR M) ∈ TT.flatten.filter goodWord) (hn : ev_nok TT nd = true) (h1 : ev_hchk nd M = true) (h2 : ev_cchk AO G TY PG nd M = true) : ev_mok (TT.flatten.filter goodWord) (TT.flatten.filter ev_isN) AO G TY PG M := ev_mchk_okT nd hc hn (ev_nest_in hn) h1 h2
theorem ev_dchk_ok {TT : List (List Cond)} {AO : List String} {G : ev_G} {TY : Nat → Nat → FieldType} {PG : List ev_M} (nd : ev_N) {M : ev_M} (hn : ev_nok TT nd = true) (h2 : ev_cchk AO G TY PG nd M = true) (pc : Nat) (E : ev_E) (hE : ev_at M pc = some E) : decode (ev_mB M) pc = .ok (E.1, E.2.1) ∧ ev_lok (TT.flatten.filter goodWord) (TT.flatten.filter ev_isN) AO G TY PG (ev_mN M).cls (ev_mK M) E := by
  have h3 := List.all_eq_true.mp h2 pc (List.mem_range.mpr (ev_at_lt hE))
  rw [hE] at h3
  dsimp only at h3
  rw [Bool.and_eq_true, decide_eq_true_eq] at h3
  exact ⟨h3.1, ev_lchk_ok hn (ev_nest_in hn) h3.2⟩
