/-! the tables' words, checked by program -/
def ev_isN (w : Cond) : Bool := match w with
  | .fieldLinkNest _ _ _ _ _ _ => true
  | .methodLinkNest _ _ _ _ => true
  | _ => false
def ev_nok (T : List Cond) (nd : List (Nat × Cond)) : Bool := nd.all (fun q => decide (ev_nth T q.1 = some q.2))
def ev_any (nd : List (Nat × Cond)) (w : Cond) : Bool := nd.any (fun q => decide (q.2 = w))
def ev_has (nd : List (Nat × Cond)) (w : Cond) : Bool := ev_any nd w && goodWord w
def ev_hasF (nd : List (Nat × Cond)) (own : String) (idx : Nat) (C n d : String) : Bool := nd.any (fun q => match q.2 with
  | .fieldLinkNest a i x n' d' _ => decide (a = own) && decide (i = idx) && decide (x = C) && decide (n' = n) && decide (d' = d)
  | _ => false)
def ev_hasM (nd : List (Nat × Cond)) (own : String) (idx : Nat) (y : MethodName) : Bool := nd.any (fun q => match q.2 with
  | .methodLinkNest a i x _ => decide (a = own) && decide (i = idx) && decide (x = y)
  | _ => false)
theorem ev_nok_in {T : List Cond} {nd : List (Nat × Cond)} (h : ev_nok T nd = true) {q : Nat × Cond} (hq : q ∈ nd) : q.2 ∈ T := by
  have := List.all_eq_true.mp h q hq
  rw [decide_eq_true_eq, ev_nth_eq] at this
  exact List.mem_of_getElem? this
theorem ev_has_ok {T : List Cond} {nd : List (Nat × Cond)} (h : ev_nok T nd = true) {w : Cond} (hw : ev_has nd w = true) : w ∈ T.filter goodWord := by
  unfold ev_has ev_any at hw
  rw [Bool.and_eq_true, List.any_eq_true] at hw
  obtain ⟨⟨q, h1, h2⟩, h3⟩ := hw
  rw [decide_eq_true_eq] at h2
  subst h2
  exact List.mem_filter.mpr ⟨ev_nok_in h h1, h3⟩
theorem ev_hasF_ok {T : List Cond} {nd : List (Nat × Cond)} (h : ev_nok T nd = true) {own C n d : String} {idx : Nat} (hw : ev_hasF nd own idx C n d = true) : ∃ host, Cond.fieldLinkNest own idx C n d host ∈ T.filter ev_isN := by
  unfold ev_hasF at hw
  rw [List.any_eq_true] at hw
  obtain ⟨⟨i, w⟩, h1, h2⟩ := hw
  have h3 := ev_nok_in h h1
  dsimp only at h2 h3
  split at h2
  · rename_i a j x n' d' host
    simp only [Bool.and_eq_true, decide_eq_true_eq] at h2
    obtain ⟨⟨⟨⟨rfl, rfl⟩, rfl⟩, rfl⟩, rfl⟩ := h2
    exact ⟨host, List.mem_filter.mpr ⟨h3, rfl⟩⟩
  · cases h2
theorem ev_hasM_ok {T : List Cond} {nd : List (Nat × Cond)} (h : ev_nok T nd = true) {own : String} {idx : Nat} {y : MethodName} (hw : ev_hasM nd own idx y = true) : ∃ host, Cond.methodLinkNest own idx y host ∈ T.filter ev_isN := by
  unfold ev_hasM at hw
  rw [List.any_eq_true] at hw
  obtain ⟨⟨i, w⟩, h1, h2⟩ := hw
  have h3 := ev_nok_in h h1
  dsimp only at h2 h3
  split at h2
  · rename_i a j x host
    simp only [Bool.and_eq_true, decide_eq_true_eq] at h2
    obtain ⟨⟨rfl, rfl⟩, rfl⟩ := h2
    exact ⟨host, List.mem_filter.mpr ⟨h3, rfl⟩⟩
  · cases h2
/-- a method of the tables under its number -/
def ev_lm (PG : List ev_M) (u : Nat) (f : ev_M → Bool) : Bool := match ev_nth PG u with
  | some M' => f M'
  | none => false
def ev_lc (G : ev_G) (u : Nat) (f : vw_C → Bool) : Bool := match ev_nth G.1 u with
  | some r => f r
  | none => false
def ev_la (G : ev_G) (u : Nat) (f : String → Bool) : Bool := match ev_nth G.2.1 u with
  | some (.object n) => f n
  | _ => false
theorem ev_lm_ok {PG : List ev_M} {u : Nat} {f : ev_M → Bool} (h : ev_lm PG u f = true) : ∃ M', PG[u]? = some M' ∧ f M' = true := by
  unfold ev_lm at h
  split at h
  · rename_i M' hM
    rw [ev_nth_eq] at hM
    exact ⟨M', hM, h⟩
  · cases h
theorem ev_lc_ok {G : ev_G} {u : Nat} {f : vw_C → Bool} (h : ev_lc G u f = true) : ∃ C T N, G.1[u]? = some (C, T, N) ∧ f (C, T, N) = true := by
  unfold ev_lc at h
  split at h
  · rename_i r hr
    rw [ev_nth_eq] at hr
    obtain ⟨C, T, N⟩ := r
    exact ⟨C, T, N, hr, h⟩
  · cases h
theorem ev_la_ok {G : ev_G} {u : Nat} {f : String → Bool} (h : ev_la G u f = true) : ∃ n, G.2.1[u]? = some (.object n) ∧ f n = true := by
  unfold ev_la at h
  split at h
  · rename_i n hn
    rw [ev_nth_eq] at hn
    exact ⟨n, hn, h⟩
  · cases h
def ev_lchk (AO : List String) (G : ev_G) (TY : Nat → Nat → FieldType) (PG : List ev_M) (nd : List (Nat × Cond)) (own : String) (kd : Nat) (E : ev_E) : Bool := match E.1 with
  | .getfield idx => ev_lc G E.2.2.1 fun r => decide (E.2.2.2.1 < r.2.2) && decide ((r.2.1 E.2.2.2.1).1 = r.1) && (ev_has nd (.fieldLink own idx r.1 (r.2.1 E.2.2.2.1).2.1 (r.2.1 E.2.2.2.1).2.2.1) || ev_hasF nd own idx r.1 (r.2.1 E.2.2.2.1).2.1 (r.2.1 E.2.2.2.1).2.2.1)
  | .putfield idx => ev_lc G E.2.2.1 fun r => decide (E.2.2.2.1 < r.2.2) && decide ((r.2.1 E.2.2.2.1).1 = r.1) && (ev_has nd (.fieldLink own idx r.1 (r.2.1 E.2.2.2.1).2.1 (r.2.1 E.2.2.2.1).2.2.1) || (ev_hasF nd own idx r.1 (r.2.1 E.2.2.2.1).2.1 (r.2.1 E.2.2.2.1).2.2.1 && decide ((r.2.1 E.2.2.2.1).2.2.2 = false))) && (decide ((r.2.1 E.2.2.2.1).2.2.2 = false) || (decide (r.1 = own) && decide (kd = 2))) && decide (ev_fs (TY E.2.2.1 E.2.2.2.1) = E.2.2.2.2.toNat)
  | .new idx => ev_lc G E.2.2.1 fun r => ev_has nd (.classLink own idx r.1) && ev_has nd (.instantiable r.1 r.2.2) && ev_has nd (.initialized r.1)
  | .newarray a => decide (ev_nth G.2.1 E.2.2.1 = some (newarray.typeOf a)) && decide (ev_fs (newarray.typeOf a) < 3) && ev_has nd (.arrayClass (newarray.typeOf a))
  | .anewarray idx => ev_la G E.2.2.1 fun n => ev_has nd (.classLink own idx n) && decide (n ∈ AO)
  | .ldc idx => ev_has nd (.constant own idx (Int32.ofInt E.2.2.2.2))
  | .ldc2_w idx => ev_has nd (.constantLong own idx (Int64.ofInt E.2.2.2.2))
  | .invokevirtual idx => ev_lm PG E.2.2.1 fun M' => ev_has nd (.methodLink own idx (ev_mN M')) && ev_lc G E.2.2.2.1 fun r => decide (r.1 = (ev_mN M').cls)
  | .invokestatic idx => if E.2.2.1 == 998 then ev_has nd (.methodLink own idx Lib.Math.max.name) && ev_has nd (.static Lib.Math.max.name) && ev_has nd (.initialized "java/lang/Math") && ev_has nd (.code Lib.Math.max.name Lib.Math.max.code 2 (some .int)) else if E.2.2.1 == 997 then ev_has nd (.methodLink own idx Lib.Math.min.name) && ev_has nd (.static Lib.Math.min.name) && ev_has nd (.initialized "java/lang/Math") && ev_has nd (.code Lib.Math.min.name Lib.Math.min.code 2 (some .int)) else decide (E.2.2.1 < 900) && ev_lm PG E.2.2.1 fun M' => ev_has nd (.methodLink own idx (ev_mN M'))
  | .invokespecial idx => if E.2.2.1 == 999 then ev_has nd (.methodLink own idx objectInit) && ev_has nd (.instanceMethod objectInit) && ev_has nd (.code objectInit ⟨#[0xb1]⟩ 1 none) else ev_lm PG E.2.2.1 fun M' => ev_has nd (.methodLink own idx (ev_mN M')) || ev_hasM nd own idx (ev_mN M')
  | _ => true
theorem ev_lchk_ok {T : List Cond} {AO : List String} {G : ev_G} {TY : Nat → Nat → FieldType} {PG : List ev_M} {nd : List (Nat × Cond)} {own : String} {kd : Nat} {E : ev_E} (hn : ev_nok T nd = true) (h : ev_lchk AO G TY PG nd own kd E = true) : ev_lok (T.filter goodWord) (T.filter ev_isN) AO G TY PG own kd E := by
  obtain ⟨ins, len, u, v, z⟩ := E
  cases ins
  case getfield idx =>
    obtain ⟨C, T', N, h1, h2⟩ := ev_lc_ok h
    simp only [Bool.and_eq_true, decide_eq_true_eq, Bool.or_eq_true] at h2
    refine ⟨C, T', N, h1, h2.1.1, h2.1.2, ?_⟩
    rcases h2.2 with q | q
    · exact Or.inl (ev_has_ok hn q)
    · exact Or.inr (ev_hasF_ok hn q)
  case putfield idx =>
    obtain ⟨C, T', N, h1, h2⟩ := ev_lc_ok h
    simp only [Bool.and_eq_true, decide_eq_true_eq, Bool.or_eq_true] at h2
    obtain ⟨⟨⟨⟨q1, q2⟩, q3⟩, q4⟩, q5⟩ := h2
    refine ⟨C, T', N, h1, q1, q2, ?_, ?_, q5⟩
    · rcases q3 with q | ⟨q, q'⟩
      · exact Or.inl (ev_has_ok hn q)
      · exact Or.inr ⟨ev_hasF_ok hn q, q'⟩
    · intro hf
      rcases q4 with q | q
      · dsimp only at hf
        rw [hf] at q; cases q
      · exact q
  case new idx =>
    obtain ⟨C, T', N, h1, h2⟩ := ev_lc_ok h
    simp only [Bool.and_eq_true] at h2
    exact ⟨C, T', N, h1, ev_has_ok hn h2.1.1, ev_has_ok hn h2.1.2, ev_has_ok hn h2.2⟩
  case newarray a =>
    simp only [ev_lchk, Bool.and_eq_true, decide_eq_true_eq, ev_nth_eq] at h
    exact ⟨h.1.1, h.1.2, ev_has_ok hn h.2⟩
  case anewarray idx =>
    obtain ⟨n, h1, h2⟩ := ev_la_ok h
    simp only [Bool.and_eq_true, decide_eq_true_eq] at h2
    exact ⟨n, h1, ev_has_ok hn h2.1, h2.2⟩
  case ldc idx => exact ev_has_ok hn h
  case ldc2_w idx => exact ev_has_ok hn h
  case invokevirtual idx =>
    obtain ⟨M', h1, h2⟩ := ev_lm_ok h
    rw [Bool.and_eq_true] at h2
    obtain ⟨C, T', N, h3, h4⟩ := ev_lc_ok h2.2
    rw [decide_eq_true_eq] at h4
    dsimp only at h4
    subst h4
    exact ⟨M', h1, ev_has_ok hn h2.1, T', N, h3⟩
  case invokestatic idx =>
    simp only [ev_lchk] at h
    split at h
    · rename_i hu
      simp only [Bool.and_eq_true] at h
      exact Or.inl ⟨by simpa using hu, ev_has_ok hn h.1.1.1, ev_has_ok hn h.1.1.2, ev_has_ok hn h.1.2, ev_has_ok hn h.2⟩
    · split at h
      · rename_i hu
        simp only [Bool.and_eq_true] at h
        exact Or.inr (Or.inl ⟨by simpa using hu, ev_has_ok hn h.1.1.1, ev_has_ok hn h.1.1.2, ev_has_ok hn h.1.2, ev_has_ok hn h.2⟩)
      · rw [Bool.and_eq_true, decide_eq_true_eq] at h
        obtain ⟨M', h1, h2⟩ := ev_lm_ok h.2
        exact Or.inr (Or.inr ⟨h.1, M', h1, ev_has_ok hn h2⟩)
  case invokespecial idx =>
    simp only [ev_lchk] at h
    split at h
    · rename_i hu
      simp only [Bool.and_eq_true] at h
      exact Or.inl ⟨by simpa using hu, ev_has_ok hn h.1.1, ev_has_ok hn h.1.2, ev_has_ok hn h.2⟩
    · rename_i hu
      obtain ⟨M', h1, h2⟩ := ev_lm_ok h
      rw [Bool.or_eq_true] at h2
      refine Or.inr ⟨by simpa using hu, M', h1, ?_⟩
      rcases h2 with q | q
      · exact Or.inl (ev_has_ok hn q)
      · exact Or.inr (ev_hasM_ok hn q)
  all_goals exact trivial
/-- a method's instructions are its bytes, and its words stand in the tables -/
def ev_cchk (AO : List String) (G : ev_G) (TY : Nat → Nat → FieldType) (PG : List ev_M) (nd : List (Nat × Cond)) (M : ev_M) : Bool := (List.range (32 * (ev_mC M).length)).all fun pc => match ev_at M pc with
  | none => true
  | some E => decide (decode (ev_mB M) pc = .ok (E.1, E.2.1)) && ev_lchk AO G TY PG nd (ev_mN M).cls (ev_mK M) E
def ev_hchk (nd : List (Nat × Cond)) (M : ev_M) : Bool := plainName (ev_mN M).cls && ev_has nd (.code (ev_mN M) (ev_mB M) (ev_mL M) (ev_mR M)) && ev_has nd (.initialized (ev_mN M).cls) && decide ((ev_mN M).cls ≠ "java/lang/invoke/MethodHandle") && decide ((ev_mN M).cls ≠ "java/lang/invoke/VarHandle") && decide ((parseMethodDescriptor (ev_mN M).desc).map (fun d => d.parameters.length) = some (ev_mP M)) && (match ev_mK M % 10 with
  | 0 => ev_has nd (.static (ev_mN M))
  | 1 => ev_has nd (.instanceMethod (ev_mN M)) && ev_has nd (.selects (ev_mN M).cls (ev_mN M) (ev_mN M))
  | _ => decide ((ev_mN M).name = "<init>") && ev_has nd (.instanceMethod (ev_mN M)) && decide (ev_mR M = none))
theorem ev_at_lt {M : ev_M} {pc : Nat} {E : ev_E} (h : ev_at M pc = some E) : pc < 32 * (ev_mC M).length := by
  unfold ev_at at h
  split at h
  · rename_i ch hch
    rw [ev_nth_eq] at hch
    have := (List.getElem?_eq_some_iff.mp hch).1
    omega
  · cases h
theorem ev_mchk_ok {T : List Cond} {AO : List String} {G : ev_G} {TY : Nat → Nat → FieldType} {PG : List ev_M} (nd : List (Nat × Cond)) {M : ev_M} (hn : ev_nok T nd = true) (h1 : ev_hchk nd M = true) (h2 : ev_cchk AO G TY PG nd M = true) : ev_mok (T.filter goodWord) (T.filter ev_isN) AO G TY PG M := by
  unfold ev_hchk at h1
  simp only [Bool.and_eq_true, decide_eq_true_eq] at h1
  obtain ⟨⟨⟨⟨⟨⟨a1, a2⟩, a3⟩, a4⟩, a5⟩, a6⟩, a7⟩ := h1
  refine ⟨a1, ev_has_ok hn a2, ev_has_ok hn a3, ⟨a4, a5, a6⟩, fun q => ?_, fun q => ?_, fun q => ?_, fun pc E hE => ?_⟩
  · rw [q] at a7
    exact ev_has_ok hn a7
  · rw [q] at a7
    have a8 : (ev_has nd (.instanceMethod (ev_mN M)) && ev_has nd (.selects (ev_mN M).cls (ev_mN M) (ev_mN M))) = true := a7
    rw [Bool.and_eq_true] at a8
    exact ⟨ev_has_ok hn a8.1, ev_has_ok hn a8.2⟩
  · rw [q] at a7
    have a8 : (decide ((ev_mN M).name = "<init>") && ev_has nd (.instanceMethod (ev_mN M)) && decide (ev_mR M = none)) = true := a7
    rw [Bool.and_eq_true, Bool.and_eq_true, decide_eq_true_eq, decide_eq_true_eq] at a8
    exact ⟨a8.1.1, ev_has_ok hn a8.1.2, a8.2⟩
  · have h3 := List.all_eq_true.mp h2 pc (List.mem_range.mpr (ev_at_lt hE))
    rw [hE] at h3
    dsimp only at h3
    rw [Bool.and_eq_true, decide_eq_true_eq] at h3
    exact ⟨h3.1, ev_lchk_ok hn h3.2⟩
theorem ev_dchk_ok {T : List Cond} {AO : List String} {G : ev_G} {TY : Nat → Nat → FieldType} {PG : List ev_M} (nd : List (Nat × Cond)) {M : ev_M} (hn : ev_nok T nd = true) (h2 : ev_cchk AO G TY PG nd M = true) (pc : Nat) (E : ev_E) (hE : ev_at M pc = some E) : decode (ev_mB M) pc = .ok (E.1, E.2.1) ∧ ev_lok (T.filter goodWord) (T.filter ev_isN) AO G TY PG (ev_mN M).cls (ev_mK M) E := by
  have h3 := List.all_eq_true.mp h2 pc (List.mem_range.mpr (ev_at_lt hE))
  rw [hE] at h3
  dsimp only at h3
  rw [Bool.and_eq_true, decide_eq_true_eq] at h3
  exact ⟨h3.1, ev_lchk_ok hn h3.2⟩
