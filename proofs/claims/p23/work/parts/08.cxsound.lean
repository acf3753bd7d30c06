/-! what cx_ins asks for is enough -/
theorem cx_ldI_ok : ∀ {lv : cx_L} {i : Nat} {f : Int → Prop}, cx_ldI lv i f → ∃ n, lv[i]? = some (some (.inl n)) ∧ f n
  | [], _, _, h => by simp [cx_ldI] at h
  | none :: _, 0, _, h => by simp [cx_ldI] at h
  | some (.inl n) :: _, 0, _, h => ⟨n, rfl, h⟩
  | some (.inr _) :: _, 0, _, h => by simp [cx_ldI] at h
  | o :: r, i + 1, f, h => by
    have h : cx_ldI r i f := by simpa [cx_ldI] using h
    obtain ⟨n, e1, e2⟩ := cx_ldI_ok h
    exact ⟨n, by simpa using e1, e2⟩
theorem cx_ldJ_ok : ∀ {lv : cx_L} {i : Nat} {f : Int64 → Prop}, cx_ldJ lv i f → ∃ n, lv[i]? = some (some (.inr (.inl n))) ∧ f n
  | [], _, _, h => by simp [cx_ldJ] at h
  | none :: _, 0, _, h => by simp [cx_ldJ] at h
  | some (.inl n) :: _, 0, _, h => by simp [cx_ldJ] at h
  | some (.inr (.inl n)) :: _, 0, _, h => ⟨n, rfl, h⟩
  | some (.inr (.inr _)) :: _, 0, _, h => by simp [cx_ldJ] at h
  | o :: r, i + 1, f, h => by
    have h : cx_ldJ r i f := by simpa [cx_ldJ] using h
    obtain ⟨n, e1, e2⟩ := cx_ldJ_ok h
    exact ⟨n, by simpa using e1, e2⟩
theorem cx_ldA_ok : ∀ {lv : cx_L} {i : Nat} {f : Option Nat → Prop}, cx_ldA lv i f → ∃ n, lv[i]? = some (some (.inr (.inr n))) ∧ f n
  | [], _, _, h => by simp [cx_ldA] at h
  | none :: _, 0, _, h => by simp [cx_ldA] at h
  | some (.inl n) :: _, 0, _, h => by simp [cx_ldA] at h
  | some (.inr (.inr n)) :: _, 0, _, h => ⟨n, rfl, h⟩
  | some (.inr (.inl _)) :: _, 0, _, h => by simp [cx_ldA] at h
  | o :: r, i + 1, f, h => by
    have h : cx_ldA r i f := by simpa [cx_ldA] using h
    obtain ⟨n, e1, e2⟩ := cx_ldA_ok h
    exact ⟨n, by simpa using e1, e2⟩
theorem cx_has_lt : ∀ {lv : cx_L} {i : Nat}, cx_has lv i → i < lv.length
  | [], _, h => by simp [cx_has] at h
  | _ :: _, 0, _ => by simp
  | _ :: r, i + 1, h => by
    have := cx_has_lt (lv := r) (i := i) (by simpa [cx_has] using h)
    simp only [List.length_cons]; omega
theorem cx_relI {cd : ClassFile.Cond} {x y : Int32} {a b : Int} (hx : x.toInt = a) (hy : y.toInt = b) : cx_rel cd a b ↔ (match cd with
    | .eq => x = y
    | .ne => x ≠ y
    | .lt => x < y
    | .ge => x ≥ y
    | .gt => x > y
    | .le => x ≤ y) := by
  subst hx hy
  have e1 : (x = y ↔ x.toInt = y.toInt) := Int32.toInt_inj.symm
  cases cd
  · exact e1.symm
  · exact not_congr e1.symm
  · exact Int32.lt_iff_toInt_lt.symm
  · exact Int32.le_iff_toInt_le.symm
  · exact Int32.lt_iff_toInt_lt.symm
  · exact Int32.le_iff_toInt_le.symm
theorem cx_ofI {x : Int32} {a : Int} (h : x.toInt = a) : Int32.ofInt a = x := by rw [← h, Int32.ofInt_toInt]
theorem cx_opI (f : Int32 → Int32 → Int32) {x y : Int32} {a b : Int} (hx : x.toInt = a) (hy : y.toInt = b) : cx_g (.int (f x y)) (.inl (cx_bi f a b)) := ⟨_, rfl, by unfold cx_bi; rw [cx_ofI hx, cx_ofI hy]⟩
theorem cx_addI {x y : Int32} {a b : Int} (hx : x.toInt = a) (hy : y.toInt = b) (h : cx_rg (a + b)) : (x + y).toInt = a + b := by
  subst hx hy
  unfold cx_rg at h
  rw [Int32.toInt_add, Int.bmod_def]
  split <;> omega
theorem cx_subI {x y : Int32} {a b : Int} (hx : x.toInt = a) (hy : y.toInt = b) (h : cx_rg (a - b)) : (x - y).toInt = a - b := by
  subst hx hy
  unfold cx_rg at h
  rw [Int32.toInt_sub, Int.bmod_def]
  split <;> omega
theorem cx_mulI {x y : Int32} {a b : Int} (hx : x.toInt = a) (hy : y.toInt = b) (h : cx_rg (a * b)) : (x * y).toInt = a * b := by
  subst hx hy
  unfold cx_rg at h
  rw [Int32.toInt_mul, Int.bmod_def]
  split <;> omega
theorem cx_i2lI {x : Int32} {a : Int} (h : x.toInt = a) : x.toInt64 = Int64.ofInt a := by
  rw [← h]
  apply Int64.toInt_inj.mp
  rw [Int32.toInt_toInt64]
  have h1 := Int32.minValue_le_toInt x
  have h2 := Int32.toInt_le x
  have h3 : Int32.minValue.toInt = -2147483648 := rfl
  have h4 : Int32.maxValue.toInt = 2147483647 := rfl
  rw [Int64.toInt_ofInt_of_le] <;> omega
theorem cx_swf_at {pc : Nat} {J : Nat → Prop} : ∀ {os : List Int} {k x : Int}, cx_swf pc J os k x → ∀ {j : Nat} {off : Int}, os[j]? = some off → x = k + j → J (cx_tgt pc off)
  | [], _, _, _, j, off, hj, _ => by simp at hj
  | o :: os, k, x, h, 0, off, hj, hx => by
    have e : o = off := by simpa using hj
    subst e
    exact h.1 (by simpa using hx)
  | o :: os, k, x, h, j + 1, off, hj, hx => cx_swf_at h.2 (j := j) (off := off) (by simpa using hj) (by push_cast at hx; omega)
theorem cx_rtf_ok {ins : Instr} {ty : Option FieldType} {st : List cx_V} {P : Option cx_V → Prop} (h : cx_rtf ins ty st P) : ∃ a, P a ∧ cx_rtf ins ty st (fun x => x = a) := by
  unfold cx_rtf at h
  split at h
  · exact ⟨none, h, rfl⟩
  · exact ⟨_, h, rfl⟩
  · exact ⟨_, h.2, h.1, rfl⟩
  · exact ⟨_, h, rfl⟩
  · exact ⟨_, h, rfl⟩
  · exact ⟨_, h, rfl⟩
  · exact h.elim
theorem cx_wr_ok {z : Nat} {h : cx_Q} {i : Nat} {j : Int} {a : cx_V} {k : cx_Q → Prop} (q : cx_wr z h i j a k) : ∃ h', cq_put z h i j a h' ∧ k h' := by
  unfold cx_wr at q
  split at q
  · exact ⟨_, ⟨_, rfl, rfl⟩, q⟩
  · exact ⟨_, ⟨_, rfl, rfl⟩, q⟩
  · exact ⟨_, ⟨_, rfl, q.1, rfl⟩, q.2⟩
  · exact ⟨_, ⟨_, rfl, rfl⟩, q⟩
  · exact q.elim
section CXS
variable {l : Launch} {B b L : Nat} {xs : Nat → Int32} {D : va_G} {tys : List (ClassId × FieldType)} {Tg Tn : List Cond} {AO : List String} {G : ev_G} {TY : Nat → Nat → FieldType} {ra : cx_A} {PG : List ev_M} {M : ev_M} {P : Option cx_V → cx_Q → Prop}
variable {lv : cx_L} {st : List cx_V} {h : cx_Q} {bc bs pc : Nat}
/-- what a method known as a function of the stack must do -/
def cx_pok (Tg Tn : List Cond) (AO : List String) (G : ev_G) (TY : Nat → Nat → FieldType) (ra : cx_A) (PG : List ev_M) (l : Launch) (D : va_G) (tys : List (ClassId × FieldType)) (B b L : Nat) (xs : Nat → Int32) (u : Nat) (f : List cx_V → (List cx_V → Prop) → Prop) : Prop :=
  u < 900 ∧ ∀ (st : List cx_V) (k : List cx_V → Prop), f st k → ∃ (M' : ev_M) (a : cx_V), PG[u]? = some M' ∧ (st.take (ev_mP M')).length = ev_mP M' ∧ cx_sz (st.take (ev_mP M')) ≤ ev_mL M' ∧ cx_sz (st.drop (ev_mP M')) ≤ 8 ∧ ev_mY M' = 0 ∧ ev_mS M' = 0 ∧ k (a :: st.drop (ev_mP M')) ∧
    ∀ (h : cx_Q) (K : Option cx_V → cx_Q → Prop), K (some a) h → cx_W Tg Tn AO G TY ra l D tys B b L xs M' K 0 (cx_ent (ev_mL M') (st.take (ev_mP M')).reverse) [] h 0 0
set_option maxHeartbeats 4000000 in
theorem cx_ins_ok {pf : cx_Pf} {E : ev_E} {nx : cx_Nx} (Fx : cx_Fx Tg Tn AO G TY ra PG tys) (hmd : ∀ M ∈ PG, cx_md Tg Tn AO G TY ra PG M) (hpf : ∀ u f, pf u = some f → cx_pok Tg Tn AO G TY ra PG l D tys B b L xs u f) (hat : ev_at M pc = some E) (hd : decode (ev_mB M) pc = .ok (E.1, E.2.1)) (lk : ev_lok Tg Tn AO G TY PG (ev_mN M).cls (ev_mK M) E) (hse : cx_sE G TY ra PG M pc E = true)
    (hw : cx_ins ra pf (ev_mF M) (ev_mO M) (ev_mR M) (cx_W Tg Tn AO G TY ra l D tys B b L xs M P) (cx_cl Tg Tn AO G TY ra l D tys B b L xs PG M P) P E pc lv st h bc bs nx) (kk : ∀ lv' st' h' bc' bs', nx lv' st' h' bc' bs' → cx_W Tg Tn AO G TY ra l D tys B b L xs M P (pc + E.2.1) lv' st' h' bc' bs') : cx_W Tg Tn AO G TY ra l D tys B b L xs M P pc lv st h bc bs := by
  obtain ⟨ins, len, u, v, z⟩ := E
  dsimp only at hd kk
  by_cases hcall : (∃ idx, ins = .invokevirtual idx) ∨ ((∃ idx, ins = .invokestatic idx) ∧ u ≠ 998 ∧ u ≠ 997) ∨ ((∃ idx, ins = .invokespecial idx) ∧ u ≠ 999)
  · rcases hcall with ⟨idx, rfl⟩ | ⟨⟨idx, rfl⟩, hu1, hu2⟩ | ⟨⟨idx, rfl⟩, hu1⟩
    · simp only [cx_sE, Bool.and_eq_true, beq_iff_eq] at hse
      obtain ⟨rfl, hsc⟩ := hse
      exact cx_call_ok Fx hmd (Or.inr (Or.inl ⟨rfl, rfl⟩)) hd lk hsc hw
    · simp only [cx_sE, Bool.and_eq_true, Bool.or_eq_true, beq_iff_eq] at hse
      obtain ⟨rfl, hsc⟩ := hse
      have hsc : cx_sc PG M 0 u z.toNat = true := by
        rcases hsc with (q | q) | q
        · exact absurd q hu1
        · exact absurd q hu2
        · exact q
      simp only [cx_ins] at hw
      split at hw
      · rename_i f hf
        obtain ⟨hu9, hfun⟩ := hpf u f hf
        obtain ⟨M', a, g1, g2, g3, g4, g5, g6, g7, g8⟩ := hfun st _ hw
        have hnn : z.toNat = ev_mP M' := by
          unfold cx_sc at hsc
          rw [ev_nth_eq, g1] at hsc
          simp only [Bool.and_eq_true, decide_eq_true_eq] at hsc
          simpa using hsc.1.1.2
        refine cx_call_ok Fx hmd (Or.inl ⟨rfl, rfl⟩) hd lk hsc ?_
        rw [hnn]
        refine ⟨M', g1, by simpa using g2, g3, g4, by omega, by omega, fun q => absurd rfl q, ?_⟩
        rw [g5, g6]
        exact g8 h _ (kk _ _ _ _ _ g7)
      · exact cx_call_ok Fx hmd (Or.inl ⟨rfl, rfl⟩) hd lk hsc hw
    · simp only [cx_sE, Bool.and_eq_true, Bool.or_eq_true, beq_iff_eq] at hse
      obtain ⟨rfl, hsc⟩ := hse
      have hsc : cx_sc PG M 2 u z.toNat = true := by
        rcases hsc with q | q
        · exact absurd q hu1
        · exact q
      simp only [cx_ins] at hw
      exact cx_call_ok Fx hmd (Or.inr (Or.inr ⟨rfl, rfl⟩)) hd lk hsc hw
  intro p e R s m args below meth c Q H locs cells slots ls cst mc ms X hl h1 hR hL hS hc hs hmc hms hF hO hRH
  have go : ∀ (lv' : cx_L) (st' : List cx_V) (ls' : Array Slot) (cst' : List Value), nx lv' st' h bc bs → cx_lv ls' (ev_mL M) lv' → cx_g1 cst' st' → W p l e R s m args below meth c H locs cells slots Q (F0 m (pc + len) ls' cst') := fun lv' st' ls' cst' q a1 a2 => kk lv' st' h bc bs q p e R s m args below meth c Q H locs cells slots ls' cst' mc ms X a1 a2 hR hL hS hc hs hmc hms hF hO hRH
  have goJ : ∀ (t : Nat) (st' : List cx_V) (cst' : List Value), cx_W Tg Tn AO G TY ra l D tys B b L xs M P t lv st' h bc bs → cx_g1 cst' st' → W p l e R s m args below meth c H locs cells slots Q (F0 m t ls cst') := fun t st' cst' q a2 => q p e R s m args below meth c Q H locs cells slots ls cst' mc ms X hl a2 hR hL hS hc hs hmc hms hF hO hRH
  have goH : ∀ (st' : List cx_V) (cst' : List Value) (h' : cx_Q) (H' : Heap) (locs' : List Loc) (bc' bs' cells' slots' : Nat), nx lv st' h' bc' bs' → cx_g1 cst' st' → cx_R ra D G.1 tys TY B b L xs h' H' → ev_Lo B s.heap H' locs' → cells' + bc' ≤ cells + bc → slots' + bs' ≤ slots + bs → W p l e R s m args below meth c H' locs' cells' slots' Q (F0 m (pc + len) ls cst') := fun st' cst' h' H' locs' bc' bs' cells' slots' q a2 a3 a4 a5 a6 => kk lv st' h' bc' bs' q p e R s m args below meth c Q H' locs' cells' slots' ls cst' mc ms X hl a2 a3 a4 hS (by omega) (by omega) hmc hms hF hO hRH
  have X0 := X
  obtain ⟨hx, hb, hml, hown, hts, hret, hlocks, hin0, hK, hNw, hAO⟩ := X
  obtain ⟨f1, f2, f3, f4, f5⟩ := Fx.1
  have f98 := Fx.2.1
  have ht := Fx.2.2.2.1
  obtain ⟨r1, r2, r3, r4⟩ := Fx.2.2.2.2.2
  have tgt : ∀ off : Int, cx_tg pc off = true → (pc : Int) + off = ((cx_tgt pc off : Nat) : Int) := fun off q => by
    unfold cx_tg at q
    rw [decide_eq_true_eq] at q
    unfold cx_tgt
    omega
  cases ins
  case iconst n =>
    simp only [cx_sE, Bool.and_eq_true, beq_iff_eq, decide_eq_true_eq] at hse
    obtain ⟨rfl, hn⟩ := hse
    exact lv_iconst hx hb hd rfl (go _ _ _ _ hw hl ⟨⟨_, rfl, hn⟩, h1⟩)
  case bipush n =>
    simp only [cx_sE, Bool.and_eq_true, beq_iff_eq, decide_eq_true_eq] at hse
    obtain ⟨rfl, hn⟩ := hse
    exact lv_bipush hx hb hd rfl (go _ _ _ _ hw hl ⟨⟨_, rfl, hn⟩, h1⟩)
  case sipush n =>
    simp only [cx_sE, Bool.and_eq_true, beq_iff_eq, decide_eq_true_eq] at hse
    obtain ⟨rfl, hn⟩ := hse
    exact lv_sipush hx hb hd rfl (go _ _ _ _ hw hl ⟨⟨_, rfl, hn⟩, h1⟩)
  case ldc idx =>
    simp only [cx_sE, Bool.and_eq_true, beq_iff_eq, decide_eq_true_eq] at hse
    obtain ⟨rfl, hn⟩ := hse
    exact lv_ldc hx hb hown (hts _ lk) hd (go _ _ _ _ hw hl ⟨⟨_, rfl, hn⟩, h1⟩)
  case lconst n =>
    simp only [cx_sE, Bool.and_eq_true, beq_iff_eq, decide_eq_true_eq] at hse
    obtain ⟨rfl, hn⟩ := hse
    exact lv_lconst hx hb hd hn (go _ _ _ _ hw hl ⟨rfl, h1⟩)
  case ldc2_w idx =>
    simp only [cx_sE, beq_iff_eq] at hse
    subst hse
    exact lv_ldc2 hx hb hown (hts _ lk) hd (go _ _ _ _ hw hl ⟨rfl, h1⟩)
  case aconst_null =>
    have hlen : len = 1 := by simpa [cx_sE] using hse
    subst hlen
    exact lv_null hx hb hd (go _ _ _ _ hw hl ⟨rfl, h1⟩)
  case iload_n k =>
    have hlen : len = 1 := by simpa [cx_sE] using hse
    subst hlen
    obtain ⟨n, e1, hn⟩ := cx_ldI_ok hw
    obtain ⟨w, e2, e3⟩ := hl.2.2.2 _ _ e1
    obtain ⟨x, rfl, e4⟩ := cx_int e3
    exact lv_iload_n hx hb hd rfl e2 (go _ _ _ _ hn hl ⟨⟨x, rfl, e4⟩, h1⟩)
  case lload_n k =>
    have hlen : len = 1 := by simpa [cx_sE] using hse
    subst hlen
    obtain ⟨n, e1, hn⟩ := cx_ldJ_ok hw
    obtain ⟨w, e2, e3⟩ := hl.2.2.2 _ _ e1
    cases cx_long e3
    exact lv_lload_n hx hb hd rfl e2 (go _ _ _ _ hn hl ⟨rfl, h1⟩)
  case aload_n k =>
    have hlen : len = 1 := by simpa [cx_sE] using hse
    subst hlen
    obtain ⟨n, e1, hn⟩ := cx_ldA_ok hw
    obtain ⟨w, e2, e3⟩ := hl.2.2.2 _ _ e1
    cases n with
    | none =>
      cases cx_null e3
      exact lv_aload_nN hx hb hd rfl e2 (go _ _ _ _ hn hl ⟨rfl, h1⟩)
    | some i =>
      cases cx_ref e3
      exact lv_aload_n hx hb hd rfl e2 (go _ _ _ _ hn hl ⟨rfl, h1⟩)
  case istore_n k =>
    have hlen : len = 1 := by simpa [cx_sE] using hse
    subst hlen
    simp only [cx_ins] at hw
    split at hw
    · obtain ⟨hh, hn⟩ := hw
      obtain ⟨w, ws, rfl, e1, g1⟩ := cx_cons h1
      obtain ⟨x, rfl, e4⟩ := cx_int e1
      obtain ⟨clv, c1, c2⟩ := cx_lv_ex hl
      exact lv_istore_n hx hb hd rfl c1 (Nat.lt_of_lt_of_le (cx_has_lt hh) hl.2.1) rfl (fun ls' hl' => go _ _ _ _ hn (cx_lv_put1 hl.2.1 hl' c2 ⟨x, rfl, e4⟩) g1)
    · exact hw.elim
  case lstore_n k =>
    have hlen : len = 1 := by simpa [cx_sE] using hse
    subst hlen
    simp only [cx_ins] at hw
    split at hw
    · obtain ⟨hh, hn⟩ := hw
      obtain ⟨w, ws, rfl, e1, g1⟩ := cx_cons h1
      cases cx_long e1
      obtain ⟨clv, c1, c2⟩ := cx_lv_ex hl
      exact lv_lstore_n hx hb hd rfl c1 (Nat.lt_of_lt_of_le (cx_has_lt hh) hl.2.1) rfl (fun ls' hl' => go _ _ _ _ hn (cx_lv_put2 hl.2.1 hl' c2 rfl) g1)
    · exact hw.elim
  case astore_n k =>
    have hlen : len = 1 := by simpa [cx_sE] using hse
    subst hlen
    simp only [cx_ins] at hw
    split at hw
    · rename_i n r
      obtain ⟨hh, hn⟩ := hw
      obtain ⟨w, ws, rfl, e1, g1⟩ := cx_cons h1
      obtain ⟨clv, c1, c2⟩ := cx_lv_ex hl
      cases n with
      | none =>
        cases cx_null e1
        exact lv_astore_nN hx hb hd rfl c1 (Nat.lt_of_lt_of_le (cx_has_lt hh) hl.2.1) rfl (fun ls' hl' => go _ _ _ _ hn (cx_lv_put1 hl.2.1 hl' c2 rfl) g1)
      | some i =>
        cases cx_ref e1
        exact lv_astore_n hx hb hd rfl c1 (Nat.lt_of_lt_of_le (cx_has_lt hh) hl.2.1) rfl (fun ls' hl' => go _ _ _ _ hn (cx_lv_put1 hl.2.1 hl' c2 rfl) g1)
    · exact hw.elim
  case iload k =>
    simp only [cx_sE, beq_iff_eq] at hse
    subst hse
    obtain ⟨n, e1, hn⟩ := cx_ldI_ok hw
    obtain ⟨w, e2, e3⟩ := hl.2.2.2 _ _ e1
    obtain ⟨x, rfl, e4⟩ := cx_int e3
    exact lv_iload hx hb hd e2 (go _ _ _ _ hn hl ⟨⟨x, rfl, e4⟩, h1⟩)
  case lload k =>
    simp only [cx_sE, beq_iff_eq] at hse
    subst hse
    obtain ⟨n, e1, hn⟩ := cx_ldJ_ok hw
    obtain ⟨w, e2, e3⟩ := hl.2.2.2 _ _ e1
    cases cx_long e3
    exact lv_lload hx hb hd e2 (go _ _ _ _ hn hl ⟨rfl, h1⟩)
  case aload k =>
    simp only [cx_sE, beq_iff_eq] at hse
    subst hse
    obtain ⟨n, e1, hn⟩ := cx_ldA_ok hw
    obtain ⟨w, e2, e3⟩ := hl.2.2.2 _ _ e1
    cases n with
    | none =>
      cases cx_null e3
      exact lv_aloadN hx hb hd e2 (go _ _ _ _ hn hl ⟨rfl, h1⟩)
    | some i =>
      cases cx_ref e3
      exact lv_aload hx hb hd e2 (go _ _ _ _ hn hl ⟨rfl, h1⟩)
  case istore k =>
    simp only [cx_sE, beq_iff_eq] at hse
    subst hse
    simp only [cx_ins] at hw
    split at hw
    · obtain ⟨hh, hn⟩ := hw
      obtain ⟨w, ws, rfl, e1, g1⟩ := cx_cons h1
      obtain ⟨x, rfl, e4⟩ := cx_int e1
      obtain ⟨clv, c1, c2⟩ := cx_lv_ex hl
      exact lv_istore hx hb hd c1 (Nat.lt_of_lt_of_le (cx_has_lt hh) hl.2.1) rfl (fun ls' hl' => go _ _ _ _ hn (cx_lv_put1 hl.2.1 hl' c2 ⟨x, rfl, e4⟩) g1)
    · exact hw.elim
  case lstore k =>
    simp only [cx_sE, beq_iff_eq] at hse
    subst hse
    simp only [cx_ins] at hw
    split at hw
    · obtain ⟨hh, hn⟩ := hw
      obtain ⟨w, ws, rfl, e1, g1⟩ := cx_cons h1
      cases cx_long e1
      obtain ⟨clv, c1, c2⟩ := cx_lv_ex hl
      exact lv_lstore hx hb hd c1 (Nat.lt_of_lt_of_le (cx_has_lt hh) hl.2.1) rfl (fun ls' hl' => go _ _ _ _ hn (cx_lv_put2 hl.2.1 hl' c2 rfl) g1)
    · exact hw.elim
  case astore k =>
    simp only [cx_sE, beq_iff_eq] at hse
    subst hse
    simp only [cx_ins] at hw
    split at hw
    · rename_i n r
      obtain ⟨hh, hn⟩ := hw
      obtain ⟨w, ws, rfl, e1, g1⟩ := cx_cons h1
      obtain ⟨clv, c1, c2⟩ := cx_lv_ex hl
      cases n with
      | none =>
        cases cx_null e1
        exact lv_astoreN hx hb hd c1 (Nat.lt_of_lt_of_le (cx_has_lt hh) hl.2.1) rfl (fun ls' hl' => go _ _ _ _ hn (cx_lv_put1 hl.2.1 hl' c2 rfl) g1)
      | some i =>
        cases cx_ref e1
        exact lv_astore hx hb hd c1 (Nat.lt_of_lt_of_le (cx_has_lt hh) hl.2.1) rfl (fun ls' hl' => go _ _ _ _ hn (cx_lv_put1 hl.2.1 hl' c2 rfl) g1)
    · exact hw.elim
  case iinc k n =>
    simp only [cx_sE, Bool.and_eq_true, beq_iff_eq, decide_eq_true_eq] at hse
    obtain ⟨rfl, hn0⟩ := hse
    obtain ⟨a, e1, hrg, hn⟩ := cx_ldI_ok hw
    obtain ⟨clv, c1, c2⟩ := cx_lv_ex hl
    obtain ⟨w, e2, e3⟩ := c2 _ _ e1
    obtain ⟨x, rfl, e4⟩ := cx_int e3
    obtain ⟨q, hq1, hq2⟩ := List.getElem_of_mem e2
    refine lv_iinc hx hb hd c1 (k := q) (by rw [List.getElem?_eq_getElem hq1, hq2]) rfl (Nat.lt_of_lt_of_le (List.getElem?_eq_some_iff.mp e1).1 hl.2.1) rfl (fun ls' hl' => go _ _ _ _ hn (cx_lv_put1 hl.2.1 hl' c2 ⟨_, rfl, cx_addI e4 hn0 hrg⟩) h1)
  case iadd =>
    have hlen : len = 1 := by simpa [cx_sE] using hse
    subst hlen
    simp only [cx_ins, cx_2r] at hw
    split at hw
    · obtain ⟨w0, ws, rfl, e0, g0⟩ := cx_cons h1
      obtain ⟨w, ws, rfl, e1, g1⟩ := cx_cons g0
      obtain ⟨y, rfl, y1⟩ := cx_int e0
      obtain ⟨x, rfl, x1⟩ := cx_int e1
      exact lv_iadd hx hb hd (go _ _ _ _ hw.2 hl ⟨⟨_, rfl, cx_addI x1 y1 hw.1⟩, g1⟩)
    · exact hw.elim
  case isub =>
    have hlen : len = 1 := by simpa [cx_sE] using hse
    subst hlen
    simp only [cx_ins, cx_2r] at hw
    split at hw
    · obtain ⟨w0, ws, rfl, e0, g0⟩ := cx_cons h1
      obtain ⟨w, ws, rfl, e1, g1⟩ := cx_cons g0
      obtain ⟨y, rfl, y1⟩ := cx_int e0
      obtain ⟨x, rfl, x1⟩ := cx_int e1
      exact lv_isub hx hb hd (go _ _ _ _ hw.2 hl ⟨⟨_, rfl, cx_subI x1 y1 hw.1⟩, g1⟩)
    · exact hw.elim
  case imul =>
    have hlen : len = 1 := by simpa [cx_sE] using hse
    subst hlen
    simp only [cx_ins, cx_2r] at hw
    split at hw
    · obtain ⟨w0, ws, rfl, e0, g0⟩ := cx_cons h1
      obtain ⟨w, ws, rfl, e1, g1⟩ := cx_cons g0
      obtain ⟨y, rfl, y1⟩ := cx_int e0
      obtain ⟨x, rfl, x1⟩ := cx_int e1
      exact lv_imul hx hb hd (go _ _ _ _ hw.2 hl ⟨⟨_, rfl, cx_mulI x1 y1 hw.1⟩, g1⟩)
    · exact hw.elim
  case iand =>
    have hlen : len = 1 := by simpa [cx_sE] using hse
    subst hlen
    simp only [cx_ins, cx_2i] at hw
    split at hw
    · obtain ⟨w0, ws, rfl, e0, g0⟩ := cx_cons h1
      obtain ⟨w, ws, rfl, e1, g1⟩ := cx_cons g0
      obtain ⟨y, rfl, y1⟩ := cx_int e0
      obtain ⟨x, rfl, x1⟩ := cx_int e1
      exact lv_iand hx hb hd (go _ _ _ _ hw hl ⟨cx_opI (fun x y => x &&& y) x1 y1, g1⟩)
    · exact hw.elim
  case ior =>
    have hlen : len = 1 := by simpa [cx_sE] using hse
    subst hlen
    simp only [cx_ins, cx_2i] at hw
    split at hw
    · obtain ⟨w0, ws, rfl, e0, g0⟩ := cx_cons h1
      obtain ⟨w, ws, rfl, e1, g1⟩ := cx_cons g0
      obtain ⟨y, rfl, y1⟩ := cx_int e0
      obtain ⟨x, rfl, x1⟩ := cx_int e1
      exact lv_ior hx hb hd (go _ _ _ _ hw hl ⟨cx_opI (fun x y => x ||| y) x1 y1, g1⟩)
    · exact hw.elim
  case ixor =>
    have hlen : len = 1 := by simpa [cx_sE] using hse
    subst hlen
    simp only [cx_ins, cx_2i] at hw
    split at hw
    · obtain ⟨w0, ws, rfl, e0, g0⟩ := cx_cons h1
      obtain ⟨w, ws, rfl, e1, g1⟩ := cx_cons g0
      obtain ⟨y, rfl, y1⟩ := cx_int e0
      obtain ⟨x, rfl, x1⟩ := cx_int e1
      exact lv_ixor hx hb hd (go _ _ _ _ hw hl ⟨cx_opI (fun x y => x ^^^ y) x1 y1, g1⟩)
    · exact hw.elim
  case ishl =>
    have hlen : len = 1 := by simpa [cx_sE] using hse
    subst hlen
    simp only [cx_ins, cx_2i] at hw
    split at hw
    · obtain ⟨w0, ws, rfl, e0, g0⟩ := cx_cons h1
      obtain ⟨w, ws, rfl, e1, g1⟩ := cx_cons g0
      obtain ⟨y, rfl, y1⟩ := cx_int e0
      obtain ⟨x, rfl, x1⟩ := cx_int e1
      exact lv_ishl hx hb hd (go _ _ _ _ hw hl ⟨cx_opI (fun x y => x <<< (y &&& 31)) x1 y1, g1⟩)
    · exact hw.elim
  case ishr =>
    have hlen : len = 1 := by simpa [cx_sE] using hse
    subst hlen
    simp only [cx_ins, cx_2i] at hw
    split at hw
    · obtain ⟨w0, ws, rfl, e0, g0⟩ := cx_cons h1
      obtain ⟨w, ws, rfl, e1, g1⟩ := cx_cons g0
      obtain ⟨y, rfl, y1⟩ := cx_int e0
      obtain ⟨x, rfl, x1⟩ := cx_int e1
      exact lv_ishr hx hb hd (go _ _ _ _ hw hl ⟨cx_opI (fun x y => x >>> (y &&& 31)) x1 y1, g1⟩)
    · exact hw.elim
  case iushr =>
    have hlen : len = 1 := by simpa [cx_sE] using hse
    subst hlen
    simp only [cx_ins, cx_2i] at hw
    split at hw
    · obtain ⟨w0, ws, rfl, e0, g0⟩ := cx_cons h1
      obtain ⟨w, ws, rfl, e1, g1⟩ := cx_cons g0
      obtain ⟨y, rfl, y1⟩ := cx_int e0
      obtain ⟨x, rfl, x1⟩ := cx_int e1
      exact lv_iushr hx hb hd rfl (go _ _ _ _ hw hl ⟨cx_opI (fun x y => (x.toUInt32 >>> (y.toUInt32 &&& Int32.toUInt32 31)).toInt32) x1 y1, g1⟩)
    · exact hw.elim
  case irem =>
    have hlen : len = 1 := by simpa [cx_sE] using hse
    subst hlen
    simp only [cx_ins] at hw
    split at hw
    · obtain ⟨⟨hrg, hne⟩, hn⟩ := hw
      obtain ⟨w0, ws, rfl, e0, g0⟩ := cx_cons h1
      obtain ⟨w, ws, rfl, e1, g1⟩ := cx_cons g0
      obtain ⟨y, rfl, y1⟩ := cx_int e0
      obtain ⟨x, rfl, x1⟩ := cx_int e1
      exact lv_irem hx hb hd (fun q => hne (by rw [← y1, q]; rfl)) (go _ _ _ _ hn hl ⟨cx_opI (fun x y => x - x / y * y) x1 y1, g1⟩)
    · exact hw.elim
  case ladd =>
    have hlen : len = 1 := by simpa [cx_sE] using hse
    subst hlen
    simp only [cx_ins, cx_2j] at hw
    split at hw
    · obtain ⟨w0, ws, rfl, e0, g0⟩ := cx_cons h1
      obtain ⟨w, ws, rfl, e1, g1⟩ := cx_cons g0
      cases cx_long e0
      cases cx_long e1
      exact lv_ladd hx hb hd (go _ _ _ _ hw hl ⟨rfl, g1⟩)
    · exact hw.elim
  case lsub =>
    have hlen : len = 1 := by simpa [cx_sE] using hse
    subst hlen
    simp only [cx_ins, cx_2j] at hw
    split at hw
    · obtain ⟨w0, ws, rfl, e0, g0⟩ := cx_cons h1
      obtain ⟨w, ws, rfl, e1, g1⟩ := cx_cons g0
      cases cx_long e0
      cases cx_long e1
      exact lv_lsub hx hb hd (go _ _ _ _ hw hl ⟨rfl, g1⟩)
    · exact hw.elim
  case lmul =>
    have hlen : len = 1 := by simpa [cx_sE] using hse
    subst hlen
    simp only [cx_ins, cx_2j] at hw
    split at hw
    · obtain ⟨w0, ws, rfl, e0, g0⟩ := cx_cons h1
      obtain ⟨w, ws, rfl, e1, g1⟩ := cx_cons g0
      cases cx_long e0
      cases cx_long e1
      exact lv_lmul hx hb hd (go _ _ _ _ hw hl ⟨rfl, g1⟩)
    · exact hw.elim
  case land =>
    have hlen : len = 1 := by simpa [cx_sE] using hse
    subst hlen
    simp only [cx_ins, cx_2j] at hw
    split at hw
    · obtain ⟨w0, ws, rfl, e0, g0⟩ := cx_cons h1
      obtain ⟨w, ws, rfl, e1, g1⟩ := cx_cons g0
      cases cx_long e0
      cases cx_long e1
      exact lv_land hx hb hd (go _ _ _ _ hw hl ⟨rfl, g1⟩)
    · exact hw.elim
  case lor =>
    have hlen : len = 1 := by simpa [cx_sE] using hse
    subst hlen
    simp only [cx_ins, cx_2j] at hw
    split at hw
    · obtain ⟨w0, ws, rfl, e0, g0⟩ := cx_cons h1
      obtain ⟨w, ws, rfl, e1, g1⟩ := cx_cons g0
      cases cx_long e0
      cases cx_long e1
      exact lv_lor hx hb hd (go _ _ _ _ hw hl ⟨rfl, g1⟩)
    · exact hw.elim
  case lxor =>
    have hlen : len = 1 := by simpa [cx_sE] using hse
    subst hlen
    simp only [cx_ins, cx_2j] at hw
    split at hw
    · obtain ⟨w0, ws, rfl, e0, g0⟩ := cx_cons h1
      obtain ⟨w, ws, rfl, e1, g1⟩ := cx_cons g0
      cases cx_long e0
      cases cx_long e1
      exact lv_lxor hx hb hd (go _ _ _ _ hw hl ⟨rfl, g1⟩)
    · exact hw.elim
  case lshl =>
    have hlen : len = 1 := by simpa [cx_sE] using hse
    subst hlen
    simp only [cx_ins, cx_2s] at hw
    split at hw
    · obtain ⟨w0, ws, rfl, e0, g0⟩ := cx_cons h1
      obtain ⟨w, ws, rfl, e1, g1⟩ := cx_cons g0
      obtain ⟨y, rfl, y1⟩ := cx_int e0
      cases cx_long e1
      rw [cx_ofI y1] at hw
      exact lv_lshl hx hb hd rfl (go _ _ _ _ hw hl ⟨rfl, g1⟩)
    · exact hw.elim
  case lshr =>
    have hlen : len = 1 := by simpa [cx_sE] using hse
    subst hlen
    simp only [cx_ins, cx_2s] at hw
    split at hw
    · obtain ⟨w0, ws, rfl, e0, g0⟩ := cx_cons h1
      obtain ⟨w, ws, rfl, e1, g1⟩ := cx_cons g0
      obtain ⟨y, rfl, y1⟩ := cx_int e0
      cases cx_long e1
      rw [cx_ofI y1] at hw
      exact lv_lshr hx hb hd rfl (go _ _ _ _ hw hl ⟨rfl, g1⟩)
    · exact hw.elim
  case lushr =>
    have hlen : len = 1 := by simpa [cx_sE] using hse
    subst hlen
    simp only [cx_ins, cx_2s] at hw
    split at hw
    · obtain ⟨w0, ws, rfl, e0, g0⟩ := cx_cons h1
      obtain ⟨w, ws, rfl, e1, g1⟩ := cx_cons g0
      obtain ⟨y, rfl, y1⟩ := cx_int e0
      cases cx_long e1
      rw [cx_ofI y1] at hw
      exact lv_lushr hx hb hd rfl (go _ _ _ _ hw hl ⟨rfl, g1⟩)
    · exact hw.elim
  case lrem =>
    have hlen : len = 1 := by simpa [cx_sE] using hse
    subst hlen
    simp only [cx_ins] at hw
    split at hw
    · obtain ⟨hne, hn⟩ := hw
      obtain ⟨w0, ws, rfl, e0, g0⟩ := cx_cons h1
      obtain ⟨w, ws, rfl, e1, g1⟩ := cx_cons g0
      cases cx_long e0
      cases cx_long e1
      exact lv_lrem hx hb hd hne (go _ _ _ _ hn hl ⟨rfl, g1⟩)
    · exact hw.elim
  case lcmp =>
    have hlen : len = 1 := by simpa [cx_sE] using hse
    subst hlen
    simp only [cx_ins] at hw
    split at hw
    · obtain ⟨w0, ws, rfl, e0, g0⟩ := cx_cons h1
      obtain ⟨w, ws, rfl, e1, g1⟩ := cx_cons g0
      cases cx_long e0
      cases cx_long e1
      exact W.lcmp hx hb hd (go _ _ _ _ hw hl ⟨⟨_, rfl, rfl⟩, g1⟩)
    · exact hw.elim
  case i2l =>
    have hlen : len = 1 := by simpa [cx_sE] using hse
    subst hlen
    simp only [cx_ins] at hw
    split at hw
    · obtain ⟨w, ws, rfl, e1, g1⟩ := cx_cons h1
      obtain ⟨x, rfl, x1⟩ := cx_int e1
      exact lv_i2l hx hb hd (cx_i2lI x1) (go _ _ _ _ hw hl ⟨rfl, g1⟩)
    · exact hw.elim
  case l2i =>
    have hlen : len = 1 := by simpa [cx_sE] using hse
    subst hlen
    simp only [cx_ins] at hw
    split at hw
    · obtain ⟨w, ws, rfl, e1, g1⟩ := cx_cons h1
      cases cx_long e1
      exact lv_l2i hx hb hd rfl (go _ _ _ _ hw hl ⟨⟨_, rfl, rfl⟩, g1⟩)
    · exact hw.elim
  case dup =>
    have hlen : len = 1 := by simpa [cx_sE] using hse
    subst hlen
    simp only [cx_ins] at hw
    split at hw
    · obtain ⟨w, ws, rfl, e1, g1⟩ := cx_cons h1
      exact lv_dup hx hb hd (by rw [cx_cat2 e1]; rfl) (go _ _ _ _ hw hl ⟨e1, e1, g1⟩)
    · obtain ⟨w, ws, rfl, e1, g1⟩ := cx_cons h1
      exact lv_dup hx hb hd (by rw [cx_cat2 e1]; rfl) (go _ _ _ _ hw hl ⟨e1, e1, g1⟩)
    · exact hw.elim
  case pop =>
    have hlen : len = 1 := by simpa [cx_sE] using hse
    subst hlen
    simp only [cx_ins] at hw
    split at hw
    · obtain ⟨w, ws, rfl, e1, g1⟩ := cx_cons h1
      exact lv_pop hx hb hd (by rw [cx_cat2 e1]; rfl) (go _ _ _ _ hw hl g1)
    · obtain ⟨w, ws, rfl, e1, g1⟩ := cx_cons h1
      exact lv_pop hx hb hd (by rw [cx_cat2 e1]; rfl) (go _ _ _ _ hw hl g1)
    · exact hw.elim
  case pop2 =>
    have hlen : len = 1 := by simpa [cx_sE] using hse
    subst hlen
    simp only [cx_ins] at hw
    split at hw
    · obtain ⟨w, ws, rfl, e1, g1⟩ := cx_cons h1
      exact lv_pop2_2 hx hb hd (by rw [cx_cat2 e1]; rfl) (go _ _ _ _ hw hl g1)
    · exact hw.elim
  case dup2 =>
    have hlen : len = 1 := by simpa [cx_sE] using hse
    subst hlen
    simp only [cx_ins] at hw
    split at hw
    · obtain ⟨w, ws, rfl, e1, g1⟩ := cx_cons h1
      exact lv_dup2_2 hx hb hd (by rw [cx_cat2 e1]; rfl) (go _ _ _ _ hw hl ⟨e1, e1, g1⟩)
    · obtain ⟨w0, ws, rfl, e0, g0⟩ := cx_cons h1
      obtain ⟨w, ws, rfl, e1, g1⟩ := cx_cons g0
      exact lv_dup2_11 hx hb hd (by rw [cx_cat2 e0]; rfl) (by rw [cx_cat2 e1]; rfl) (go _ _ _ _ hw hl ⟨e0, e1, e0, e1, g1⟩)
    · exact hw.elim
  case goto off =>
    simp only [cx_sE, Bool.and_eq_true, beq_iff_eq] at hse
    obtain ⟨rfl, htg⟩ := hse
    exact lv_goto hx hb hd (tgt off htg) (goJ _ _ _ hw h1)
  case ifCond cd off =>
    simp only [cx_sE, Bool.and_eq_true, beq_iff_eq] at hse
    obtain ⟨rfl, htg⟩ := hse
    simp only [cx_ins] at hw
    split at hw
    · obtain ⟨w, ws, rfl, e1, g1⟩ := cx_cons h1
      obtain ⟨x, rfl, x1⟩ := cx_int e1
      have y1 : (0 : Int32).toInt = 0 := rfl
      cases cd
      · exact lv_if_eq hx hb hd (tgt off htg) (fun hc => goJ _ _ _ (hw.1 ((cx_relI (cd := .eq) x1 y1).mpr hc)) g1) (fun hc => go _ _ _ _ (hw.2 (fun q => hc ((cx_relI (cd := .eq) x1 y1).mp q))) hl g1)
      · exact lv_if_ne hx hb hd (tgt off htg) (fun hc => goJ _ _ _ (hw.1 ((cx_relI (cd := .ne) x1 y1).mpr hc)) g1) (fun hc => go _ _ _ _ (hw.2 (fun q => ((cx_relI (cd := .ne) x1 y1).mp q) hc)) hl g1)
      · exact lv_if_lt hx hb hd (tgt off htg) (fun hc => goJ _ _ _ (hw.1 ((cx_relI (cd := .lt) x1 y1).mpr hc)) g1) (fun hc => go _ _ _ _ (hw.2 (fun q => hc ((cx_relI (cd := .lt) x1 y1).mp q))) hl g1)
      · exact lv_if_ge hx hb hd (tgt off htg) (fun hc => goJ _ _ _ (hw.1 ((cx_relI (cd := .ge) x1 y1).mpr hc)) g1) (fun hc => go _ _ _ _ (hw.2 (fun q => hc ((cx_relI (cd := .ge) x1 y1).mp q))) hl g1)
      · exact lv_if_gt hx hb hd (tgt off htg) (fun hc => goJ _ _ _ (hw.1 ((cx_relI (cd := .gt) x1 y1).mpr hc)) g1) (fun hc => go _ _ _ _ (hw.2 (fun q => hc ((cx_relI (cd := .gt) x1 y1).mp q))) hl g1)
      · exact lv_if_le hx hb hd (tgt off htg) (fun hc => goJ _ _ _ (hw.1 ((cx_relI (cd := .le) x1 y1).mpr hc)) g1) (fun hc => go _ _ _ _ (hw.2 (fun q => hc ((cx_relI (cd := .le) x1 y1).mp q))) hl g1)
    · exact hw.elim
  case if_icmp cd off =>
    simp only [cx_sE, Bool.and_eq_true, beq_iff_eq] at hse
    obtain ⟨rfl, htg⟩ := hse
    simp only [cx_ins] at hw
    split at hw
    · obtain ⟨w0, ws, rfl, e0, g0⟩ := cx_cons h1
      obtain ⟨w, ws, rfl, e1, g1⟩ := cx_cons g0
      obtain ⟨y, rfl, y1⟩ := cx_int e0
      obtain ⟨x, rfl, x1⟩ := cx_int e1
      cases cd
      · exact lv_icmp_eq hx hb hd (tgt off htg) (fun hc => goJ _ _ _ (hw.1 ((cx_relI (cd := .eq) x1 y1).mpr hc)) g1) (fun hc => go _ _ _ _ (hw.2 (fun q => hc ((cx_relI (cd := .eq) x1 y1).mp q))) hl g1)
      · exact lv_icmp_ne hx hb hd (tgt off htg) (fun hc => goJ _ _ _ (hw.1 ((cx_relI (cd := .ne) x1 y1).mpr hc)) g1) (fun hc => go _ _ _ _ (hw.2 (fun q => ((cx_relI (cd := .ne) x1 y1).mp q) hc)) hl g1)
      · exact lv_icmp_lt hx hb hd (tgt off htg) (fun hc => goJ _ _ _ (hw.1 ((cx_relI (cd := .lt) x1 y1).mpr hc)) g1) (fun hc => go _ _ _ _ (hw.2 (fun q => hc ((cx_relI (cd := .lt) x1 y1).mp q))) hl g1)
      · exact lv_icmp_ge hx hb hd (tgt off htg) (fun hc => goJ _ _ _ (hw.1 ((cx_relI (cd := .ge) x1 y1).mpr hc)) g1) (fun hc => go _ _ _ _ (hw.2 (fun q => hc ((cx_relI (cd := .ge) x1 y1).mp q))) hl g1)
      · exact lv_icmp_gt hx hb hd (tgt off htg) (fun hc => goJ _ _ _ (hw.1 ((cx_relI (cd := .gt) x1 y1).mpr hc)) g1) (fun hc => go _ _ _ _ (hw.2 (fun q => hc ((cx_relI (cd := .gt) x1 y1).mp q))) hl g1)
      · exact lv_icmp_le hx hb hd (tgt off htg) (fun hc => goJ _ _ _ (hw.1 ((cx_relI (cd := .le) x1 y1).mpr hc)) g1) (fun hc => go _ _ _ _ (hw.2 (fun q => hc ((cx_relI (cd := .le) x1 y1).mp q))) hl g1)
    · exact hw.elim
  case ifnull off =>
    simp only [cx_sE, Bool.and_eq_true, beq_iff_eq] at hse
    obtain ⟨rfl, htg⟩ := hse
    simp only [cx_ins] at hw
    split at hw
    · rename_i a r
      obtain ⟨w, ws, rfl, e1, g1⟩ := cx_cons h1
      cases a with
      | none =>
        cases cx_null e1
        exact lv_ifnullN hx hb hd (tgt off htg) (goJ _ _ _ (hw.1 rfl) g1)
      | some i =>
        cases cx_ref e1
        exact lv_ifnull hx hb hd (go _ _ _ _ (hw.2 _ rfl) hl g1)
    · exact hw.elim
  case ifnonnull off =>
    simp only [cx_sE, Bool.and_eq_true, beq_iff_eq] at hse
    obtain ⟨rfl, htg⟩ := hse
    simp only [cx_ins] at hw
    split at hw
    · rename_i a r
      obtain ⟨w, ws, rfl, e1, g1⟩ := cx_cons h1
      cases a with
      | none =>
        cases cx_null e1
        exact lv_ifnonnullN hx hb hd (go _ _ _ _ (hw.2 rfl) hl g1)
      | some i =>
        cases cx_ref e1
        exact lv_ifnonnull hx hb hd (tgt off htg) (goJ _ _ _ (hw.1 _ rfl) g1)
    · exact hw.elim
  case if_acmp cd off =>
    simp only [cx_sE, Bool.and_eq_true, beq_iff_eq] at hse
    obtain ⟨rfl, htg⟩ := hse
    simp only [cx_ins] at hw
    split at hw
    · rename_i b a r
      obtain ⟨w0, ws, rfl, e0, g0⟩ := cx_cons h1
      obtain ⟨w, ws, rfl, e1, g1⟩ := cx_cons g0
      have q0 : w0 = va_rf b := by
        cases b with
        | none => cases cx_null e0; rfl
        | some i => cases cx_ref e0; rfl
      have q1 : w = va_rf a := by
        cases a with
        | none => cases cx_null e1; rfl
        | some i => cases cx_ref e1; rfl
      subst q0 q1
      exact lv_acmp_eq hx hb hd (tgt off htg) (fun hc => goJ _ _ _ (hw.1 hc) g1) (fun hc => go _ _ _ _ (hw.2 hc) hl g1)
    · rename_i b a r
      obtain ⟨w0, ws, rfl, e0, g0⟩ := cx_cons h1
      obtain ⟨w, ws, rfl, e1, g1⟩ := cx_cons g0
      have q0 : w0 = va_rf b := by
        cases b with
        | none => cases cx_null e0; rfl
        | some i => cases cx_ref e0; rfl
      have q1 : w = va_rf a := by
        cases a with
        | none => cases cx_null e1; rfl
        | some i => cases cx_ref e1; rfl
      subst q0 q1
      exact lv_acmp_ne hx hb hd (tgt off htg) (fun hc => goJ _ _ _ (hw.1 hc) g1) (fun hc => go _ _ _ _ (hw.2 hc) hl g1)
    · exact hw.elim
  case tableswitch dflt lo hi offs =>
    simp only [cx_sE, Bool.and_eq_true, decide_eq_true_eq] at hse
    obtain ⟨⟨t1, t2⟩, t3⟩ := hse
    simp only [cx_ins] at hw
    split at hw
    · obtain ⟨w, ws, rfl, e1, g1⟩ := cx_cons h1
      obtain ⟨x, rfl, x1⟩ := cx_int e1
      rename_i a r
      by_cases ho : x.toInt < lo ∨ hi < x.toInt
      · exact lv_tableOut hx hb hd ho (tgt dflt t1) (goJ _ _ _ (hw.1 (by rw [← x1]; exact ho)) g1)
      · have hlt : (x.toInt - lo).toNat < offs.toList.length := by omega
        obtain ⟨off, hoff⟩ : ∃ off, offs.toList[(x.toInt - lo).toNat]? = some off := ⟨_, List.getElem?_eq_getElem hlt⟩
        have hmem := List.mem_of_getElem? hoff
        have htg := List.all_eq_true.mp t2 off hmem
        refine lv_tableIn hx hb hd (by omega) (by omega) (off := off) (by rw [← Array.getElem?_toList]; exact hoff) (tgt off htg) (goJ _ _ _ (cx_swf_at hw.2 hoff (by omega)) g1)
    · exact hw.elim
  case getfield idx =>
    simp only [cx_sE, Bool.and_eq_true, beq_iff_eq, decide_eq_true_eq] at hse
    obtain ⟨rfl, hz⟩ := hse
    simp only [cx_ins, cx_getf] at hw
    split at hw
    · rename_i i r
      obtain ⟨hci, hn⟩ := hw
      obtain ⟨w, ws, rfl, e1, g1⟩ := cx_cons h1
      cases cx_ref e1
      obtain ⟨C, T, N, k1, k2, k3, k4⟩ := lk
      dsimp only at k1 k2 k3 k4 hz hci
      refine cx_r_get (Ts := Tg) (C := C) (T := T) (N := N) hx hb hts (f4 _ _ _ _ k1).1 hown hK hR f98 k1 k2 k3 ?_ hci hd (fun v0 hv0 => go _ _ _ _ hn hl ⟨by rw [← hz]; exact hv0, g1⟩)
      rcases k4 with k4 | ⟨host, k4⟩
      · exact Or.inl (hts _ k4)
      · exact Or.inr ⟨host, va_Nw.use rfl (hNw _ k4)⟩
    · exact hw.elim
  case putfield idx =>
    simp only [cx_sE, beq_iff_eq] at hse
    subst hse
    simp only [cx_ins, cx_putf] at hw
    split at hw
    · rename_i a i r
      obtain ⟨hci, hn⟩ := hw
      obtain ⟨h', hput, hn⟩ := cx_wr_ok hn
      obtain ⟨w0, ws, rfl, e0, g0⟩ := cx_cons h1
      obtain ⟨w, ws, rfl, e1, g1⟩ := cx_cons g0
      cases cx_ref e1
      obtain ⟨C, T, N, k1, k2, k3, k4, k5, k6⟩ := lk
      dsimp only at k1 k2 k3 k4 k5 k6 hci
      refine cx_r_put (Ts := Tg) (C := C) (T := T) (N := N) hx hb hts (f4 _ _ _ _ k1).1 (f4 _ _ _ _ k1).2.1 (f4 _ _ _ _ k1).2.2 hown hK hR hL f98 k1 k2 k3 ?_ (fun q => ⟨(k5 q).1, hin0 (k5 q).2⟩) e0 (by rw [k6]; exact hput) hci hd (fun H1 locs1 q1 q2 => goH _ _ _ _ _ _ _ _ _ hn g1 q1 q2 (Nat.le_refl _) (Nat.le_refl _))
      rcases k4 with k4 | ⟨⟨host, k4⟩, k7⟩
      · exact Or.inl (hts _ k4)
      · exact Or.inr ⟨⟨host, va_Nw.use rfl (hNw _ k4)⟩, k7⟩
    · exact hw.elim
  case new idx =>
    simp only [cx_sE, Bool.and_eq_true, beq_iff_eq] at hse
    obtain ⟨rfl, hN⟩ := hse
    simp only [cx_ins] at hw
    obtain ⟨⟨hb1, hb2⟩, hn⟩ := hw
    obtain ⟨C, T, N, k1, k2, k3, k4⟩ := lk
    dsimp only at k1 k2 k3 k4
    rw [ev_nth_eq, k1] at hN
    have hN : N = v := by simpa using hN
    subst hN
    exact cx_r_new (Ts := Tg) hx hb hts (f4 _ _ _ _ k1).1 (f4 _ _ _ _ k1).2.1 (r4 _ _ _ _ k1) hown (hts _ k2) (hts _ k3) (hts _ k4) hK hR hL f98 k1 (by omega) (by omega) hd (fun H1 q1 q2 => goH _ _ _ _ _ _ _ _ _ hn ⟨rfl, h1⟩ q1 q2 (by omega) (by omega))
  case newarray at_ =>
    simp only [cx_sE, Bool.and_eq_true, beq_iff_eq, decide_eq_true_eq] at hse
    obtain ⟨⟨⟨rfl, s1⟩, s2⟩, s3⟩ := hse
    simp only [cx_ins, cx_nwaf] at hw
    split at hw
    · rename_i n r
      obtain ⟨⟨b1, b2, b3, b4⟩, hn⟩ := hw
      obtain ⟨w, ws, rfl, e1, g1⟩ := cx_cons h1
      obtain ⟨x, rfl, x1⟩ := cx_int e1
      obtain ⟨k1, k2, k3⟩ := lk
      dsimp only at k1 k2 k3
      obtain ⟨cA, k4⟩ := ev_tmap ht k1
      obtain ⟨y1, y2, y3, y4, y5⟩ := cx_nin (n := n.toNat + 1) x1 b2 (by omega)
      have hn' : nx lv (.inr (.inr (some h.1)) :: r) (cq_nw h v ((n.toNat : Nat) : Int)) (bc - 1) (bs - n.toNat) := by rw [y4]; exact hn
      exact cx_r_newa (M := n.toNat) hx hb (hts _ k3) hK hR hL (by rw [s2]; exact k4) s3.symm k2 s1 y1 y2 (by omega) (by omega) (by omega) hd (fun H1 q1 q2 => goH _ _ _ _ _ _ _ _ _ hn' ⟨rfl, g1⟩ q1 q2 (by omega) (by omega))
    · exact hw.elim
  case anewarray idx =>
    simp only [cx_sE, Bool.and_eq_true, beq_iff_eq, decide_eq_true_eq] at hse
    obtain ⟨⟨⟨rfl, s1⟩, s2⟩, s3⟩ := hse
    simp only [cx_ins, cx_nwaf] at hw
    split at hw
    · rename_i n r
      obtain ⟨⟨b1, b2, b3, b4⟩, hn⟩ := hw
      obtain ⟨w, ws, rfl, e1, g1⟩ := cx_cons h1
      obtain ⟨x, rfl, x1⟩ := cx_int e1
      obtain ⟨nm, k1, k2, k3⟩ := lk
      dsimp only at k1 k2 k3
      obtain ⟨cA, k4⟩ := ev_tmap ht k1
      obtain ⟨y1, y2, y3, y4, y5⟩ := cx_nin (n := n.toNat + 1) x1 b2 (by omega)
      have hn' : nx lv (.inr (.inr (some h.1)) :: r) (cq_nw h v ((n.toNat : Nat) : Int)) (bc - 1) (bs - n.toNat) := by rw [y4]; exact hn
      exact cx_r_anew (M := n.toNat) hx hb hown (hts _ k2) (hAO _ k3) hK hR hL (by rw [s2]; exact k4) s3.symm s1 y1 y2 (by omega) (by omega) (by omega) hd (fun H1 q1 q2 => goH _ _ _ _ _ _ _ _ _ hn' ⟨rfl, g1⟩ q1 q2 (by omega) (by omega))
    · exact hw.elim
  case arraylength =>
    have hlen : len = 1 := by simpa [cx_sE] using hse
    subst hlen
    simp only [cx_ins, cx_lenf] at hw
    split at hw
    · rename_i i r
      obtain ⟨c1, hn⟩ := hw
      obtain ⟨w, ws, rfl, e1, g1⟩ := cx_cons h1
      cases cx_ref e1
      have h100 : cq_s h i = 98 ∨ 100 ≤ cq_s h i := by
        by_cases q1 : cq_s h i = 98
        · exact Or.inl q1
        · refine Or.inr (Nat.le_of_not_lt fun q2 => ?_)
          have := r1 _ q2 q1
          omega
      rcases h100 with q | q
      · exact cx_r_slen hx hb hS.2 hR hL q hd (fun v0 hv0 => go _ _ _ _ hn hl ⟨hv0, g1⟩)
      · exact cx_r_alen hx hb hK hR f98 q hd (fun v0 hv0 => go _ _ _ _ hn hl ⟨hv0, g1⟩)
    · exact hw.elim
  case iaload =>
    have hlen : len = 1 := by simpa [cx_sE] using hse
    subst hlen
    simp only [cx_ins, cx_aldf] at hw
    split at hw
    · rename_i j i r
      obtain ⟨⟨c1, c2, c3⟩, hn⟩ := hw
      obtain ⟨w0, ws, rfl, e0, g0⟩ := cx_cons h1
      obtain ⟨w, ws, rfl, e1, g1⟩ := cx_cons g0
      obtain ⟨x, rfl, e2⟩ := cx_int e0
      cases cx_ref e1
      have h100 : cq_s h i = 98 ∨ 100 ≤ cq_s h i := by
        by_cases q1 : cq_s h i = 98
        · exact Or.inl q1
        · refine Or.inr (Nat.le_of_not_lt fun q2 => ?_)
          have := r1 _ q2 q1
          omega
      rcases h100 with q | q
      · exact cx_r_sld hx hb hS.2 hR hL q e2 c2 c3 hd (fun v0 hv0 => go _ _ _ _ hn hl ⟨hv0, g1⟩)
      · exact cx_r_ald (Or.inl ⟨rfl, rfl⟩) (fun q => absurd q (by decide)) hx hb hK hR f98 q c1 e2 c2 c3 hd (fun v0 hv0 => go _ _ _ _ hn hl ⟨hv0, g1⟩)
    · exact hw.elim
  case laload =>
    have hlen : len = 1 := by simpa [cx_sE] using hse
    subst hlen
    simp only [cx_ins, cx_aldf] at hw
    split at hw
    · rename_i j i r
      obtain ⟨⟨c1, c2, c3⟩, hn⟩ := hw
      obtain ⟨w0, ws, rfl, e0, g0⟩ := cx_cons h1
      obtain ⟨w, ws, rfl, e1, g1⟩ := cx_cons g0
      obtain ⟨x, rfl, e2⟩ := cx_int e0
      cases cx_ref e1
      have h100 : cq_s h i = 98 ∨ 100 ≤ cq_s h i := by
        by_cases q1 : cq_s h i = 98
        · exact Or.inl q1
        · refine Or.inr (Nat.le_of_not_lt fun q2 => ?_)
          have := r1 _ q2 q1
          omega
      rcases h100 with q | q
      · rw [q, r2] at c1; exact absurd c1 (by decide)
      · exact cx_r_ald (Or.inr (Or.inl ⟨rfl, rfl⟩)) (fun q => absurd q (by decide)) hx hb hK hR f98 q c1 e2 c2 c3 hd (fun v0 hv0 => go _ _ _ _ hn hl ⟨hv0, g1⟩)
    · exact hw.elim
  case baload =>
    have hlen : len = 1 := by simpa [cx_sE] using hse
    subst hlen
    simp only [cx_ins, cx_aldf] at hw
    split at hw
    · rename_i j i r
      obtain ⟨⟨c1, c2, c3⟩, hn⟩ := hw
      obtain ⟨w0, ws, rfl, e0, g0⟩ := cx_cons h1
      obtain ⟨w, ws, rfl, e1, g1⟩ := cx_cons g0
      obtain ⟨x, rfl, e2⟩ := cx_int e0
      cases cx_ref e1
      have h100 : cq_s h i = 98 ∨ 100 ≤ cq_s h i := by
        by_cases q1 : cq_s h i = 98
        · exact Or.inl q1
        · refine Or.inr (Nat.le_of_not_lt fun q2 => ?_)
          have := r1 _ q2 q1
          omega
      rcases h100 with q | q
      · rw [q, r2] at c1; exact absurd c1 (by decide)
      · exact cx_r_ald (Or.inr (Or.inr (Or.inl ⟨rfl, rfl⟩))) (fun q => absurd q (by decide)) hx hb hK hR f98 q c1 e2 c2 c3 hd (fun v0 hv0 => go _ _ _ _ hn hl ⟨hv0, g1⟩)
    · exact hw.elim
  case aaload =>
    have hlen : len = 1 := by simpa [cx_sE] using hse
    subst hlen
    simp only [cx_ins, cx_aldf] at hw
    split at hw
    · rename_i j i r
      obtain ⟨⟨c1, c2, c3⟩, hn⟩ := hw
      obtain ⟨w0, ws, rfl, e0, g0⟩ := cx_cons h1
      obtain ⟨w, ws, rfl, e1, g1⟩ := cx_cons g0
      obtain ⟨x, rfl, e2⟩ := cx_int e0
      cases cx_ref e1
      have h100 : cq_s h i = 98 ∨ 100 ≤ cq_s h i := by
        by_cases q1 : cq_s h i = 98
        · exact Or.inl q1
        · refine Or.inr (Nat.le_of_not_lt fun q2 => ?_)
          have := r1 _ q2 q1
          omega
      rcases h100 with q | q
      · rw [q, r2] at c1; exact absurd c1 (by decide)
      · exact cx_r_ald (Or.inr (Or.inr (Or.inr ⟨rfl, rfl⟩))) (fun q cA ty hty => by
          obtain ⟨E, T, N, z1, z2⟩ := r3 _ (by rw [c1])
          have z3 : (tys.map Prod.snd)[(ra (cq_s h i)).2.1]? = some ty := by rw [List.getElem?_map, hty]; rfl
          rw [ht, z1] at z3
          exact ⟨E, (Option.some.inj z3).symm⟩) hx hb hK hR f98 q c1 e2 c2 c3 hd (fun v0 hv0 => go _ _ _ _ hn hl ⟨hv0, g1⟩)
    · exact hw.elim
  case iastore =>
    have hlen : len = 1 := by simpa [cx_sE] using hse
    subst hlen
    simp only [cx_ins, cx_astf] at hw
    split at hw
    · rename_i a j i r
      obtain ⟨⟨c1, c4, c2, c3⟩, hn⟩ := hw
      obtain ⟨h', hput, hn⟩ := cx_wr_ok hn
      obtain ⟨w1, ws, rfl, ea, ga⟩ := cx_cons h1
      obtain ⟨w0, ws, rfl, e0, g0⟩ := cx_cons ga
      obtain ⟨w, ws, rfl, e1, g1⟩ := cx_cons g0
      obtain ⟨x, rfl, e2⟩ := cx_int e0
      cases cx_ref e1
      have h100 : cq_s h i = 98 ∨ 100 ≤ cq_s h i := by
        by_cases q1 : cq_s h i = 98
        · exact Or.inl q1
        · refine Or.inr (Nat.le_of_not_lt fun q2 => ?_)
          have := r1 _ q2 q1
          omega
      rcases h100 with q | q
      · exact absurd q c4
      · exact cx_r_ast (Or.inl ⟨rfl, rfl⟩) hx hb hK hR hL f98 q c1 e2 c2 c3 ea hput hd (fun H1 locs1 q1 q2 => goH _ _ _ _ _ _ _ _ _ hn g1 q1 q2 (Nat.le_refl _) (Nat.le_refl _))
    · exact hw.elim
  case lastore =>
    have hlen : len = 1 := by simpa [cx_sE] using hse
    subst hlen
    simp only [cx_ins, cx_astf] at hw
    split at hw
    · rename_i a j i r
      obtain ⟨⟨c1, c4, c2, c3⟩, hn⟩ := hw
      obtain ⟨h', hput, hn⟩ := cx_wr_ok hn
      obtain ⟨w1, ws, rfl, ea, ga⟩ := cx_cons h1
      obtain ⟨w0, ws, rfl, e0, g0⟩ := cx_cons ga
      obtain ⟨w, ws, rfl, e1, g1⟩ := cx_cons g0
      obtain ⟨x, rfl, e2⟩ := cx_int e0
      cases cx_ref e1
      have h100 : cq_s h i = 98 ∨ 100 ≤ cq_s h i := by
        by_cases q1 : cq_s h i = 98
        · exact Or.inl q1
        · refine Or.inr (Nat.le_of_not_lt fun q2 => ?_)
          have := r1 _ q2 q1
          omega
      rcases h100 with q | q
      · exact absurd q c4
      · exact cx_r_ast (Or.inr (Or.inl ⟨rfl, rfl⟩)) hx hb hK hR hL f98 q c1 e2 c2 c3 ea hput hd (fun H1 locs1 q1 q2 => goH _ _ _ _ _ _ _ _ _ hn g1 q1 q2 (Nat.le_refl _) (Nat.le_refl _))
    · exact hw.elim
  case bastore =>
    have hlen : len = 1 := by simpa [cx_sE] using hse
    subst hlen
    simp only [cx_ins, cx_astf] at hw
    split at hw
    · rename_i a j i r
      obtain ⟨⟨c1, c4, c2, c3⟩, hn⟩ := hw
      obtain ⟨h', hput, hn⟩ := cx_wr_ok hn
      obtain ⟨w1, ws, rfl, ea, ga⟩ := cx_cons h1
      obtain ⟨w0, ws, rfl, e0, g0⟩ := cx_cons ga
      obtain ⟨w, ws, rfl, e1, g1⟩ := cx_cons g0
      obtain ⟨x, rfl, e2⟩ := cx_int e0
      cases cx_ref e1
      have h100 : cq_s h i = 98 ∨ 100 ≤ cq_s h i := by
        by_cases q1 : cq_s h i = 98
        · exact Or.inl q1
        · refine Or.inr (Nat.le_of_not_lt fun q2 => ?_)
          have := r1 _ q2 q1
          omega
      rcases h100 with q | q
      · exact absurd q c4
      · exact cx_r_ast (Or.inr (Or.inr ⟨rfl, rfl⟩)) hx hb hK hR hL f98 q c1 e2 c2 c3 ea hput hd (fun H1 locs1 q1 q2 => goH _ _ _ _ _ _ _ _ _ hn g1 q1 q2 (Nat.le_refl _) (Nat.le_refl _))
    · exact hw.elim
  case aastore =>
    have hlen : len = 1 := by simpa [cx_sE] using hse
    subst hlen
    simp only [cx_ins, cx_aasf] at hw
    split at hw
    · rename_i r j i q0
      obtain ⟨⟨c1, c2, c3, c4⟩, hn⟩ := hw
      obtain ⟨w1, ws, rfl, ea, ga⟩ := cx_cons h1
      obtain ⟨w0, ws, rfl, e0, g0⟩ := cx_cons ga
      obtain ⟨w, ws, rfl, e1, g1⟩ := cx_cons g0
      obtain ⟨x, rfl, e2⟩ := cx_int e0
      cases cx_ref e1
      have h100 : cq_s h i = 98 ∨ 100 ≤ cq_s h i := by
        by_cases q1 : cq_s h i = 98
        · exact Or.inl q1
        · refine Or.inr (Nat.le_of_not_lt fun q2 => ?_)
          have := r1 _ q2 q1
          omega
      rcases h100 with q | q
      · rw [q, r2] at c1; exact absurd c1 (by decide)
      · obtain ⟨E, T, N, z1, z2⟩ := r3 _ c1
        refine cx_r_aast (E := E) hx hb hK hR hL f98 q (fun cA ty hty => ?_) e2 c2 c3 ea ?_ hd (fun H1 locs1 q1 q2 => goH _ _ _ _ _ _ _ _ _ hn g1 q1 q2 (Nat.le_refl _) (Nat.le_refl _))
        · have z3 : (tys.map Prod.snd)[(ra (cq_s h i)).2.1]? = some ty := by rw [List.getElem?_map, hty]; rfl
          rw [ht, z1] at z3
          exact (Option.some.inj z3).symm
        · cases r with
          | none => exact Or.inl rfl
          | some y => exact Or.inr ⟨y, _, T, N, rfl, rfl, by rw [show cq_s h y = _ from c4]; exact z2⟩
    · exact hw.elim
  case return_ =>
    have hlen : len = 1 := by simpa [cx_sE] using hse
    subst hlen
    simp only [cx_ins] at hw
    obtain ⟨a, hP, hr⟩ := cx_rtf_ok hw
    exact hRH H locs cells slots ls pc cst _ st a h hP hat rfl hr h1 hR hL (by omega) (by omega)
  case ireturn =>
    have hlen : len = 1 := by simpa [cx_sE] using hse
    subst hlen
    simp only [cx_ins] at hw
    obtain ⟨a, hP, hr⟩ := cx_rtf_ok hw
    exact hRH H locs cells slots ls pc cst _ st a h hP hat rfl hr h1 hR hL (by omega) (by omega)
  case lreturn =>
    have hlen : len = 1 := by simpa [cx_sE] using hse
    subst hlen
    simp only [cx_ins] at hw
    obtain ⟨a, hP, hr⟩ := cx_rtf_ok hw
    exact hRH H locs cells slots ls pc cst _ st a h hP hat rfl hr h1 hR hL (by omega) (by omega)
  case areturn =>
    have hlen : len = 1 := by simpa [cx_sE] using hse
    subst hlen
    simp only [cx_ins] at hw
    obtain ⟨a, hP, hr⟩ := cx_rtf_ok hw
    exact hRH H locs cells slots ls pc cst _ st a h hP hat rfl hr h1 hR hL (by omega) (by omega)
  case invokestatic idx =>
    simp only [cx_sE, Bool.and_eq_true, beq_iff_eq] at hse
    obtain ⟨rfl, -⟩ := hse
    simp only [cx_ins] at hw
    split at hw
    · simp only [cx_mmf] at hw
      split at hw
      · obtain ⟨⟨m1, m2⟩, hn⟩ := hw
        obtain ⟨w0, ws, rfl, e0, g0⟩ := cx_cons h1
        obtain ⟨w, ws, rfl, e1, g1⟩ := cx_cons g0
        obtain ⟨y, rfl, y1⟩ := cx_int e0
        obtain ⟨x, rfl, x1⟩ := cx_int e1
        have h3 := cx_szc g1
        rcases lk with ⟨k0, k1, k2, k3, k4⟩ | ⟨k0, -⟩ | ⟨k0, -⟩
        · exact va_mmax hx hb (hml.trans hl.1.symm) hown (hts _ k1) (hts _ k2) (hts _ k3) (hts _ k4) (by omega) (by omega) (by omega) (by omega) hd (go _ _ _ _ hn hl ⟨⟨_, rfl, by subst x1 y1; by_cases q : x < y <;> simp only [q, if_true, if_false] <;> (rw [Int32.lt_iff_toInt_lt] at q) <;> simp [q]⟩, g1⟩)
        · dsimp only at k0; omega
        · dsimp only at k0; omega
      · exact hw.elim
    · simp only [cx_mmf] at hw
      split at hw
      · obtain ⟨⟨m1, m2⟩, hn⟩ := hw
        obtain ⟨w0, ws, rfl, e0, g0⟩ := cx_cons h1
        obtain ⟨w, ws, rfl, e1, g1⟩ := cx_cons g0
        obtain ⟨y, rfl, y1⟩ := cx_int e0
        obtain ⟨x, rfl, x1⟩ := cx_int e1
        have h3 := cx_szc g1
        rcases lk with ⟨k0, -⟩ | ⟨k0, k1, k2, k3, k4⟩ | ⟨k0, -⟩
        · dsimp only at k0; omega
        · exact va_mmin hx hb (hml.trans hl.1.symm) hown (hts _ k1) (hts _ k2) (hts _ k3) (hts _ k4) (by omega) (by omega) (by omega) (by omega) hd (go _ _ _ _ hn hl ⟨⟨_, rfl, by subst x1 y1; by_cases q : y < x <;> simp only [q, if_true, if_false] <;> (rw [Int32.lt_iff_toInt_lt] at q) <;> simp [q]⟩, g1⟩)
        · dsimp only at k0; omega
      · exact hw.elim
    · rename_i n1 n2
      exact (hcall (Or.inr (Or.inl ⟨⟨idx, rfl⟩, n1, n2⟩))).elim
  case invokespecial idx =>
    simp only [cx_sE, Bool.and_eq_true, beq_iff_eq] at hse
    obtain ⟨rfl, -⟩ := hse
    simp only [cx_ins] at hw
    split at hw
    · simp only [cx_obf] at hw
      split at hw
      · obtain ⟨⟨m1, m2⟩, hn⟩ := hw
        obtain ⟨w, ws, rfl, e1, g1⟩ := cx_cons h1
        cases cx_ref e1
        have h3 := cx_szc g1
        rcases lk with ⟨k0, k1, k2, k3⟩ | ⟨k0, -⟩
        · refine W.objInit hx hb hown (hts _ k1) (hts _ k2) (hts _ k3) rfl (by rw [hml]; exact hl.1) rfl hd (by omega) ?_ (go _ _ _ _ hn hl g1)
          show 2 * 0 + (ws.map fun v => v.category).sum + 12 ≤ R.locals
          omega
        · exact absurd rfl k0
      · exact hw.elim
    · rename_i n1
      exact (hcall (Or.inr (Or.inr ⟨⟨idx, rfl⟩, n1⟩))).elim
  case invokevirtual idx =>
    exact (hcall (Or.inl ⟨idx, rfl⟩)).elim
  all_goals (exact (show False from hw).elim)
/-- a row of instructions -/
theorem cx_wp_ok {pf : cx_Pf} (Fx : cx_Fx Tg Tn AO G TY ra PG tys) (hmd : ∀ M ∈ PG, cx_md Tg Tn AO G TY ra PG M) (hpf : ∀ u f, pf u = some f → cx_pok Tg Tn AO G TY ra PG l D tys B b L xs u f) (hM : cx_md Tg Tn AO G TY ra PG M) : ∀ (n pc : Nat) (lv : cx_L) (st : List cx_V) (h : cx_Q) (bc bs : Nat),
    cx_wp ra pf (ev_mF M) (ev_mO M) (ev_mR M) (cx_W Tg Tn AO G TY ra l D tys B b L xs M P) (cx_cl Tg Tn AO G TY ra l D tys B b L xs PG M P) P (cx_take M pc n) pc lv st h bc bs → cx_W Tg Tn AO G TY ra l D tys B b L xs M P pc lv st h bc bs
  | 0, pc, lv, st, h, bc, bs, hw => hw
  | n + 1, pc, lv, st, h, bc, bs, hw => by
    unfold cx_take at hw
    split at hw
    · rename_i E hE
      obtain ⟨q1, q2, q3⟩ := hM pc E hE
      exact cx_ins_ok Fx hmd hpf hE q1 q2 q3 hw (fun lv' st' h' bc' bs' q => cx_wp_ok Fx hmd hpf hM n _ _ _ _ _ _ q)
    · exact hw
end CXS
