/-! THE CLAIM OUT OF ONE WALK OF THE LAW'S BODY. Your part is whole_start (and what it stands on); all else here is the same for every law, but numbers. -/
def R_law : String := "RatchetPostLaw"
def lw_P (b : Addr) (xs : List Int32) (args : Array Value) (s : State) : Prop := args = #[.ref b] ∧ s.IntsAt b xs ∧ xs.length ≤ 8 ∧ (Jvm.Cond.and given_1 narrow_1).before args s = true
def lw_Q (_ : Array Value) (s : State) (o : Outcome) (t : State) : Prop := o = .returned (some (.int 1)) ∧ Framed s o t [] 600000 7302249
def lw_Z (below : List Frame) (a : Array Value) (s : State) : State → Prop := fun t => ∃ o, t.status = .running ∧ Ended t below o ∧ lw_Q a s o t
/-- the law's own end, with 1 on the stack, nothing written that was there before, its room as the claim has it -/
theorem lw_ret {p : Program} {l : Launch} {e : Env} {s : State} {m : MethodId} {below : List Frame} {meth : Method} {c : Code} {b : Nat} (hx : p.tables.exec = Jvm.exec) (hb : c.code = code) (hr : meth.sig.returnType = ret) (hlocks : meth.locks = false) {pc : Nat} {H : Heap} {ls : Array Slot} (hdg : decode code pc = .ok (.ireturn, 1)) : W p l e room_1 s m #[Value.ref b] below meth c H [] 600000 7302249 (lw_Z below #[Value.ref b] s) (F0 m pc ls [.int 1]) := by
  intro T hT X
  obtain ⟨fs, hret, hrun, hended, hW, hframe⟩ := X.leave (v := some (.int 1)) (hlocks := hlocks) (fun h => by rw [hr] at h; cases h)
  have hmeth' : T.vm.method? m = some meth := X.method'
  refine ⟨T.setFrames fs, ?_, .returned (some (.int 1)), hrun, hended, rfl, ⟨_, rfl⟩, hW, hframe⟩
  jvm_step X.here [X.here.top, hx, hb, hdg, hmeth', hr, ret, narrow_b1]
  (try refine ⟨rfl, ?_⟩); (try refine ⟨rfl, ?_⟩)
  first | (intro acts; rw [hret _ acts rfl rfl rfl]) | rw [hret _ _ rfl rfl rfl]
  exact Steps.refl _
/-- what holds at the law's entry: the machine, the code, the tables' words (any of lw_tbl by 'hts w (by decide +kernel)'), the script of L ints xs at the cell b, what the Statement gives of the start (any of its parts by flat_of_before) -/
def lw_At (p : Program) (s : State) (m : MethodId) (meth : Method) (c : Code) (b L : Nat) (xs : Nat → Int32) : Prop :=
  p.tables.exec = Jvm.exec ∧ c.code = code ∧ meth.sig.returnType = ret ∧ c.maxLocals = 4 ∧ s.vm.findClass R_law = some m.cls ∧ (∀ w ∈ lw_tbl, w.before #[Value.ref b] s = true) ∧ va_X b L xs s s.heap ∧ b < s.heap.size ∧ meth.locks = false ∧ (Jvm.Cond.and given_1 narrow_1).before #[Value.ref b] s = true
-- ===== YOUR PART BEGINS =====
theorem ev_one {x : Int32} (h1 : 1 ≤ x.toInt) (h2 : x.toInt ≤ 1) : x = 1 := Int32.toInt_inj.mp (by have : (1 : Int32).toInt = 1 := rfl; omega)
/-- the law, from its entry, by a run of the abstract machine -/
theorem law_go {p : Program} {e : Env} {s : State} {m : MethodId} {below : List Frame} {meth : Method} {c : Code} (l : Launch) {b L : Nat} {xs : Nat → Int32} (C0 : lw_At p s m meth c b L xs) (sg : List ev_A) (hrun : fx_run ev_G0 ev_pg ev_fin1 ev_nostop 3000 ([(mi_L_law, 0, [(0, (4, 0, 0))], [], 600000, 7302249)], (0, []), sg) = true) (hsc : ev_Sc sg L xs) : W p l e room_1 s m #[Value.ref b] below meth c s.heap [] 0 0 (lw_Z below #[Value.ref b] s) (entryFrame m ([Value.ref b] : List Value).toArray 4) := by
  obtain ⟨hx, hb, hr, hml, hown, hts, hX, hbl, hlocks, hgv⟩ := id C0
  have hts0 : ∀ w ∈ ev_TT.flatten, w.before #[Value.ref b] s = true := fun w hw => hts w (ev_TT_in w hw)
  obtain ⟨D, tys, htys, hKw⟩ := ev_exK hts0
  have hg := ev_sound (l := l) (D := D) (tys := tys) (o := true) (B := s.heap.size) (b := b) (L := L) (xs := xs) (fin := ev_fin1) (stop := ev_nostop) (dk := fun M => M = mi_L_law ∨ M ∈ ev_pg) ev_fx0 ev_pg_ok (fun _ h => Or.inr h) (fun M hM => by
    rcases hM with h | h
    · subst h; exact okd_L_law
    · exact (ev_pg_ok M h).2.2.2.2.2.2.2) (by decide) htys (ev_pg_hv l) (fun _ _ h => by cases h) 3000 _ (fx_run_ok 3000 _ hrun)
  have hcx : ev_Cx D tys (ev_TT.flatten.filter goodWord) (ev_TT.flatten.filter ev_isN) ev_AO0 ev_G0 mi_L_law p s m #[Value.ref b] meth c := ⟨hx, hb, hml, hown, fun w hw => hts0 w (List.mem_filter.mp hw).1, hr, hlocks, fun h => absurd h (by decide), hKw⟩
  have hl := lv_entry ([.ref b]) (n := 4) (Nat.le_of_ble_eq_true rfl)
  rw [lg_entry_eq]
  refine hg (Or.inl rfl) (fun _ h => by cases h) p e room_1 s m #[Value.ref b] below meth c _ s.heap [] 0 0 _ _ [] 600000 7302249 hcx hl ⟨⟨rfl, rfl⟩, trivial⟩ trivial ⟨rfl, fun i c q => (by simp [ev_hg, ev_nth] at q)⟩ ⟨fun _ _ => rfl, fun _ q => (by cases q)⟩ ⟨hsc, fun _ => rfl, fun _ => ⟨hbl, hX⟩⟩ (by decide) (by decide) (by decide) (by decide) (by decide) (by decide) ?_
  intro H1 locs1 cells1 slots1 ls1 pc1 cst1 E1 st1 a1 h1' sg1 hP hat hlen1 hrok g1' hR1 hLo1 hSd1 hc1 hs1
  refine va_forget hLo1.2 ?_
  refine W.widen hc1 hs1 ?_
  have hd1 := (okd_L_law pc1 E1 hat).1
  rw [hlen1] at hd1
  have hf : ev_fin1 a1 h1' = true := hP
  obtain ⟨ins, len, u, v, z⟩ := E1
  have hR2 : ev_mR mi_L_law = some .boolean := rfl
  cases ins
  case ireturn =>
    simp only [ev_rok, hR2] at hrok
    split at hrok
    · rename_i a' ty hM
      split at hrok
      · cases hrok
        obtain ⟨w, ws, rfl, e1, g2⟩ := ev_cons g1'
        have := ev_nil g2
        subst this
        unfold ev_fin1 at hf
        simp only [Bool.and_eq_true, beq_iff_eq] at hf
        obtain ⟨t, l1, h1⟩ := a'
        obtain ⟨⟨rfl, rfl⟩, rfl⟩ := hf
        obtain ⟨x, rfl, b1, b2⟩ := ev_int e1
        have := ev_one b1 b2
        subst this
        exact lw_ret hx hb hr hlocks hd1
      · cases hrok
    · cases hrok
  case return_ =>
    simp only [ev_rok, hR2] at hrok
    cases hrok
  case lreturn =>
    simp only [ev_rok, hR2] at hrok
    split at hrok
    · rename_i a' ty hM
      cases hM
      simp [ev_tyJ] at hrok
    · cases hrok
  case areturn =>
    simp only [ev_rok, hR2] at hrok
    split at hrok
    · rename_i a' ty hM
      cases hM
      simp [ev_fs] at hrok
    · cases hrok
  all_goals (exact absurd hrok (by simp [ev_rok]))
theorem ev_sc8 {xs : Nat → Int32} {a0 a3 : ev_A} (h0 : ev_g 0 0 (.int (xs 0)) a0) (h3 : ev_g 0 0 (.int (xs 3)) a3) : ev_Sc [(0, 8, 8), a0, (0, -2147483648, 2147483647), (0, -2147483648, 2147483647), a3, (0, -2147483648, 2147483647), (0, -2147483648, 2147483647), (0, -2147483648, 2147483647), (0, -2147483648, 2147483647)] 8 xs := by
  refine ⟨by decide, fun a h => ?_, fun j a h hj => ?_⟩
  · cases h
    exact ⟨8, rfl, by decide, by decide⟩
  · match j, h with
    | 0, h => cases h; exact h0
    | 1, h => cases h; exact ev_tI_ok _
    | 2, h => cases h; exact ev_tI_ok _
    | 3, h => cases h; exact h3
    | 4, h => cases h; exact ev_tI_ok _
    | 5, h => cases h; exact ev_tI_ok _
    | 6, h => cases h; exact ev_tI_ok _
    | 7, h => cases h; exact ev_tI_ok _
    | k + 8, h => exact absurd hj (by omega)
/-- YOUR PART: from the entry, for every script of at most 8 ints, the law comes to its end with true -/
theorem whole_start {p : Program} {e : Env} {s : State} {m : MethodId} {below : List Frame} {meth : Method} {c : Code} (l : Launch) {b L : Nat} {xs : Nat → Int32} (hL : L ≤ 8) (C0 : lw_At p s m meth c b L xs) : W p l e room_1 s m #[Value.ref b] below meth c s.heap [] 0 0 (lw_Z below #[Value.ref b] s) (entryFrame m ([Value.ref b] : List Value).toArray 4) := by
  rcases (show L = 0 ∨ L = 1 ∨ (2 ≤ L ∧ L ≤ 7) ∨ L = 8 by omega) with rfl | rfl | hL2 | rfl
  · refine law_go l C0 sg_z0 rn_z0 ⟨by decide, fun a h => ?_, fun j a h hj => absurd hj (by omega)⟩
    cases h
    exact ⟨0, rfl, by decide, by decide⟩
  · refine law_go l C0 sg_z1 rn_z1 ⟨by decide, fun a h => ?_, fun j a h hj => ?_⟩
    · cases h
      exact ⟨1, rfl, by decide, by decide⟩
    · match j, h with
      | 0, h => cases h; exact ev_tI_ok _
      | k + 1, h => exact absurd hj (by omega)
  · refine law_go l C0 sg_z2 rn_z2 ⟨by omega, fun a h => ?_, fun j a h hj => ?_⟩
    · cases h
      have e1 : (nI L).toInt = L := nI_toInt (by omega)
      exact ⟨nI L, rfl, by rw [e1]; show (2 : Int) ≤ _; omega, by rw [e1]; show _ ≤ (7 : Int); omega⟩
    · match j, h with
      | 0, h => cases h; exact ev_tI_ok _
      | 1, h => cases h; exact ev_tI_ok _
      | k + 2, h => simp [sg_z2] at h
  · obtain ⟨a0, m0, g0⟩ := ev_cut_ok (B := 0) (b := 0) (x := xs 0) (ks := [2, 3, 4, 5, 6, 7]) (Int32.minValue_le_toInt (xs 0)) (Int32.toInt_le (xs 0))
    have m0 : a0 ∈ [((0, -2147483648, 1) : ev_A), ((0, 2, 2) : ev_A), ((0, 3, 3) : ev_A), ((0, 4, 4) : ev_A), ((0, 5, 5) : ev_A), ((0, 6, 6) : ev_A), ((0, 7, 2147483647) : ev_A)] := m0
    simp only [List.mem_cons, List.not_mem_nil, or_false] at m0
    rcases m0 with rfl | rfl | rfl | rfl | rfl | rfl | rfl
    · exact law_go l C0 sg_n0_0 rn_n0_0 (ev_sc8 g0 (ev_tI_ok _))
    · exact law_go l C0 sg_n1_0 rn_n1_0 (ev_sc8 g0 (ev_tI_ok _))
    · obtain ⟨a3, m3, g3⟩ := ev_cut_ok (B := 0) (b := 0) (x := xs 3) (ks := [1, 2]) (Int32.minValue_le_toInt (xs 3)) (Int32.toInt_le (xs 3))
      have m3 : a3 ∈ [((0, -2147483648, 0) : ev_A), ((0, 1, 1) : ev_A), ((0, 2, 2147483647) : ev_A)] := m3
      simp only [List.mem_cons, List.not_mem_nil, or_false] at m3
      rcases m3 with rfl | rfl | rfl
      · exact law_go l C0 sg_n2_0 rn_n2_0 (ev_sc8 g0 g3)
      · exact law_go l C0 sg_n2_1 rn_n2_1 (ev_sc8 g0 g3)
      · exact law_go l C0 sg_n2_2 rn_n2_2 (ev_sc8 g0 g3)
    · obtain ⟨a3, m3, g3⟩ := ev_cut_ok (B := 0) (b := 0) (x := xs 3) (ks := [1, 2, 3]) (Int32.minValue_le_toInt (xs 3)) (Int32.toInt_le (xs 3))
      have m3 : a3 ∈ [((0, -2147483648, 0) : ev_A), ((0, 1, 1) : ev_A), ((0, 2, 2) : ev_A), ((0, 3, 2147483647) : ev_A)] := m3
      simp only [List.mem_cons, List.not_mem_nil, or_false] at m3
      rcases m3 with rfl | rfl | rfl | rfl
      · exact law_go l C0 sg_n3_0 rn_n3_0 (ev_sc8 g0 g3)
      · exact law_go l C0 sg_n3_1 rn_n3_1 (ev_sc8 g0 g3)
      · exact law_go l C0 sg_n3_2 rn_n3_2 (ev_sc8 g0 g3)
      · exact law_go l C0 sg_n3_3 rn_n3_3 (ev_sc8 g0 g3)
    · obtain ⟨a3, m3, g3⟩ := ev_cut_ok (B := 0) (b := 0) (x := xs 3) (ks := [1, 2, 3, 4]) (Int32.minValue_le_toInt (xs 3)) (Int32.toInt_le (xs 3))
      have m3 : a3 ∈ [((0, -2147483648, 0) : ev_A), ((0, 1, 1) : ev_A), ((0, 2, 2) : ev_A), ((0, 3, 3) : ev_A), ((0, 4, 2147483647) : ev_A)] := m3
      simp only [List.mem_cons, List.not_mem_nil, or_false] at m3
      rcases m3 with rfl | rfl | rfl | rfl | rfl
      · exact law_go l C0 sg_n4_0 rn_n4_0 (ev_sc8 g0 g3)
      · exact law_go l C0 sg_n4_1 rn_n4_1 (ev_sc8 g0 g3)
      · exact law_go l C0 sg_n4_2 rn_n4_2 (ev_sc8 g0 g3)
      · exact law_go l C0 sg_n4_3 rn_n4_3 (ev_sc8 g0 g3)
      · exact law_go l C0 sg_n4_4 rn_n4_4 (ev_sc8 g0 g3)
    · obtain ⟨a3, m3, g3⟩ := ev_cut_ok (B := 0) (b := 0) (x := xs 3) (ks := [1, 2, 3, 4, 5]) (Int32.minValue_le_toInt (xs 3)) (Int32.toInt_le (xs 3))
      have m3 : a3 ∈ [((0, -2147483648, 0) : ev_A), ((0, 1, 1) : ev_A), ((0, 2, 2) : ev_A), ((0, 3, 3) : ev_A), ((0, 4, 4) : ev_A), ((0, 5, 2147483647) : ev_A)] := m3
      simp only [List.mem_cons, List.not_mem_nil, or_false] at m3
      rcases m3 with rfl | rfl | rfl | rfl | rfl | rfl
      · exact law_go l C0 sg_n5_0 rn_n5_0 (ev_sc8 g0 g3)
      · exact law_go l C0 sg_n5_1 rn_n5_1 (ev_sc8 g0 g3)
      · exact law_go l C0 sg_n5_2 rn_n5_2 (ev_sc8 g0 g3)
      · exact law_go l C0 sg_n5_3 rn_n5_3 (ev_sc8 g0 g3)
      · exact law_go l C0 sg_n5_4 rn_n5_4 (ev_sc8 g0 g3)
      · exact law_go l C0 sg_n5_5 rn_n5_5 (ev_sc8 g0 g3)
    · obtain ⟨a3, m3, g3⟩ := ev_cut_ok (B := 0) (b := 0) (x := xs 3) (ks := [1, 2, 3, 4, 5]) (Int32.minValue_le_toInt (xs 3)) (Int32.toInt_le (xs 3))
      have m3 : a3 ∈ [((0, -2147483648, 0) : ev_A), ((0, 1, 1) : ev_A), ((0, 2, 2) : ev_A), ((0, 3, 3) : ev_A), ((0, 4, 4) : ev_A), ((0, 5, 2147483647) : ev_A)] := m3
      simp only [List.mem_cons, List.not_mem_nil, or_false] at m3
      rcases m3 with rfl | rfl | rfl | rfl | rfl | rfl
      · exact law_go l C0 sg_n6_0 rn_n6_0 (ev_sc8 g0 g3)
      · exact law_go l C0 sg_n6_1 rn_n6_1 (ev_sc8 g0 g3)
      · exact law_go l C0 sg_n6_2 rn_n6_2 (ev_sc8 g0 g3)
      · exact law_go l C0 sg_n6_3 rn_n6_3 (ev_sc8 g0 g3)
      · exact law_go l C0 sg_n6_4 rn_n6_4 (ev_sc8 g0 g3)
      · exact law_go l C0 sg_n6_5 rn_n6_5 (ev_sc8 g0 g3)
-- ===== YOUR PART ENDS =====
set_option maxHeartbeats 4000000 in
theorem lw_walk (l : Launch) (b : Addr) (xs : List Int32) : MetFree l x (headSpec (Jvm.Cond.code x code maxLocals ret :: tables_1) room_1) (lw_P b xs) (fun _ _ _ _ _ => True) lw_Q := by
  refine MetFree.of_bodyS (code := code) (maxLocals := maxLocals) (ret := ret) (by decide) ?_ ?_
  · intro args s m h hn
    obtain ⟨meth, c, h1, h2, h3, h4, h5, h6, -, -⟩ := Cond.code_spec hn (atoms_spec (ws := Jvm.Cond.code x code maxLocals ret :: tables_1) h _ List.mem_cons_self)
    exact ⟨meth, c, h1, h2, h3, h4, h5, h6⟩
  · intro p e s m args below meth c s₁ B hml0 hP _
    obtain ⟨rfl, hx, hbd, hgv⟩ := hP
    obtain ⟨scr, harrAt, hlist, hof, hsmall⟩ := hx
    obtain ⟨hcb, hkn, -, -⟩ := State.arrayAt?_spec harrAt
    have hown : s.vm.findClass R_law = some m.cls := findClass_of_methodNamed B.named
    have hts0 : ∀ c ∈ (Jvm.Cond.code x code maxLocals ret :: tables_1), c.before #[Value.ref b] s = true := atoms_spec (ws := Jvm.Cond.code x code maxLocals ret :: tables_1) B.pre
    have hts : ∀ w ∈ lw_tbl, w.before #[Value.ref b] s = true := k2_hts_sels lw_privs (fun w hw => hts0 w (List.mem_cons_of_mem _ hw)) lw_privs_ok
    have hml : c.maxLocals = 4 := B.maxLocals_eq (hts0 _ List.mem_cons_self)
    have X₀ : Stand p l e room_1 s m #[Value.ref b] below meth c s₁ [] 0 0 := Stand.of_body B
    have hh0 : s₁.heap = s.heap := by rw [B.state]; rfl
    have hsz : scr.slots.size = xs.length := by rw [← Array.length_toList, hlist, List.length_map]
    have hval : ∀ j : Nat, j < xs.length → scr.slots[j]? = some (.int (xs.getD j 0)) := fun j hj => by
      rw [← Array.getElem?_toList, hlist]
      simp [hj]
    have hbl : b < s.heap.size := (Array.getElem?_eq_some_iff.mp hcb).1
    have hX : va_X b xs.length (fun j => xs.getD j 0) s s.heap := ⟨scr, hcb, hof, hkn, hsz, hval⟩
    have K : W p l e room_1 s m #[Value.ref b] below meth c s₁.heap [] 0 0 (lw_Z below #[Value.ref b] s) (entryFrame m ([Value.ref b] : List Value).toArray 4) := by
      rw [hh0]
      exact whole_start l hbd ⟨B.exec, B.bytes, B.returns, hml, hown, hts, hX, hbl, B.notSynchronized, hgv⟩
    obtain ⟨t, a1, o, b1, b2, b3⟩ := K s₁ rfl X₀
    exact ⟨t, o, a1, b1, b2, b3⟩
theorem lw_pre_spec {args : Array Value} {s : State} (h : (Jvm.Cond.and given_1 narrow_1).before args s = true) (hr : rest_1_c.before args s = true) : ∃ (b : Addr) (xs : List Int32), lw_P b xs args s := by
  have hs := flat_of_before _ h
  have hq := flat_of_before _ hr
  have hc : (Cond.count 1).before args s = true := hs _ (by decide +kernel)
  have harr : (Cond.arrayOf (.arg 0) .int).before args s = true := hs _ (by decide +kernel)
  have hle : (Cond.le (.length (.arg 0)) (.int 8)).before args s = true := hs _ (by decide +kernel)
  have hlen : (Cond.isInt (.length (.arg 0))).before args s = true := hq _ (by decide +kernel)
  have hall : (Cond.all (.arg 0) (.isInt (.elem (.arg 0) (.index 0)))).before args s = true := hq _ (by decide +kernel)
  obtain ⟨b, xs, hb, hx⟩ := State.ints_of_pre rfl harr hlen hall
  have hsm : xs.length < 2 ^ 31 := hx.choose_spec.2.2.2
  have hev : (Term.length (.arg 0)).eval args s none [] s = some (.int xs.length.toInt32) := hx.length_eval hb
  have hv := Cond.le_ints hev (show (Term.int 8).eval args s none [] s = some (.int 8) from rfl)
  have hd : xs.length.toInt32 ≤ 8 := by
    simpa [Cond.before, Cond.holds, hv] using hle
  have hN : xs.length ≤ 8 := (Int32.ofNat_le_ofNat hsm (by decide)).mp (show Int32.ofNat xs.length ≤ Int32.ofNat 8 from hd)
  exact ⟨b, xs, Cond.one_arg hc (show args[0]? = some (.ref b) from hb), hx, hN, h⟩
theorem lw_comes (l : Launch) : Comes l x (Jvm.Cond.code x code maxLocals ret :: tables_1) room_1 (fun tb e args s => Calls_1 tb e args s ∧ rest_1 tb e args s ∧ Pre_1 tb e args s)
    (fun _ _ args s o t => lw_Q args s o t) := by
  intro p e ha hc hk s m args below hf hfit hheap happ hpre
  obtain ⟨b, xs, hP⟩ := lw_pre_spec hpre.2.2 hpre.2.1
  obtain ⟨k, o, h1, h2, h3, hQ⟩ := lw_walk l b xs p e ha hc hk s m args below hf ((Spec.applies_iff_loose hf).mp happ).1 hP trivial
  exact ⟨k, o, h1, h2, h3, hQ⟩
theorem lw_frame {s t : State} {o : Outcome} {args : Array Value} (h : Framed s o t [] 600000 7302249) :
    Framed s o t (fieldLocs frame_1_writes args s ++ arrayLocs frame_1_arrays args s ++ staticLocs frame_1_statics s) 600000 7302249 := h
theorem lw_limb (L : Cond) (hL : ∀ (args : Array Value) (s t : State), L.after args s (.returned (some (.int 1))) t = true) :
    ArmFor flags0 classFile x code maxLocals ret World_1 tables_1 room_1 Calls_1 rest_1 Pre_1
      (fun tb e a s o t => postC L tb e a s o t ∧ Framed s o t (fieldLocs frame_1_writes a s ++ arrayLocs frame_1_arrays a s ++ staticLocs frame_1_statics s) 600000 7302249) := by
  intro l _ _ _ p e ha hc hk s m args below hf hfit hheap happ hpre
  obtain ⟨k, o, h1, h2, h3, rfl, hF⟩ := lw_comes l p e ha hc hk s m args below hf hfit hheap happ hpre
  exact ⟨k, _, h1, h2, h3, hL args s _, lw_frame hF⟩
theorem i_vc : Claimed_1_1 ∧ Claimed_1_2 := ⟨lw_limb limb_1_1 (fun args s t => by simp [limb_1_1, Cond.after, Cond.holds, Cond.value]), lw_limb limb_1_2 (fun args s t => Cond.after_iff.mpr (by
  first | (rw [show limb_1_2 = Cond.eq .result (.int 1) from rfl, Cond.eq_ints (x := 1) (y := 1) rfl rfl]; simp; done) | (simp [limb_1_2, Cond.value, Term.eval]; done)))⟩
