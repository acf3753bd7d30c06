set_option maxRecDepth 100000 in
theorem ok_X7_init : ev_mok (ev_TT.flatten.filter goodWord) (ev_TT.flatten.filter ev_isN) ev_AO0 ev_G0 ev_TY0 ev_pg mi_X7_init := ev_mchk_ok nd_X7_init (ev_cin (l := tables_1_2) 2 121 rfl rfl rfl) (by decide +kernel) (by decide +kernel) (by decide +kernel)
set_option maxRecDepth 100000 in
theorem md_X7_init : cx_md (ev_TT.flatten.filter goodWord) (ev_TT.flatten.filter ev_isN) ev_AO0 ev_G0 ev_TY0 ra0 ev_pg mi_X7_init := fun pc E hE => ⟨(ok_X7_init.2.2.2.2.2.2.2 pc E hE).1, (ok_X7_init.2.2.2.2.2.2.2 pc E hE).2, cx_schk_ok (M := mi_X7_init) (by decide +kernel) hE⟩
set_option maxRecDepth 100000 in
theorem ok_X7_isGot : ev_mok (ev_TT.flatten.filter goodWord) (ev_TT.flatten.filter ev_isN) ev_AO0 ev_G0 ev_TY0 ev_pg mi_X7_isGot := ev_mchk_ok nd_X7_isGot (ev_cin (l := tables_1_4) 4 212 rfl rfl rfl) (by decide +kernel) (by decide +kernel) (by decide +kernel)
set_option maxRecDepth 100000 in
theorem md_X7_isGot : cx_md (ev_TT.flatten.filter goodWord) (ev_TT.flatten.filter ev_isN) ev_AO0 ev_G0 ev_TY0 ra0 ev_pg mi_X7_isGot := fun pc E hE => ⟨(ok_X7_isGot.2.2.2.2.2.2.2 pc E hE).1, (ok_X7_isGot.2.2.2.2.2.2.2 pc E hE).2, cx_schk_ok (M := mi_X7_isGot) (by decide +kernel) hE⟩
set_option maxRecDepth 100000 in
theorem ok_X8_giveAway : ev_mok (ev_TT.flatten.filter goodWord) (ev_TT.flatten.filter ev_isN) ev_AO0 ev_G0 ev_TY0 ev_pg mi_X8_giveAway := ev_mchk_ok nd_X8_giveAway (ev_cin (l := tables_1_4) 4 178 rfl rfl rfl) (by decide +kernel) (by decide +kernel) (by decide +kernel)
set_option maxRecDepth 100000 in
theorem md_X8_giveAway : cx_md (ev_TT.flatten.filter goodWord) (ev_TT.flatten.filter ev_isN) ev_AO0 ev_G0 ev_TY0 ra0 ev_pg mi_X8_giveAway := fun pc E hE => ⟨(ok_X8_giveAway.2.2.2.2.2.2.2 pc E hE).1, (ok_X8_giveAway.2.2.2.2.2.2.2 pc E hE).2, cx_schk_ok (M := mi_X8_giveAway) (by decide +kernel) hE⟩
set_option maxRecDepth 100000 in
theorem ok_X8_init : ev_mok (ev_TT.flatten.filter goodWord) (ev_TT.flatten.filter ev_isN) ev_AO0 ev_G0 ev_TY0 ev_pg mi_X8_init := ev_mchk_ok nd_X8_init (ev_cin (l := tables_1_3) 3 3 rfl rfl rfl) (by decide +kernel) (by decide +kernel) (by decide +kernel)
set_option maxRecDepth 100000 in
theorem md_X8_init : cx_md (ev_TT.flatten.filter goodWord) (ev_TT.flatten.filter ev_isN) ev_AO0 ev_G0 ev_TY0 ra0 ev_pg mi_X8_init := fun pc E hE => ⟨(ok_X8_init.2.2.2.2.2.2.2 pc E hE).1, (ok_X8_init.2.2.2.2.2.2.2 pc E hE).2, cx_schk_ok (M := mi_X8_init) (by decide +kernel) hE⟩
set_option maxRecDepth 100000 in
theorem ok_X8_meet : ev_mok (ev_TT.flatten.filter goodWord) (ev_TT.flatten.filter ev_isN) ev_AO0 ev_G0 ev_TY0 ev_pg mi_X8_meet := ev_mchk_ok nd_X8_meet (ev_cin (l := tables_1_3) 3 121 rfl rfl rfl) (by decide +kernel) (by decide +kernel) (by decide +kernel)
set_option maxRecDepth 100000 in
theorem md_X8_meet : cx_md (ev_TT.flatten.filter goodWord) (ev_TT.flatten.filter ev_isN) ev_AO0 ev_G0 ev_TY0 ra0 ev_pg mi_X8_meet := fun pc E hE => ⟨(ok_X8_meet.2.2.2.2.2.2.2 pc E hE).1, (ok_X8_meet.2.2.2.2.2.2.2 pc E hE).2, cx_schk_ok (M := mi_X8_meet) (by decide +kernel) hE⟩
set_option maxRecDepth 100000 in
theorem ok_X8_turnReceiving : ev_mok (ev_TT.flatten.filter goodWord) (ev_TT.flatten.filter ev_isN) ev_AO0 ev_G0 ev_TY0 ev_pg mi_X8_turnReceiving := ev_mchk_ok nd_X8_turnReceiving (ev_cin (l := tables_1_4) 4 47 rfl rfl rfl) (by decide +kernel) (by decide +kernel) (by decide +kernel)
set_option maxRecDepth 100000 in
theorem md_X8_turnReceiving : cx_md (ev_TT.flatten.filter goodWord) (ev_TT.flatten.filter ev_isN) ev_AO0 ev_G0 ev_TY0 ra0 ev_pg mi_X8_turnReceiving := fun pc E hE => ⟨(ok_X8_turnReceiving.2.2.2.2.2.2.2 pc E hE).1, (ok_X8_turnReceiving.2.2.2.2.2.2.2 pc E hE).2, cx_schk_ok (M := mi_X8_turnReceiving) (by decide +kernel) hE⟩
set_option maxRecDepth 100000 in
theorem ok_X8_turnSending : ev_mok (ev_TT.flatten.filter goodWord) (ev_TT.flatten.filter ev_isN) ev_AO0 ev_G0 ev_TY0 ev_pg mi_X8_turnSending := ev_mchk_ok nd_X8_turnSending (ev_cin (l := tables_1_3) 3 125 rfl rfl rfl) (by decide +kernel) (by decide +kernel) (by decide +kernel)
set_option maxRecDepth 100000 in
theorem md_X8_turnSending : cx_md (ev_TT.flatten.filter goodWord) (ev_TT.flatten.filter ev_isN) ev_AO0 ev_G0 ev_TY0 ra0 ev_pg mi_X8_turnSending := fun pc E hE => ⟨(ok_X8_turnSending.2.2.2.2.2.2.2 pc E hE).1, (ok_X8_turnSending.2.2.2.2.2.2.2 pc E hE).2, cx_schk_ok (M := mi_X8_turnSending) (by decide +kernel) hE⟩
set_option maxRecDepth 100000 in
theorem ok_X9_giveChain : ev_mok (ev_TT.flatten.filter goodWord) (ev_TT.flatten.filter ev_isN) ev_AO0 ev_G0 ev_TY0 ev_pg mi_X9_giveChain := ev_mchk_ok nd_X9_giveChain (ev_cin (l := tables_1_4) 4 184 rfl rfl rfl) (by decide +kernel) (by decide +kernel) (by decide +kernel)
set_option maxRecDepth 100000 in
theorem md_X9_giveChain : cx_md (ev_TT.flatten.filter goodWord) (ev_TT.flatten.filter ev_isN) ev_AO0 ev_G0 ev_TY0 ra0 ev_pg mi_X9_giveChain := fun pc E hE => ⟨(ok_X9_giveChain.2.2.2.2.2.2.2 pc E hE).1, (ok_X9_giveChain.2.2.2.2.2.2.2 pc E hE).2, cx_schk_ok (M := mi_X9_giveChain) (by decide +kernel) hE⟩
set_option maxRecDepth 100000 in
theorem ok_X9_giveKey : ev_mok (ev_TT.flatten.filter goodWord) (ev_TT.flatten.filter ev_isN) ev_AO0 ev_G0 ev_TY0 ev_pg mi_X9_giveKey := ev_mchk_ok nd_X9_giveKey (ev_cin (l := tables_1_4) 4 193 rfl rfl rfl) (by decide +kernel) (by decide +kernel) (by decide +kernel)
set_option maxRecDepth 100000 in
theorem md_X9_giveKey : cx_md (ev_TT.flatten.filter goodWord) (ev_TT.flatten.filter ev_isN) ev_AO0 ev_G0 ev_TY0 ra0 ev_pg mi_X9_giveKey := fun pc E hE => ⟨(ok_X9_giveKey.2.2.2.2.2.2.2 pc E hE).1, (ok_X9_giveKey.2.2.2.2.2.2.2 pc E hE).2, cx_schk_ok (M := mi_X9_giveKey) (by decide +kernel) hE⟩
set_option maxRecDepth 100000 in
theorem ok_X9_giveRoot : ev_mok (ev_TT.flatten.filter goodWord) (ev_TT.flatten.filter ev_isN) ev_AO0 ev_G0 ev_TY0 ev_pg mi_X9_giveRoot := ev_mchk_ok nd_X9_giveRoot (ev_cin (l := tables_1_2) 2 12 rfl rfl rfl) (by decide +kernel) (by decide +kernel) (by decide +kernel)
set_option maxRecDepth 100000 in
theorem md_X9_giveRoot : cx_md (ev_TT.flatten.filter goodWord) (ev_TT.flatten.filter ev_isN) ev_AO0 ev_G0 ev_TY0 ra0 ev_pg mi_X9_giveRoot := fun pc E hE => ⟨(ok_X9_giveRoot.2.2.2.2.2.2.2 pc E hE).1, (ok_X9_giveRoot.2.2.2.2.2.2.2 pc E hE).2, cx_schk_ok (M := mi_X9_giveRoot) (by decide +kernel) hE⟩
set_option maxRecDepth 100000 in
theorem ok_X9_givesKey : ev_mok (ev_TT.flatten.filter goodWord) (ev_TT.flatten.filter ev_isN) ev_AO0 ev_G0 ev_TY0 ev_pg mi_X9_givesKey := ev_mchk_ok nd_X9_givesKey (ev_cin (l := tables_1_4) 4 201 rfl rfl rfl) (by decide +kernel) (by decide +kernel) (by decide +kernel)
set_option maxRecDepth 100000 in
theorem md_X9_givesKey : cx_md (ev_TT.flatten.filter goodWord) (ev_TT.flatten.filter ev_isN) ev_AO0 ev_G0 ev_TY0 ra0 ev_pg mi_X9_givesKey := fun pc E hE => ⟨(ok_X9_givesKey.2.2.2.2.2.2.2 pc E hE).1, (ok_X9_givesKey.2.2.2.2.2.2.2 pc E hE).2, cx_schk_ok (M := mi_X9_givesKey) (by decide +kernel) hE⟩
set_option maxRecDepth 100000 in
theorem ok_X9_hasCommons : ev_mok (ev_TT.flatten.filter goodWord) (ev_TT.flatten.filter ev_isN) ev_AO0 ev_G0 ev_TY0 ev_pg mi_X9_hasCommons := ev_mchk_ok nd_X9_hasCommons (ev_cin (l := tables_1_4) 4 209 rfl rfl rfl) (by decide +kernel) (by decide +kernel) (by decide +kernel)
set_option maxRecDepth 100000 in
theorem md_X9_hasCommons : cx_md (ev_TT.flatten.filter goodWord) (ev_TT.flatten.filter ev_isN) ev_AO0 ev_G0 ev_TY0 ra0 ev_pg mi_X9_hasCommons := fun pc E hE => ⟨(ok_X9_hasCommons.2.2.2.2.2.2.2 pc E hE).1, (ok_X9_hasCommons.2.2.2.2.2.2.2 pc E hE).2, cx_schk_ok (M := mi_X9_hasCommons) (by decide +kernel) hE⟩
set_option maxRecDepth 100000 in
theorem ok_X9_init : ev_mok (ev_TT.flatten.filter goodWord) (ev_TT.flatten.filter ev_isN) ev_AO0 ev_G0 ev_TY0 ev_pg mi_X9_init := ev_mchk_ok nd_X9_init (ev_cin (l := tables_1_1) 1 131 rfl rfl rfl) (by decide +kernel) (by decide +kernel) (by decide +kernel)
set_option maxRecDepth 100000 in
theorem md_X9_init : cx_md (ev_TT.flatten.filter goodWord) (ev_TT.flatten.filter ev_isN) ev_AO0 ev_G0 ev_TY0 ra0 ev_pg mi_X9_init := fun pc E hE => ⟨(ok_X9_init.2.2.2.2.2.2.2 pc E hE).1, (ok_X9_init.2.2.2.2.2.2.2 pc E hE).2, cx_schk_ok (M := mi_X9_init) (by decide +kernel) hE⟩
set_option maxRecDepth 100000 in
theorem ok_X9_isOf : ev_mok (ev_TT.flatten.filter goodWord) (ev_TT.flatten.filter ev_isN) ev_AO0 ev_G0 ev_TY0 ev_pg mi_X9_isOf := ev_mchk_ok nd_X9_isOf (ev_cin (l := tables_1_2) 2 236 rfl rfl rfl) (by decide +kernel) (by decide +kernel) (by decide +kernel)
set_option maxRecDepth 100000 in
theorem md_X9_isOf : cx_md (ev_TT.flatten.filter goodWord) (ev_TT.flatten.filter ev_isN) ev_AO0 ev_G0 ev_TY0 ra0 ev_pg mi_X9_isOf := fun pc E hE => ⟨(ok_X9_isOf.2.2.2.2.2.2.2 pc E hE).1, (ok_X9_isOf.2.2.2.2.2.2.2 pc E hE).2, cx_schk_ok (M := mi_X9_isOf) (by decide +kernel) hE⟩
set_option maxRecDepth 100000 in
theorem ok_X9_isWorkedOut : ev_mok (ev_TT.flatten.filter goodWord) (ev_TT.flatten.filter ev_isN) ev_AO0 ev_G0 ev_TY0 ev_pg mi_X9_isWorkedOut := ev_mchk_ok nd_X9_isWorkedOut (ev_cin (l := tables_1_4) 4 205 rfl rfl rfl) (by decide +kernel) (by decide +kernel) (by decide +kernel)
set_option maxRecDepth 100000 in
theorem md_X9_isWorkedOut : cx_md (ev_TT.flatten.filter goodWord) (ev_TT.flatten.filter ev_isN) ev_AO0 ev_G0 ev_TY0 ra0 ev_pg mi_X9_isWorkedOut := fun pc E hE => ⟨(ok_X9_isWorkedOut.2.2.2.2.2.2.2 pc E hE).1, (ok_X9_isWorkedOut.2.2.2.2.2.2.2 pc E hE).2, cx_schk_ok (M := mi_X9_isWorkedOut) (by decide +kernel) hE⟩
set_option maxRecDepth 100000 in
theorem ok_X9_turnOf : ev_mok (ev_TT.flatten.filter goodWord) (ev_TT.flatten.filter ev_isN) ev_AO0 ev_G0 ev_TY0 ev_pg mi_X9_turnOf := ev_mchk_ok nd_X9_turnOf (ev_cin (l := tables_1_2) 2 232 rfl rfl rfl) (by decide +kernel) (by decide +kernel) (by decide +kernel)
set_option maxRecDepth 100000 in
theorem md_X9_turnOf : cx_md (ev_TT.flatten.filter goodWord) (ev_TT.flatten.filter ev_isN) ev_AO0 ev_G0 ev_TY0 ra0 ev_pg mi_X9_turnOf := fun pc E hE => ⟨(ok_X9_turnOf.2.2.2.2.2.2.2 pc E hE).1, (ok_X9_turnOf.2.2.2.2.2.2.2 pc E hE).2, cx_schk_ok (M := mi_X9_turnOf) (by decide +kernel) hE⟩
def ev_cck (M : ev_M) (nd : ev_N) (pc : Nat) : Bool := match ev_at M pc with
  | none => true
  | some E => decide (decode (ev_mB M) pc = .ok (E.1, E.2.1)) && ev_lchk ev_AO0 ev_G0 ev_TY0 ev_pg nd (ev_mN M).cls (ev_mK M) E
set_option maxRecDepth 100000 in
theorem ok_law_0 : ∀ i, i < 64 → ev_cck mi_L_law nd_L_law (0 + i) = true := by decide +kernel
set_option maxRecDepth 100000 in
theorem ok_law_1 : ∀ i, i < 64 → ev_cck mi_L_law nd_L_law (64 + i) = true := by decide +kernel
set_option maxRecDepth 100000 in
theorem ok_law_2 : ∀ i, i < 64 → ev_cck mi_L_law nd_L_law (128 + i) = true := by decide +kernel
set_option maxRecDepth 100000 in
theorem ok_law_3 : ∀ i, i < 64 → ev_cck mi_L_law nd_L_law (192 + i) = true := by decide +kernel
set_option maxRecDepth 100000 in
theorem ok_law_4 : ∀ i, i < 64 → ev_cck mi_L_law nd_L_law (256 + i) = true := by decide +kernel
set_option maxRecDepth 100000 in
theorem ok_law_5 : ∀ i, i < 64 → ev_cck mi_L_law nd_L_law (320 + i) = true := by decide +kernel
set_option maxRecDepth 100000 in
theorem ok_law_6 : ∀ i, i < 64 → ev_cck mi_L_law nd_L_law (384 + i) = true := by decide +kernel
set_option maxRecDepth 100000 in
theorem ok_law_7 : ∀ i, i < 64 → ev_cck mi_L_law nd_L_law (448 + i) = true := by decide +kernel
set_option maxRecDepth 100000 in
theorem ok_law_8 : ∀ i, i < 64 → ev_cck mi_L_law nd_L_law (512 + i) = true := by decide +kernel
set_option maxRecDepth 100000 in
theorem ok_law_9 : ∀ i, i < 64 → ev_cck mi_L_law nd_L_law (576 + i) = true := by decide +kernel
set_option maxRecDepth 100000 in
theorem ok_law_10 : ∀ i, i < 64 → ev_cck mi_L_law nd_L_law (640 + i) = true := by decide +kernel
set_option maxRecDepth 100000 in
theorem ok_law_11 : ∀ i, i < 64 → ev_cck mi_L_law nd_L_law (704 + i) = true := by decide +kernel
set_option maxRecDepth 100000 in
theorem ok_law_12 : ∀ i, i < 64 → ev_cck mi_L_law nd_L_law (768 + i) = true := by decide +kernel
set_option maxRecDepth 100000 in
theorem ok_law_13 : ∀ i, i < 64 → ev_cck mi_L_law nd_L_law (832 + i) = true := by decide +kernel
set_option maxRecDepth 100000 in
theorem ok_law_14 : ∀ i, i < 64 → ev_cck mi_L_law nd_L_law (896 + i) = true := by decide +kernel
set_option maxRecDepth 100000 in
theorem ok_law_n : ev_nok ev_TT nd_L_law = true := by decide +kernel
theorem okd_L_law (pc : Nat) (E : ev_E) (hE : ev_at mi_L_law pc = some E) : decode (ev_mB mi_L_law) pc = .ok (E.1, E.2.1) ∧ ev_lok (ev_TT.flatten.filter goodWord) (ev_TT.flatten.filter ev_isN) ev_AO0 ev_G0 ev_TY0 ev_pg (ev_mN mi_L_law).cls (ev_mK mi_L_law) E := by
  have hlt := ev_at_lt hE
  have hlen : (ev_mC mi_L_law).length = 30 := by decide +kernel
  rw [hlen] at hlt
  have h3 : ev_cck mi_L_law nd_L_law pc = true := by
    rcases (show (0 ≤ pc ∧ pc < 64) ∨ (64 ≤ pc ∧ pc < 128) ∨ (128 ≤ pc ∧ pc < 192) ∨ (192 ≤ pc ∧ pc < 256) ∨ (256 ≤ pc ∧ pc < 320) ∨ (320 ≤ pc ∧ pc < 384) ∨ (384 ≤ pc ∧ pc < 448) ∨ (448 ≤ pc ∧ pc < 512) ∨ (512 ≤ pc ∧ pc < 576) ∨ (576 ≤ pc ∧ pc < 640) ∨ (640 ≤ pc ∧ pc < 704) ∨ (704 ≤ pc ∧ pc < 768) ∨ (768 ≤ pc ∧ pc < 832) ∨ (832 ≤ pc ∧ pc < 896) ∨ (896 ≤ pc ∧ pc < 960) by omega) with h | h | h | h | h | h | h | h | h | h | h | h | h | h | h
    · have e : pc = 0 + (pc - 0) := by omega
      rw [e]; exact ok_law_0 _ (by omega)
    · have e : pc = 64 + (pc - 64) := by omega
      rw [e]; exact ok_law_1 _ (by omega)
    · have e : pc = 128 + (pc - 128) := by omega
      rw [e]; exact ok_law_2 _ (by omega)
    · have e : pc = 192 + (pc - 192) := by omega
      rw [e]; exact ok_law_3 _ (by omega)
    · have e : pc = 256 + (pc - 256) := by omega
      rw [e]; exact ok_law_4 _ (by omega)
    · have e : pc = 320 + (pc - 320) := by omega
      rw [e]; exact ok_law_5 _ (by omega)
    · have e : pc = 384 + (pc - 384) := by omega
      rw [e]; exact ok_law_6 _ (by omega)
    · have e : pc = 448 + (pc - 448) := by omega
      rw [e]; exact ok_law_7 _ (by omega)
    · have e : pc = 512 + (pc - 512) := by omega
      rw [e]; exact ok_law_8 _ (by omega)
    · have e : pc = 576 + (pc - 576) := by omega
      rw [e]; exact ok_law_9 _ (by omega)
    · have e : pc = 640 + (pc - 640) := by omega
      rw [e]; exact ok_law_10 _ (by omega)
    · have e : pc = 704 + (pc - 704) := by omega
      rw [e]; exact ok_law_11 _ (by omega)
    · have e : pc = 768 + (pc - 768) := by omega
      rw [e]; exact ok_law_12 _ (by omega)
    · have e : pc = 832 + (pc - 832) := by omega
      rw [e]; exact ok_law_13 _ (by omega)
    · have e : pc = 896 + (pc - 896) := by omega
      rw [e]; exact ok_law_14 _ (by omega)
  unfold ev_cck at h3
  rw [hE] at h3
  dsimp only at h3
  rw [Bool.and_eq_true, decide_eq_true_eq] at h3
  exact ⟨h3.1, ev_lchk_ok ok_law_n (ev_nest_in ok_law_n) h3.2⟩
set_option maxRecDepth 100000 in
theorem md_L_law : cx_md (ev_TT.flatten.filter goodWord) (ev_TT.flatten.filter ev_isN) ev_AO0 ev_G0 ev_TY0 ra0 ev_pg mi_L_law := fun pc E hE => ⟨(okd_L_law pc E hE).1, (okd_L_law pc E hE).2, cx_schk_ok (M := mi_L_law) (by decide +kernel) hE⟩
