def ev_pos (i : Nat) : Option Cond := match ev_nth ev_TT (i / 1000) with
  | some l => ev_nth l (i % 1000)
  | none => none
theorem ev_inps {ws : List Cond} (ps : List Nat) (hp : ws = ps.filterMap ev_pos) (h : ws.all goodWord = true) : ∀ w ∈ ws, w ∈ ev_TT.flatten.filter goodWord := by
  intro w hw
  have h1 := List.all_eq_true.mp h w hw
  rw [hp] at hw
  obtain ⟨i, -, hi⟩ := List.mem_filterMap.mp hw
  unfold ev_pos at hi
  split at hi
  · rename_i l hl
    rw [ev_nth_eq] at hi hl
    exact List.mem_filter.mpr ⟨List.mem_flatten.mpr ⟨l, List.mem_of_getElem? hl, List.mem_of_getElem? hi⟩, h1⟩
  · cases hi
set_option maxRecDepth 100000 in
theorem ev_inW0 : ∀ w ∈ u_ws RX0 TX0 16, w ∈ ev_TT.flatten.filter goodWord := ev_inps [1058, 1060, 1062, 1064, 1066, 1068, 1070, 1072, 1074, 1076, 1078, 1080, 1082, 1084, 1086, 1088] (by decide +kernel) (by decide +kernel)
set_option maxRecDepth 100000 in
theorem cx_f4W0 : ∀ j, j < 16 → ev_fs (tyX0 j) < 4 := by decide +kernel
set_option maxRecDepth 100000 in
theorem ev_inW1 : ∀ w ∈ u_ws RX1 TX1 5, w ∈ ev_TT.flatten.filter goodWord := ev_inps [3020, 3022, 3024, 3026, 3028] (by decide +kernel) (by decide +kernel)
set_option maxRecDepth 100000 in
theorem cx_f4W1 : ∀ j, j < 5 → ev_fs (tyX1 j) < 4 := by decide +kernel
set_option maxRecDepth 100000 in
theorem ev_inW2 : ∀ w ∈ u_ws RX2 TX2 4, w ∈ ev_TT.flatten.filter goodWord := ev_inps [3165, 3167, 3169, 3171] (by decide +kernel) (by decide +kernel)
set_option maxRecDepth 100000 in
theorem cx_f4W2 : ∀ j, j < 4 → ev_fs (tyX2 j) < 4 := by decide +kernel
set_option maxRecDepth 100000 in
theorem ev_inW3 : ∀ w ∈ u_ws RX4 TX4 8, w ∈ ev_TT.flatten.filter goodWord := ev_inps [1107, 1109, 1111, 1113, 1115, 1117, 1119, 1121] (by decide +kernel) (by decide +kernel)
set_option maxRecDepth 100000 in
theorem cx_f4W3 : ∀ j, j < 8 → ev_fs (tyX4 j) < 4 := by decide +kernel
set_option maxRecDepth 100000 in
theorem ev_inW4 : ∀ w ∈ u_ws RX5 TX5 17, w ∈ ev_TT.flatten.filter goodWord := ev_inps [1214, 1216, 1218, 1220, 1222, 1224, 1226, 1228, 1230, 1232, 1234, 1236, 1238, 2000, 2002, 2004, 2006] (by decide +kernel) (by decide +kernel)
set_option maxRecDepth 100000 in
theorem cx_f4W4 : ∀ j, j < 17 → ev_fs (tyX5 j) < 4 := by decide +kernel
set_option maxRecDepth 100000 in
theorem ev_inW5 : ∀ w ∈ u_ws RX6 TX6 2, w ∈ ev_TT.flatten.filter goodWord := ev_inps [1184, 1186] (by decide +kernel) (by decide +kernel)
set_option maxRecDepth 100000 in
theorem cx_f4W5 : ∀ j, j < 2 → ev_fs (tyX6 j) < 4 := by decide +kernel
set_option maxRecDepth 100000 in
theorem ev_inW6 : ∀ w ∈ u_ws RX7 TX7 4, w ∈ ev_TT.flatten.filter goodWord := ev_inps [2136, 2138, 2140, 2142] (by decide +kernel) (by decide +kernel)
set_option maxRecDepth 100000 in
theorem cx_f4W6 : ∀ j, j < 4 → ev_fs (tyX7 j) < 4 := by decide +kernel
set_option maxRecDepth 100000 in
theorem ev_inW7 : ∀ w ∈ u_ws RX8 TX8 20, w ∈ ev_TT.flatten.filter goodWord := ev_inps [3077, 3079, 3081, 3083, 3085, 3087, 3089, 3091, 3093, 3095, 3097, 3099, 3101, 3103, 3105, 3107, 3109, 3111, 3113, 3115] (by decide +kernel) (by decide +kernel)
set_option maxRecDepth 100000 in
theorem cx_f4W7 : ∀ j, j < 20 → ev_fs (tyX8 j) < 4 := by decide +kernel
set_option maxRecDepth 100000 in
theorem ev_inW8 : ∀ w ∈ u_ws RX9 TX9 7, w ∈ ev_TT.flatten.filter goodWord := ev_inps [1141, 1143, 1145, 1147, 1149, 1151, 1153] (by decide +kernel) (by decide +kernel)
set_option maxRecDepth 100000 in
theorem cx_f4W8 : ∀ j, j < 7 → ev_fs (tyX9 j) < 4 := by decide +kernel
set_option maxRecDepth 100000 in
theorem ev_inW9 : ∀ w ∈ u_ws RX10 TX10 15, w ∈ ev_TT.flatten.filter goodWord := ev_inps [2028, 2030, 2032, 2034, 2036, 2038, 2040, 2042, 2044, 2046, 2048, 2050, 2052, 2054, 2056] (by decide +kernel) (by decide +kernel)
set_option maxRecDepth 100000 in
theorem cx_f4W9 : ∀ j, j < 15 → ev_fs (tyX10 j) < 4 := by decide +kernel
set_option maxRecDepth 100000 in
theorem ev_inW10 : ∀ w ∈ u_ws RX11 TX11 87, w ∈ ev_TT.flatten.filter goodWord := ev_inps [5073, 5075, 5077, 5079, 5081, 5083, 5085, 5087, 5089, 5091, 5093, 5095, 5097, 5099, 5101, 5103, 5105, 5107, 5109, 5111, 5113, 5115, 5117, 5119, 5121, 5123, 5125, 5127, 5129, 5131, 5133, 5135, 5137, 5139, 5141, 5143, 5145, 5147, 5149, 5151, 5153, 5155, 5157, 5159, 5161, 5163, 5165, 5167, 5169, 5171, 5173, 5175, 5177, 5179, 5181, 5183, 5185, 5187, 5189, 5191, 5193, 5195, 5197, 5199, 5201, 5203, 5205, 5207, 5209, 5211, 5213, 5215, 5217, 5219, 5221, 5223, 5225, 5227, 5229, 5231, 5233, 5235, 5237, 5239, 6001, 6003, 6005] (by decide +kernel) (by decide +kernel)
set_option maxRecDepth 100000 in
theorem cx_f4W10 : ∀ j, j < 87 → ev_fs (tyX11 j) < 4 := by decide +kernel
theorem ev_tg_good : ∀ w ∈ ev_TT.flatten.filter goodWord, (w.onTables && w.keeps) = true ∨ ∃ ty, w = .arrayClass ty := fun _ h => good_of_word (List.mem_filter.mp h).2
theorem ev_tn_form : ∀ w ∈ ev_TT.flatten.filter ev_isN, (∃ a i x n d hh, w = Cond.fieldLinkNest a i x n d hh) ∨ ∃ a i x hh, w = Cond.methodLinkNest a i x hh := by
  intro w hw
  have h := (List.mem_filter.mp hw).2
  cases w <;> first | exact Or.inl ⟨_, _, _, _, _, _, rfl⟩ | exact Or.inr ⟨_, _, _, _, rfl⟩ | exact absurd h (by simp [ev_isN])
theorem ev_fx0 : ev_Fx (ev_TT.flatten.filter goodWord) (ev_TT.flatten.filter ev_isN) ev_G0 ev_TY0 := by
  refine ⟨by decide, ev_tg_good, ev_tn_form, ?_, fun ci c h => absurd h (by simp [ev_G0])⟩
  intro ci C T N h
  match ci, h with
  | 0, h =>
    have h : some (RX0, TX0, 16) = some (C, T, N) := h
    cases h
    exact ⟨ev_inW0, tyX0_ok, nmX0⟩
  | 1, h =>
    have h : some (RX1, TX1, 5) = some (C, T, N) := h
    cases h
    exact ⟨ev_inW1, tyX1_ok, nmX1⟩
  | 2, h =>
    have h : some (RX2, TX2, 4) = some (C, T, N) := h
    cases h
    exact ⟨ev_inW2, tyX2_ok, nmX2⟩
  | 3, h =>
    have h : some (RX4, TX4, 8) = some (C, T, N) := h
    cases h
    exact ⟨ev_inW3, tyX4_ok, nmX4⟩
  | 4, h =>
    have h : some (RX5, TX5, 17) = some (C, T, N) := h
    cases h
    exact ⟨ev_inW4, tyX5_ok, nmX5⟩
  | 5, h =>
    have h : some (RX6, TX6, 2) = some (C, T, N) := h
    cases h
    exact ⟨ev_inW5, tyX6_ok, nmX6⟩
  | 6, h =>
    have h : some (RX7, TX7, 4) = some (C, T, N) := h
    cases h
    exact ⟨ev_inW6, tyX7_ok, nmX7⟩
  | 7, h =>
    have h : some (RX8, TX8, 20) = some (C, T, N) := h
    cases h
    exact ⟨ev_inW7, tyX8_ok, nmX8⟩
  | 8, h =>
    have h : some (RX9, TX9, 7) = some (C, T, N) := h
    cases h
    exact ⟨ev_inW8, tyX9_ok, nmX9⟩
  | 9, h =>
    have h : some (RX10, TX10, 15) = some (C, T, N) := h
    cases h
    exact ⟨ev_inW9, tyX10_ok, nmX10⟩
  | 10, h =>
    have h : some (RX11, TX11, 87) = some (C, T, N) := h
    cases h
    exact ⟨ev_inW10, tyX11_ok, nmX11⟩
  | j + 11, h => exact absurd h (by simp [ev_G0, ev_cl0])
theorem cx_f40 : ∀ (ci : Nat) (C : String) (T : u_T) (N : Nat), ev_G0.1[ci]? = some (C, T, N) → ∀ j, j < N → ev_fs (ev_TY0 ci j) < 4 := by
  intro ci C T N h
  match ci, h with
  | 0, h =>
    have h : some (RX0, TX0, 16) = some (C, T, N) := h
    cases h
    exact cx_f4W0
  | 1, h =>
    have h : some (RX1, TX1, 5) = some (C, T, N) := h
    cases h
    exact cx_f4W1
  | 2, h =>
    have h : some (RX2, TX2, 4) = some (C, T, N) := h
    cases h
    exact cx_f4W2
  | 3, h =>
    have h : some (RX4, TX4, 8) = some (C, T, N) := h
    cases h
    exact cx_f4W3
  | 4, h =>
    have h : some (RX5, TX5, 17) = some (C, T, N) := h
    cases h
    exact cx_f4W4
  | 5, h =>
    have h : some (RX6, TX6, 2) = some (C, T, N) := h
    cases h
    exact cx_f4W5
  | 6, h =>
    have h : some (RX7, TX7, 4) = some (C, T, N) := h
    cases h
    exact cx_f4W6
  | 7, h =>
    have h : some (RX8, TX8, 20) = some (C, T, N) := h
    cases h
    exact cx_f4W7
  | 8, h =>
    have h : some (RX9, TX9, 7) = some (C, T, N) := h
    cases h
    exact cx_f4W8
  | 9, h =>
    have h : some (RX10, TX10, 15) = some (C, T, N) := h
    cases h
    exact cx_f4W9
  | 10, h =>
    have h : some (RX11, TX11, 87) = some (C, T, N) := h
    cases h
    exact cx_f4W10
  | j + 11, h => exact absurd h (by simp [ev_G0, ev_cl0])
set_option maxRecDepth 100000 in
theorem ev_pg_ok : ∀ M ∈ ev_pg, ev_mok (ev_TT.flatten.filter goodWord) (ev_TT.flatten.filter ev_isN) ev_AO0 ev_G0 ev_TY0 ev_pg M := by
  show ∀ M ∈ [mi_L_cell, mi_X0_hasTagOf, mi_X0_init, mi_X0_take, mi_X0_takeApart, mi_X0_textByte, mi_X10_arePair, mi_X10_begin, mi_X10_beginSession, mi_X10_byteOf, mi_X10_come, mi_X10_commonWith, mi_X10_copy, mi_X10_count, mi_X10_end, mi_X10_faultAtTheDoor, mi_X10_feed, mi_X10_firstPairs, mi_X10_forge, mi_X10_forget, mi_X10_init, mi_X10_inside, mi_X10_isLetter, mi_X10_isUser, mi_X10_letter, mi_X10_look, mi_X10_number, mi_X10_oneIf, mi_X10_openIn, mi_X10_openInNew, mi_X10_openOf, mi_X10_openWithBeginning, mi_X10_openWithoutBeginning, mi_X10_publish, mi_X10_putOnTape, mi_X10_readable, mi_X10_register, mi_X10_rotate, mi_X10_same, mi_X10_secretOf, mi_X10_session, mi_X10_spoil, mi_X10_takeReading, mi_X10_user, mi_X10_write, mi_X10_writeIn, mi_X11_asSecret, mi_X11_begin, mi_X11_beginNow, mi_X11_byteOf, mi_X11_bytesAt, mi_X11_clear, mi_X11_come, mi_X11_comeFirst, mi_X11_comeLater, mi_X11_common, mi_X11_commonTerm, mi_X11_copy, mi_X11_count, mi_X11_draw, mi_X11_drawTerm, mi_X11_dropKept, mi_X11_end, mi_X11_feed, mi_X11_follows, mi_X11_forge, mi_X11_forget, mi_X11_init, mi_X11_inside, mi_X11_isLetter, mi_X11_isSealRight, mi_X11_isTag, mi_X11_isThere, mi_X11_keepUpTo, mi_X11_keptAt, mi_X11_keptSecrets, mi_X11_key, mi_X11_leastOnce, mi_X11_lend, mi_X11_letter, mi_X11_look, mi_X11_lookInto, mi_X11_mix, mi_X11_modQ, mi_X11_newSession, mi_X11_number, mi_X11_onceInDirectory, mi_X11_open, mi_X11_power, mi_X11_publish, mi_X11_put, mi_X11_readLetter, mi_X11_readText, mi_X11_readable, mi_X11_register, mi_X11_rotate, mi_X11_same, mi_X11_secretOf, mi_X11_session, mi_X11_sessionsOf, mi_X11_slotOf, mi_X11_spoil, mi_X11_stepReceiving, mi_X11_sumOf, mi_X11_sumOfBytes, mi_X11_term, mi_X11_times, mi_X11_timesQ, mi_X11_toFront, mi_X11_turn, mi_X11_turnSending, mi_X11_user, mi_X11_write, mi_X1_drop, mi_X1_find, mi_X1_giveAway, mi_X1_init, mi_X1_keep, mi_X1_keyAt, mi_X2_init, mi_X2_put, mi_X2_twin, mi_X3_isOpen, mi_X3_key, mi_X3_letterKey, mi_X3_mix, mi_X3_nextOf, mi_X3_power, mi_X3_rest, mi_X3_sealIsRight, mi_X3_sealProof, mi_X3_sealSum, mi_X3_secretOf, mi_X3_sum, mi_X3_sumOfBytes, mi_X3_times, mi_X3_timesModuloQ, mi_X3_veil, mi_X4_carryOut, mi_X4_countSteps, mi_X4_init, mi_X4_keep, mi_X4_plan, mi_X4_step, mi_X5_drawSecret, mi_X5_drawnWith, mi_X5_enrol, mi_X5_giveAway, mi_X5_hasSeen, mi_X5_init, mi_X5_isRegistered, mi_X5_keptLentKey, mi_X5_keptOnceKey, mi_X5_leastOnce, mi_X5_lentKey, mi_X5_makeLentKey, mi_X5_makeOnceKey, mi_X5_onceKey, mi_X5_onceSecretsKept, mi_X5_onceThere, mi_X5_remember, mi_X5_sealIsRight, mi_X5_sessionsInAll, mi_X5_takeOnce, mi_X5_useOnce, mi_X6_at, mi_X6_begunByOther, mi_X6_bringFirst, mi_X6_giveAway, mi_X6_init, mi_X6_putFirst, mi_X6_retireAll, mi_X6_shiftInto, mi_X7_give, mi_X7_init, mi_X7_isGot, mi_X8_giveAway, mi_X8_init, mi_X8_meet, mi_X8_turnReceiving, mi_X8_turnSending, mi_X9_giveChain, mi_X9_giveKey, mi_X9_giveRoot, mi_X9_givesKey, mi_X9_hasCommons, mi_X9_init, mi_X9_isOf, mi_X9_isWorkedOut, mi_X9_turnOf], _
  exact List.forall_mem_cons.mpr ⟨ok_L_cell, List.forall_mem_cons.mpr ⟨ok_X0_hasTagOf, List.forall_mem_cons.mpr ⟨ok_X0_init, List.forall_mem_cons.mpr ⟨ok_X0_take, List.forall_mem_cons.mpr ⟨ok_X0_takeApart, List.forall_mem_cons.mpr ⟨ok_X0_textByte, List.forall_mem_cons.mpr ⟨ok_X10_arePair, List.forall_mem_cons.mpr ⟨ok_X10_begin, List.forall_mem_cons.mpr ⟨ok_X10_beginSession, List.forall_mem_cons.mpr ⟨ok_X10_byteOf, List.forall_mem_cons.mpr ⟨ok_X10_come, List.forall_mem_cons.mpr ⟨ok_X10_commonWith, List.forall_mem_cons.mpr ⟨ok_X10_copy, List.forall_mem_cons.mpr ⟨ok_X10_count, List.forall_mem_cons.mpr ⟨ok_X10_end, List.forall_mem_cons.mpr ⟨ok_X10_faultAtTheDoor, List.forall_mem_cons.mpr ⟨ok_X10_feed, List.forall_mem_cons.mpr ⟨ok_X10_firstPairs, List.forall_mem_cons.mpr ⟨ok_X10_forge, List.forall_mem_cons.mpr ⟨ok_X10_forget, List.forall_mem_cons.mpr ⟨ok_X10_init, List.forall_mem_cons.mpr ⟨ok_X10_inside, List.forall_mem_cons.mpr ⟨ok_X10_isLetter, List.forall_mem_cons.mpr ⟨ok_X10_isUser, List.forall_mem_cons.mpr ⟨ok_X10_letter, List.forall_mem_cons.mpr ⟨ok_X10_look, List.forall_mem_cons.mpr ⟨ok_X10_number, List.forall_mem_cons.mpr ⟨ok_X10_oneIf, List.forall_mem_cons.mpr ⟨ok_X10_openIn, List.forall_mem_cons.mpr ⟨ok_X10_openInNew, List.forall_mem_cons.mpr ⟨ok_X10_openOf, List.forall_mem_cons.mpr ⟨ok_X10_openWithBeginning, List.forall_mem_cons.mpr ⟨ok_X10_openWithoutBeginning, List.forall_mem_cons.mpr ⟨ok_X10_publish, List.forall_mem_cons.mpr ⟨ok_X10_putOnTape, List.forall_mem_cons.mpr ⟨ok_X10_readable, List.forall_mem_cons.mpr ⟨ok_X10_register, List.forall_mem_cons.mpr ⟨ok_X10_rotate, List.forall_mem_cons.mpr ⟨ok_X10_same, List.forall_mem_cons.mpr ⟨ok_X10_secretOf, List.forall_mem_cons.mpr ⟨ok_X10_session, List.forall_mem_cons.mpr ⟨ok_X10_spoil, List.forall_mem_cons.mpr ⟨ok_X10_takeReading, List.forall_mem_cons.mpr ⟨ok_X10_user, List.forall_mem_cons.mpr ⟨ok_X10_write, List.forall_mem_cons.mpr ⟨ok_X10_writeIn, List.forall_mem_cons.mpr ⟨ok_X11_asSecret, List.forall_mem_cons.mpr ⟨ok_X11_begin, List.forall_mem_cons.mpr ⟨ok_X11_beginNow, List.forall_mem_cons.mpr ⟨ok_X11_byteOf, List.forall_mem_cons.mpr ⟨ok_X11_bytesAt, List.forall_mem_cons.mpr ⟨ok_X11_clear, List.forall_mem_cons.mpr ⟨ok_X11_come, List.forall_mem_cons.mpr ⟨ok_X11_comeFirst, List.forall_mem_cons.mpr ⟨ok_X11_comeLater, List.forall_mem_cons.mpr ⟨ok_X11_common, List.forall_mem_cons.mpr ⟨ok_X11_commonTerm, List.forall_mem_cons.mpr ⟨ok_X11_copy, List.forall_mem_cons.mpr ⟨ok_X11_count, List.forall_mem_cons.mpr ⟨ok_X11_draw, List.forall_mem_cons.mpr ⟨ok_X11_drawTerm, List.forall_mem_cons.mpr ⟨ok_X11_dropKept, List.forall_mem_cons.mpr ⟨ok_X11_end, List.forall_mem_cons.mpr ⟨ok_X11_feed, List.forall_mem_cons.mpr ⟨ok_X11_follows, List.forall_mem_cons.mpr ⟨ok_X11_forge, List.forall_mem_cons.mpr ⟨ok_X11_forget, List.forall_mem_cons.mpr ⟨ok_X11_init, List.forall_mem_cons.mpr ⟨ok_X11_inside, List.forall_mem_cons.mpr ⟨ok_X11_isLetter, List.forall_mem_cons.mpr ⟨ok_X11_isSealRight, List.forall_mem_cons.mpr ⟨ok_X11_isTag, List.forall_mem_cons.mpr ⟨ok_X11_isThere, List.forall_mem_cons.mpr ⟨ok_X11_keepUpTo, List.forall_mem_cons.mpr ⟨ok_X11_keptAt, List.forall_mem_cons.mpr ⟨ok_X11_keptSecrets, List.forall_mem_cons.mpr ⟨ok_X11_key, List.forall_mem_cons.mpr ⟨ok_X11_leastOnce, List.forall_mem_cons.mpr ⟨ok_X11_lend, List.forall_mem_cons.mpr ⟨ok_X11_letter, List.forall_mem_cons.mpr ⟨ok_X11_look, List.forall_mem_cons.mpr ⟨ok_X11_lookInto, List.forall_mem_cons.mpr ⟨ok_X11_mix, List.forall_mem_cons.mpr ⟨ok_X11_modQ, List.forall_mem_cons.mpr ⟨ok_X11_newSession, List.forall_mem_cons.mpr ⟨ok_X11_number, List.forall_mem_cons.mpr ⟨ok_X11_onceInDirectory, List.forall_mem_cons.mpr ⟨ok_X11_open, List.forall_mem_cons.mpr ⟨ok_X11_power, List.forall_mem_cons.mpr ⟨ok_X11_publish, List.forall_mem_cons.mpr ⟨ok_X11_put, List.forall_mem_cons.mpr ⟨ok_X11_readLetter, List.forall_mem_cons.mpr ⟨ok_X11_readText, List.forall_mem_cons.mpr ⟨ok_X11_readable, List.forall_mem_cons.mpr ⟨ok_X11_register, List.forall_mem_cons.mpr ⟨ok_X11_rotate, List.forall_mem_cons.mpr ⟨ok_X11_same, List.forall_mem_cons.mpr ⟨ok_X11_secretOf, List.forall_mem_cons.mpr ⟨ok_X11_session, List.forall_mem_cons.mpr ⟨ok_X11_sessionsOf, List.forall_mem_cons.mpr ⟨ok_X11_slotOf, List.forall_mem_cons.mpr ⟨ok_X11_spoil, List.forall_mem_cons.mpr ⟨ok_X11_stepReceiving, List.forall_mem_cons.mpr ⟨ok_X11_sumOf, List.forall_mem_cons.mpr ⟨ok_X11_sumOfBytes, List.forall_mem_cons.mpr ⟨ok_X11_term, List.forall_mem_cons.mpr ⟨ok_X11_times, List.forall_mem_cons.mpr ⟨ok_X11_timesQ, List.forall_mem_cons.mpr ⟨ok_X11_toFront, List.forall_mem_cons.mpr ⟨ok_X11_turn, List.forall_mem_cons.mpr ⟨ok_X11_turnSending, List.forall_mem_cons.mpr ⟨ok_X11_user, List.forall_mem_cons.mpr ⟨ok_X11_write, List.forall_mem_cons.mpr ⟨ok_X1_drop, List.forall_mem_cons.mpr ⟨ok_X1_find, List.forall_mem_cons.mpr ⟨ok_X1_giveAway, List.forall_mem_cons.mpr ⟨ok_X1_init, List.forall_mem_cons.mpr ⟨ok_X1_keep, List.forall_mem_cons.mpr ⟨ok_X1_keyAt, List.forall_mem_cons.mpr ⟨ok_X2_init, List.forall_mem_cons.mpr ⟨ok_X2_put, List.forall_mem_cons.mpr ⟨ok_X2_twin, List.forall_mem_cons.mpr ⟨ok_X3_isOpen, List.forall_mem_cons.mpr ⟨ok_X3_key, List.forall_mem_cons.mpr ⟨ok_X3_letterKey, List.forall_mem_cons.mpr ⟨ok_X3_mix, List.forall_mem_cons.mpr ⟨ok_X3_nextOf, List.forall_mem_cons.mpr ⟨ok_X3_power, List.forall_mem_cons.mpr ⟨ok_X3_rest, List.forall_mem_cons.mpr ⟨ok_X3_sealIsRight, List.forall_mem_cons.mpr ⟨ok_X3_sealProof, List.forall_mem_cons.mpr ⟨ok_X3_sealSum, List.forall_mem_cons.mpr ⟨ok_X3_secretOf, List.forall_mem_cons.mpr ⟨ok_X3_sum, List.forall_mem_cons.mpr ⟨ok_X3_sumOfBytes, List.forall_mem_cons.mpr ⟨ok_X3_times, List.forall_mem_cons.mpr ⟨ok_X3_timesModuloQ, List.forall_mem_cons.mpr ⟨ok_X3_veil, List.forall_mem_cons.mpr ⟨ok_X4_carryOut, List.forall_mem_cons.mpr ⟨ok_X4_countSteps, List.forall_mem_cons.mpr ⟨ok_X4_init, List.forall_mem_cons.mpr ⟨ok_X4_keep, List.forall_mem_cons.mpr ⟨ok_X4_plan, List.forall_mem_cons.mpr ⟨ok_X4_step, List.forall_mem_cons.mpr ⟨ok_X5_drawSecret, List.forall_mem_cons.mpr ⟨ok_X5_drawnWith, List.forall_mem_cons.mpr ⟨ok_X5_enrol, List.forall_mem_cons.mpr ⟨ok_X5_giveAway, List.forall_mem_cons.mpr ⟨ok_X5_hasSeen, List.forall_mem_cons.mpr ⟨ok_X5_init, List.forall_mem_cons.mpr ⟨ok_X5_isRegistered, List.forall_mem_cons.mpr ⟨ok_X5_keptLentKey, List.forall_mem_cons.mpr ⟨ok_X5_keptOnceKey, List.forall_mem_cons.mpr ⟨ok_X5_leastOnce, List.forall_mem_cons.mpr ⟨ok_X5_lentKey, List.forall_mem_cons.mpr ⟨ok_X5_makeLentKey, List.forall_mem_cons.mpr ⟨ok_X5_makeOnceKey, List.forall_mem_cons.mpr ⟨ok_X5_onceKey, List.forall_mem_cons.mpr ⟨ok_X5_onceSecretsKept, List.forall_mem_cons.mpr ⟨ok_X5_onceThere, List.forall_mem_cons.mpr ⟨ok_X5_remember, List.forall_mem_cons.mpr ⟨ok_X5_sealIsRight, List.forall_mem_cons.mpr ⟨ok_X5_sessionsInAll, List.forall_mem_cons.mpr ⟨ok_X5_takeOnce, List.forall_mem_cons.mpr ⟨ok_X5_useOnce, List.forall_mem_cons.mpr ⟨ok_X6_at, List.forall_mem_cons.mpr ⟨ok_X6_begunByOther, List.forall_mem_cons.mpr ⟨ok_X6_bringFirst, List.forall_mem_cons.mpr ⟨ok_X6_giveAway, List.forall_mem_cons.mpr ⟨ok_X6_init, List.forall_mem_cons.mpr ⟨ok_X6_putFirst, List.forall_mem_cons.mpr ⟨ok_X6_retireAll, List.forall_mem_cons.mpr ⟨ok_X6_shiftInto, List.forall_mem_cons.mpr ⟨ok_X7_give, List.forall_mem_cons.mpr ⟨ok_X7_init, List.forall_mem_cons.mpr ⟨ok_X7_isGot, List.forall_mem_cons.mpr ⟨ok_X8_giveAway, List.forall_mem_cons.mpr ⟨ok_X8_init, List.forall_mem_cons.mpr ⟨ok_X8_meet, List.forall_mem_cons.mpr ⟨ok_X8_turnReceiving, List.forall_mem_cons.mpr ⟨ok_X8_turnSending, List.forall_mem_cons.mpr ⟨ok_X9_giveChain, List.forall_mem_cons.mpr ⟨ok_X9_giveKey, List.forall_mem_cons.mpr ⟨ok_X9_giveRoot, List.forall_mem_cons.mpr ⟨ok_X9_givesKey, List.forall_mem_cons.mpr ⟨ok_X9_hasCommons, List.forall_mem_cons.mpr ⟨ok_X9_init, List.forall_mem_cons.mpr ⟨ok_X9_isOf, List.forall_mem_cons.mpr ⟨ok_X9_isWorkedOut, List.forall_mem_cons.mpr ⟨ok_X9_turnOf, fun _ h => absurd h List.not_mem_nil⟩⟩⟩⟩⟩⟩⟩⟩⟩⟩⟩⟩⟩⟩⟩⟩⟩⟩⟩⟩⟩⟩⟩⟩⟩⟩⟩⟩⟩⟩⟩⟩⟩⟩⟩⟩⟩⟩⟩⟩⟩⟩⟩⟩⟩⟩⟩⟩⟩⟩⟩⟩⟩⟩⟩⟩⟩⟩⟩⟩⟩⟩⟩⟩⟩⟩⟩⟩⟩⟩⟩⟩⟩⟩⟩⟩⟩⟩⟩⟩⟩⟩⟩⟩⟩⟩⟩⟩⟩⟩⟩⟩⟩⟩⟩⟩⟩⟩⟩⟩⟩⟩⟩⟩⟩⟩⟩⟩⟩⟩⟩⟩⟩⟩⟩⟩⟩⟩⟩⟩⟩⟩⟩⟩⟩⟩⟩⟩⟩⟩⟩⟩⟩⟩⟩⟩⟩⟩⟩⟩⟩⟩⟩⟩⟩⟩⟩⟩⟩⟩⟩⟩⟩⟩⟩⟩⟩⟩⟩⟩⟩⟩⟩⟩⟩⟩⟩⟩⟩⟩⟩⟩⟩⟩⟩⟩⟩⟩⟩⟩⟩⟩⟩⟩⟩⟩⟩⟩⟩⟩
set_option maxRecDepth 100000 in
theorem cx_pg_md : ∀ M ∈ ev_pg, cx_md (ev_TT.flatten.filter goodWord) (ev_TT.flatten.filter ev_isN) ev_AO0 ev_G0 ev_TY0 ra0 ev_pg M := by
  show ∀ M ∈ [mi_L_cell, mi_X0_hasTagOf, mi_X0_init, mi_X0_take, mi_X0_takeApart, mi_X0_textByte, mi_X10_arePair, mi_X10_begin, mi_X10_beginSession, mi_X10_byteOf, mi_X10_come, mi_X10_commonWith, mi_X10_copy, mi_X10_count, mi_X10_end, mi_X10_faultAtTheDoor, mi_X10_feed, mi_X10_firstPairs, mi_X10_forge, mi_X10_forget, mi_X10_init, mi_X10_inside, mi_X10_isLetter, mi_X10_isUser, mi_X10_letter, mi_X10_look, mi_X10_number, mi_X10_oneIf, mi_X10_openIn, mi_X10_openInNew, mi_X10_openOf, mi_X10_openWithBeginning, mi_X10_openWithoutBeginning, mi_X10_publish, mi_X10_putOnTape, mi_X10_readable, mi_X10_register, mi_X10_rotate, mi_X10_same, mi_X10_secretOf, mi_X10_session, mi_X10_spoil, mi_X10_takeReading, mi_X10_user, mi_X10_write, mi_X10_writeIn, mi_X11_asSecret, mi_X11_begin, mi_X11_beginNow, mi_X11_byteOf, mi_X11_bytesAt, mi_X11_clear, mi_X11_come, mi_X11_comeFirst, mi_X11_comeLater, mi_X11_common, mi_X11_commonTerm, mi_X11_copy, mi_X11_count, mi_X11_draw, mi_X11_drawTerm, mi_X11_dropKept, mi_X11_end, mi_X11_feed, mi_X11_follows, mi_X11_forge, mi_X11_forget, mi_X11_init, mi_X11_inside, mi_X11_isLetter, mi_X11_isSealRight, mi_X11_isTag, mi_X11_isThere, mi_X11_keepUpTo, mi_X11_keptAt, mi_X11_keptSecrets, mi_X11_key, mi_X11_leastOnce, mi_X11_lend, mi_X11_letter, mi_X11_look, mi_X11_lookInto, mi_X11_mix, mi_X11_modQ, mi_X11_newSession, mi_X11_number, mi_X11_onceInDirectory, mi_X11_open, mi_X11_power, mi_X11_publish, mi_X11_put, mi_X11_readLetter, mi_X11_readText, mi_X11_readable, mi_X11_register, mi_X11_rotate, mi_X11_same, mi_X11_secretOf, mi_X11_session, mi_X11_sessionsOf, mi_X11_slotOf, mi_X11_spoil, mi_X11_stepReceiving, mi_X11_sumOf, mi_X11_sumOfBytes, mi_X11_term, mi_X11_times, mi_X11_timesQ, mi_X11_toFront, mi_X11_turn, mi_X11_turnSending, mi_X11_user, mi_X11_write, mi_X1_drop, mi_X1_find, mi_X1_giveAway, mi_X1_init, mi_X1_keep, mi_X1_keyAt, mi_X2_init, mi_X2_put, mi_X2_twin, mi_X3_isOpen, mi_X3_key, mi_X3_letterKey, mi_X3_mix, mi_X3_nextOf, mi_X3_power, mi_X3_rest, mi_X3_sealIsRight, mi_X3_sealProof, mi_X3_sealSum, mi_X3_secretOf, mi_X3_sum, mi_X3_sumOfBytes, mi_X3_times, mi_X3_timesModuloQ, mi_X3_veil, mi_X4_carryOut, mi_X4_countSteps, mi_X4_init, mi_X4_keep, mi_X4_plan, mi_X4_step, mi_X5_drawSecret, mi_X5_drawnWith, mi_X5_enrol, mi_X5_giveAway, mi_X5_hasSeen, mi_X5_init, mi_X5_isRegistered, mi_X5_keptLentKey, mi_X5_keptOnceKey, mi_X5_leastOnce, mi_X5_lentKey, mi_X5_makeLentKey, mi_X5_makeOnceKey, mi_X5_onceKey, mi_X5_onceSecretsKept, mi_X5_onceThere, mi_X5_remember, mi_X5_sealIsRight, mi_X5_sessionsInAll, mi_X5_takeOnce, mi_X5_useOnce, mi_X6_at, mi_X6_begunByOther, mi_X6_bringFirst, mi_X6_giveAway, mi_X6_init, mi_X6_putFirst, mi_X6_retireAll, mi_X6_shiftInto, mi_X7_give, mi_X7_init, mi_X7_isGot, mi_X8_giveAway, mi_X8_init, mi_X8_meet, mi_X8_turnReceiving, mi_X8_turnSending, mi_X9_giveChain, mi_X9_giveKey, mi_X9_giveRoot, mi_X9_givesKey, mi_X9_hasCommons, mi_X9_init, mi_X9_isOf, mi_X9_isWorkedOut, mi_X9_turnOf], _
  exact List.forall_mem_cons.mpr ⟨md_L_cell, List.forall_mem_cons.mpr ⟨md_X0_hasTagOf, List.forall_mem_cons.mpr ⟨md_X0_init, List.forall_mem_cons.mpr ⟨md_X0_take, List.forall_mem_cons.mpr ⟨md_X0_takeApart, List.forall_mem_cons.mpr ⟨md_X0_textByte, List.forall_mem_cons.mpr ⟨md_X10_arePair, List.forall_mem_cons.mpr ⟨md_X10_begin, List.forall_mem_cons.mpr ⟨md_X10_beginSession, List.forall_mem_cons.mpr ⟨md_X10_byteOf, List.forall_mem_cons.mpr ⟨md_X10_come, List.forall_mem_cons.mpr ⟨md_X10_commonWith, List.forall_mem_cons.mpr ⟨md_X10_copy, List.forall_mem_cons.mpr ⟨md_X10_count, List.forall_mem_cons.mpr ⟨md_X10_end, List.forall_mem_cons.mpr ⟨md_X10_faultAtTheDoor, List.forall_mem_cons.mpr ⟨md_X10_feed, List.forall_mem_cons.mpr ⟨md_X10_firstPairs, List.forall_mem_cons.mpr ⟨md_X10_forge, List.forall_mem_cons.mpr ⟨md_X10_forget, List.forall_mem_cons.mpr ⟨md_X10_init, List.forall_mem_cons.mpr ⟨md_X10_inside, List.forall_mem_cons.mpr ⟨md_X10_isLetter, List.forall_mem_cons.mpr ⟨md_X10_isUser, List.forall_mem_cons.mpr ⟨md_X10_letter, List.forall_mem_cons.mpr ⟨md_X10_look, List.forall_mem_cons.mpr ⟨md_X10_number, List.forall_mem_cons.mpr ⟨md_X10_oneIf, List.forall_mem_cons.mpr ⟨md_X10_openIn, List.forall_mem_cons.mpr ⟨md_X10_openInNew, List.forall_mem_cons.mpr ⟨md_X10_openOf, List.forall_mem_cons.mpr ⟨md_X10_openWithBeginning, List.forall_mem_cons.mpr ⟨md_X10_openWithoutBeginning, List.forall_mem_cons.mpr ⟨md_X10_publish, List.forall_mem_cons.mpr ⟨md_X10_putOnTape, List.forall_mem_cons.mpr ⟨md_X10_readable, List.forall_mem_cons.mpr ⟨md_X10_register, List.forall_mem_cons.mpr ⟨md_X10_rotate, List.forall_mem_cons.mpr ⟨md_X10_same, List.forall_mem_cons.mpr ⟨md_X10_secretOf, List.forall_mem_cons.mpr ⟨md_X10_session, List.forall_mem_cons.mpr ⟨md_X10_spoil, List.forall_mem_cons.mpr ⟨md_X10_takeReading, List.forall_mem_cons.mpr ⟨md_X10_user, List.forall_mem_cons.mpr ⟨md_X10_write, List.forall_mem_cons.mpr ⟨md_X10_writeIn, List.forall_mem_cons.mpr ⟨md_X11_asSecret, List.forall_mem_cons.mpr ⟨md_X11_begin, List.forall_mem_cons.mpr ⟨md_X11_beginNow, List.forall_mem_cons.mpr ⟨md_X11_byteOf, List.forall_mem_cons.mpr ⟨md_X11_bytesAt, List.forall_mem_cons.mpr ⟨md_X11_clear, List.forall_mem_cons.mpr ⟨md_X11_come, List.forall_mem_cons.mpr ⟨md_X11_comeFirst, List.forall_mem_cons.mpr ⟨md_X11_comeLater, List.forall_mem_cons.mpr ⟨md_X11_common, List.forall_mem_cons.mpr ⟨md_X11_commonTerm, List.forall_mem_cons.mpr ⟨md_X11_copy, List.forall_mem_cons.mpr ⟨md_X11_count, List.forall_mem_cons.mpr ⟨md_X11_draw, List.forall_mem_cons.mpr ⟨md_X11_drawTerm, List.forall_mem_cons.mpr ⟨md_X11_dropKept, List.forall_mem_cons.mpr ⟨md_X11_end, List.forall_mem_cons.mpr ⟨md_X11_feed, List.forall_mem_cons.mpr ⟨md_X11_follows, List.forall_mem_cons.mpr ⟨md_X11_forge, List.forall_mem_cons.mpr ⟨md_X11_forget, List.forall_mem_cons.mpr ⟨md_X11_init, List.forall_mem_cons.mpr ⟨md_X11_inside, List.forall_mem_cons.mpr ⟨md_X11_isLetter, List.forall_mem_cons.mpr ⟨md_X11_isSealRight, List.forall_mem_cons.mpr ⟨md_X11_isTag, List.forall_mem_cons.mpr ⟨md_X11_isThere, List.forall_mem_cons.mpr ⟨md_X11_keepUpTo, List.forall_mem_cons.mpr ⟨md_X11_keptAt, List.forall_mem_cons.mpr ⟨md_X11_keptSecrets, List.forall_mem_cons.mpr ⟨md_X11_key, List.forall_mem_cons.mpr ⟨md_X11_leastOnce, List.forall_mem_cons.mpr ⟨md_X11_lend, List.forall_mem_cons.mpr ⟨md_X11_letter, List.forall_mem_cons.mpr ⟨md_X11_look, List.forall_mem_cons.mpr ⟨md_X11_lookInto, List.forall_mem_cons.mpr ⟨md_X11_mix, List.forall_mem_cons.mpr ⟨md_X11_modQ, List.forall_mem_cons.mpr ⟨md_X11_newSession, List.forall_mem_cons.mpr ⟨md_X11_number, List.forall_mem_cons.mpr ⟨md_X11_onceInDirectory, List.forall_mem_cons.mpr ⟨md_X11_open, List.forall_mem_cons.mpr ⟨md_X11_power, List.forall_mem_cons.mpr ⟨md_X11_publish, List.forall_mem_cons.mpr ⟨md_X11_put, List.forall_mem_cons.mpr ⟨md_X11_readLetter, List.forall_mem_cons.mpr ⟨md_X11_readText, List.forall_mem_cons.mpr ⟨md_X11_readable, List.forall_mem_cons.mpr ⟨md_X11_register, List.forall_mem_cons.mpr ⟨md_X11_rotate, List.forall_mem_cons.mpr ⟨md_X11_same, List.forall_mem_cons.mpr ⟨md_X11_secretOf, List.forall_mem_cons.mpr ⟨md_X11_session, List.forall_mem_cons.mpr ⟨md_X11_sessionsOf, List.forall_mem_cons.mpr ⟨md_X11_slotOf, List.forall_mem_cons.mpr ⟨md_X11_spoil, List.forall_mem_cons.mpr ⟨md_X11_stepReceiving, List.forall_mem_cons.mpr ⟨md_X11_sumOf, List.forall_mem_cons.mpr ⟨md_X11_sumOfBytes, List.forall_mem_cons.mpr ⟨md_X11_term, List.forall_mem_cons.mpr ⟨md_X11_times, List.forall_mem_cons.mpr ⟨md_X11_timesQ, List.forall_mem_cons.mpr ⟨md_X11_toFront, List.forall_mem_cons.mpr ⟨md_X11_turn, List.forall_mem_cons.mpr ⟨md_X11_turnSending, List.forall_mem_cons.mpr ⟨md_X11_user, List.forall_mem_cons.mpr ⟨md_X11_write, List.forall_mem_cons.mpr ⟨md_X1_drop, List.forall_mem_cons.mpr ⟨md_X1_find, List.forall_mem_cons.mpr ⟨md_X1_giveAway, List.forall_mem_cons.mpr ⟨md_X1_init, List.forall_mem_cons.mpr ⟨md_X1_keep, List.forall_mem_cons.mpr ⟨md_X1_keyAt, List.forall_mem_cons.mpr ⟨md_X2_init, List.forall_mem_cons.mpr ⟨md_X2_put, List.forall_mem_cons.mpr ⟨md_X2_twin, List.forall_mem_cons.mpr ⟨md_X3_isOpen, List.forall_mem_cons.mpr ⟨md_X3_key, List.forall_mem_cons.mpr ⟨md_X3_letterKey, List.forall_mem_cons.mpr ⟨md_X3_mix, List.forall_mem_cons.mpr ⟨md_X3_nextOf, List.forall_mem_cons.mpr ⟨md_X3_power, List.forall_mem_cons.mpr ⟨md_X3_rest, List.forall_mem_cons.mpr ⟨md_X3_sealIsRight, List.forall_mem_cons.mpr ⟨md_X3_sealProof, List.forall_mem_cons.mpr ⟨md_X3_sealSum, List.forall_mem_cons.mpr ⟨md_X3_secretOf, List.forall_mem_cons.mpr ⟨md_X3_sum, List.forall_mem_cons.mpr ⟨md_X3_sumOfBytes, List.forall_mem_cons.mpr ⟨md_X3_times, List.forall_mem_cons.mpr ⟨md_X3_timesModuloQ, List.forall_mem_cons.mpr ⟨md_X3_veil, List.forall_mem_cons.mpr ⟨md_X4_carryOut, List.forall_mem_cons.mpr ⟨md_X4_countSteps, List.forall_mem_cons.mpr ⟨md_X4_init, List.forall_mem_cons.mpr ⟨md_X4_keep, List.forall_mem_cons.mpr ⟨md_X4_plan, List.forall_mem_cons.mpr ⟨md_X4_step, List.forall_mem_cons.mpr ⟨md_X5_drawSecret, List.forall_mem_cons.mpr ⟨md_X5_drawnWith, List.forall_mem_cons.mpr ⟨md_X5_enrol, List.forall_mem_cons.mpr ⟨md_X5_giveAway, List.forall_mem_cons.mpr ⟨md_X5_hasSeen, List.forall_mem_cons.mpr ⟨md_X5_init, List.forall_mem_cons.mpr ⟨md_X5_isRegistered, List.forall_mem_cons.mpr ⟨md_X5_keptLentKey, List.forall_mem_cons.mpr ⟨md_X5_keptOnceKey, List.forall_mem_cons.mpr ⟨md_X5_leastOnce, List.forall_mem_cons.mpr ⟨md_X5_lentKey, List.forall_mem_cons.mpr ⟨md_X5_makeLentKey, List.forall_mem_cons.mpr ⟨md_X5_makeOnceKey, List.forall_mem_cons.mpr ⟨md_X5_onceKey, List.forall_mem_cons.mpr ⟨md_X5_onceSecretsKept, List.forall_mem_cons.mpr ⟨md_X5_onceThere, List.forall_mem_cons.mpr ⟨md_X5_remember, List.forall_mem_cons.mpr ⟨md_X5_sealIsRight, List.forall_mem_cons.mpr ⟨md_X5_sessionsInAll, List.forall_mem_cons.mpr ⟨md_X5_takeOnce, List.forall_mem_cons.mpr ⟨md_X5_useOnce, List.forall_mem_cons.mpr ⟨md_X6_at, List.forall_mem_cons.mpr ⟨md_X6_begunByOther, List.forall_mem_cons.mpr ⟨md_X6_bringFirst, List.forall_mem_cons.mpr ⟨md_X6_giveAway, List.forall_mem_cons.mpr ⟨md_X6_init, List.forall_mem_cons.mpr ⟨md_X6_putFirst, List.forall_mem_cons.mpr ⟨md_X6_retireAll, List.forall_mem_cons.mpr ⟨md_X6_shiftInto, List.forall_mem_cons.mpr ⟨md_X7_give, List.forall_mem_cons.mpr ⟨md_X7_init, List.forall_mem_cons.mpr ⟨md_X7_isGot, List.forall_mem_cons.mpr ⟨md_X8_giveAway, List.forall_mem_cons.mpr ⟨md_X8_init, List.forall_mem_cons.mpr ⟨md_X8_meet, List.forall_mem_cons.mpr ⟨md_X8_turnReceiving, List.forall_mem_cons.mpr ⟨md_X8_turnSending, List.forall_mem_cons.mpr ⟨md_X9_giveChain, List.forall_mem_cons.mpr ⟨md_X9_giveKey, List.forall_mem_cons.mpr ⟨md_X9_giveRoot, List.forall_mem_cons.mpr ⟨md_X9_givesKey, List.forall_mem_cons.mpr ⟨md_X9_hasCommons, List.forall_mem_cons.mpr ⟨md_X9_init, List.forall_mem_cons.mpr ⟨md_X9_isOf, List.forall_mem_cons.mpr ⟨md_X9_isWorkedOut, List.forall_mem_cons.mpr ⟨md_X9_turnOf, fun _ h => absurd h List.not_mem_nil⟩⟩⟩⟩⟩⟩⟩⟩⟩⟩⟩⟩⟩⟩⟩⟩⟩⟩⟩⟩⟩⟩⟩⟩⟩⟩⟩⟩⟩⟩⟩⟩⟩⟩⟩⟩⟩⟩⟩⟩⟩⟩⟩⟩⟩⟩⟩⟩⟩⟩⟩⟩⟩⟩⟩⟩⟩⟩⟩⟩⟩⟩⟩⟩⟩⟩⟩⟩⟩⟩⟩⟩⟩⟩⟩⟩⟩⟩⟩⟩⟩⟩⟩⟩⟩⟩⟩⟩⟩⟩⟩⟩⟩⟩⟩⟩⟩⟩⟩⟩⟩⟩⟩⟩⟩⟩⟩⟩⟩⟩⟩⟩⟩⟩⟩⟩⟩⟩⟩⟩⟩⟩⟩⟩⟩⟩⟩⟩⟩⟩⟩⟩⟩⟩⟩⟩⟩⟩⟩⟩⟩⟩⟩⟩⟩⟩⟩⟩⟩⟩⟩⟩⟩⟩⟩⟩⟩⟩⟩⟩⟩⟩⟩⟩⟩⟩⟩⟩⟩⟩⟩⟩⟩⟩⟩⟩⟩⟩⟩⟩⟩⟩⟩⟩⟩⟩⟩⟩⟩⟩
theorem ra_lo : ∀ s, s < 100 → s ≠ 98 → 4 ≤ (ra0 s).1 := by
  intro s h1 h2
  unfold ra0
  rw [if_neg h2, if_pos h1]
  decide
def ra_ck (x : Nat × Nat × Nat) : Bool := !(x.1 == 3) || (match ev_nth ev_tl0 x.2.1, ev_nth ev_cl0 x.2.2 with
  | some (.object E), some r => decide (E = r.1)
  | _, _ => false)
set_option maxRecDepth 100000 in
theorem ra_all : ra_l.all ra_ck = true := by decide +kernel
theorem ra_3 : ∀ s, (ra0 s).1 = 3 → ∃ (E : String) (T : u_T) (N : Nat), ev_G0.2.1[(ra0 s).2.1]? = some (.object E) ∧ ev_G0.1[(ra0 s).2.2]? = some (E, T, N) := by
  intro s h
  unfold ra0 at h ⊢
  split at h
  · exact absurd h (by decide)
  · split at h
    · exact absurd h (by decide)
    · rename_i q1 q2
      rw [if_neg q1, if_neg q2]
      split at h
      · rename_i x hx
        rw [ev_nth_eq] at hx
        have hc := List.all_eq_true.mp ra_all x (List.mem_of_getElem? hx)
        unfold ra_ck at hc
        rw [h] at hc
        simp only [beq_self_eq_true, Bool.not_true, Bool.false_or] at hc
        split at hc
        · rename_i E r h1 h2
          rw [ev_nth_eq] at h1 h2
          obtain ⟨C, T, N⟩ := r
          have hE : E = C := by simpa using hc
          subst hE
          exact ⟨E, T, N, h1, h2⟩
        · cases hc
      · exact absurd h (by decide)
set_option maxRecDepth 100000 in
theorem cx_fx0 {tys : List (ClassId × FieldType)} (ht : tys.map Prod.snd = ev_tl0) : cx_Fx (ev_TT.flatten.filter goodWord) (ev_TT.flatten.filter ev_isN) ev_AO0 ev_G0 ev_TY0 ra0 ev_pg tys := ⟨ev_fx0, by decide, by decide +kernel, ht, ev_pg_ok, ra_lo, rfl, ra_3, cx_f40⟩
