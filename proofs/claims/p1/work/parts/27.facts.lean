def ev_pos (i : Nat) : Option Cond := match ev_nth ev_TT (i / 1000) with
  | some l => ev_nth l (i % 1000)
  | none => none
theorem ev_inps {ws : List Cond} (ps : List Nat) (hp : ws = ps.filterMap ev_pos) (h : ws.all goodWord = true) : ∀ w ∈ ws, w ∈ ev_TT.flatten.filter goodWord := by
  intro w hw
  have h1 := List.all_eq_true.mp h w hw
  rw [hp] at hw
  obtain ⟨i, -, hi⟩ := List.mem_filterMap.mp hw
  unfold ev_pos at hi
  split at hi
  · rename_i l hl
    rw [ev_nth_eq] at hi hl
    exact List.mem_filter.mpr ⟨List.mem_flatten.mpr ⟨l, List.mem_of_getElem? hl, List.mem_of_getElem? hi⟩, h1⟩
  · cases hi
set_option maxRecDepth 100000 in
theorem ev_inW0 : ∀ w ∈ u_ws RX0 TX0 16, w ∈ ev_TT.flatten.filter goodWord := ev_inps [1058, 1060, 1062, 1064, 1066, 1068, 1070, 1072, 1074, 1076, 1078, 1080, 1082, 1084, 1086, 1088] (by decide +kernel) (by decide +kernel)
set_option maxRecDepth 100000 in
theorem ev_cbW0 : ∀ j, j < 16 → ev_fs (tyX0 j) < 4 ∧ ev_cg (ev_cb0.getD 0 (0, 0, (0, 0, 0), [])) j = ev_df (tyX0 j) := by decide +kernel
set_option maxRecDepth 100000 in
theorem ev_inW1 : ∀ w ∈ u_ws RX1 TX1 5, w ∈ ev_TT.flatten.filter goodWord := ev_inps [3022, 3024, 3026, 3028, 3030] (by decide +kernel) (by decide +kernel)
set_option maxRecDepth 100000 in
theorem ev_cbW1 : ∀ j, j < 5 → ev_fs (tyX1 j) < 4 ∧ ev_cg (ev_cb0.getD 1 (0, 0, (0, 0, 0), [])) j = ev_df (tyX1 j) := by decide +kernel
set_option maxRecDepth 100000 in
theorem ev_inW2 : ∀ w ∈ u_ws RX2 TX2 4, w ∈ ev_TT.flatten.filter goodWord := ev_inps [3163, 3165, 3167, 3169] (by decide +kernel) (by decide +kernel)
set_option maxRecDepth 100000 in
theorem ev_cbW2 : ∀ j, j < 4 → ev_fs (tyX2 j) < 4 ∧ ev_cg (ev_cb0.getD 2 (0, 0, (0, 0, 0), [])) j = ev_df (tyX2 j) := by decide +kernel
set_option maxRecDepth 100000 in
theorem ev_inW3 : ∀ w ∈ u_ws RX3 TX3 1, w ∈ ev_TT.flatten.filter goodWord := ev_inps [1132] (by decide +kernel) (by decide +kernel)
set_option maxRecDepth 100000 in
theorem ev_cbW3 : ∀ j, j < 1 → ev_fs (tyX3 j) < 4 ∧ ev_cg (ev_cb0.getD 3 (0, 0, (0, 0, 0), [])) j = ev_df (tyX3 j) := by decide +kernel
set_option maxRecDepth 100000 in
theorem ev_inW4 : ∀ w ∈ u_ws RX5 TX5 8, w ∈ ev_TT.flatten.filter goodWord := ev_inps [1107, 1109, 1111, 1113, 1115, 1117, 1119, 1121] (by decide +kernel) (by decide +kernel)
set_option maxRecDepth 100000 in
theorem ev_cbW4 : ∀ j, j < 8 → ev_fs (tyX5 j) < 4 ∧ ev_cg (ev_cb0.getD 4 (0, 0, (0, 0, 0), [])) j = ev_df (tyX5 j) := by decide +kernel
set_option maxRecDepth 100000 in
theorem ev_inW5 : ∀ w ∈ u_ws RX6 TX6 16, w ∈ ev_TT.flatten.filter goodWord := ev_inps [1222, 1224, 1226, 1228, 1230, 1232, 1234, 1236, 1238, 2000, 2002, 2004, 2006, 2008, 2010, 2012] (by decide +kernel) (by decide +kernel)
set_option maxRecDepth 100000 in
theorem ev_cbW5 : ∀ j, j < 16 → ev_fs (tyX6 j) < 4 ∧ ev_cg (ev_cb0.getD 5 (0, 0, (0, 0, 0), [])) j = ev_df (tyX6 j) := by decide +kernel
set_option maxRecDepth 100000 in
theorem ev_inW6 : ∀ w ∈ u_ws RX7 TX7 2, w ∈ ev_TT.flatten.filter goodWord := ev_inps [1193, 1195] (by decide +kernel) (by decide +kernel)
set_option maxRecDepth 100000 in
theorem ev_cbW6 : ∀ j, j < 2 → ev_fs (tyX7 j) < 4 ∧ ev_cg (ev_cb0.getD 6 (0, 0, (0, 0, 0), [])) j = ev_df (tyX7 j) := by decide +kernel
set_option maxRecDepth 100000 in
theorem ev_inW7 : ∀ w ∈ u_ws RX8 TX8 4, w ∈ ev_TT.flatten.filter goodWord := ev_inps [2146, 2148, 2150, 2152] (by decide +kernel) (by decide +kernel)
set_option maxRecDepth 100000 in
theorem ev_cbW7 : ∀ j, j < 4 → ev_fs (tyX8 j) < 4 ∧ ev_cg (ev_cb0.getD 7 (0, 0, (0, 0, 0), [])) j = ev_df (tyX8 j) := by decide +kernel
set_option maxRecDepth 100000 in
theorem ev_inW8 : ∀ w ∈ u_ws RX9 TX9 19, w ∈ ev_TT.flatten.filter goodWord := ev_inps [3078, 3080, 3082, 3084, 3086, 3088, 3090, 3092, 3094, 3096, 3098, 3100, 3102, 3104, 3106, 3108, 3110, 3112, 3114] (by decide +kernel) (by decide +kernel)
set_option maxRecDepth 100000 in
theorem ev_cbW8 : ∀ j, j < 19 → ev_fs (tyX9 j) < 4 ∧ ev_cg (ev_cb0.getD 8 (0, 0, (0, 0, 0), [])) j = ev_df (tyX9 j) := by decide +kernel
set_option maxRecDepth 100000 in
theorem ev_inW9 : ∀ w ∈ u_ws RX10 TX10 7, w ∈ ev_TT.flatten.filter goodWord := ev_inps [1149, 1151, 1153, 1155, 1157, 1159, 1161] (by decide +kernel) (by decide +kernel)
set_option maxRecDepth 100000 in
theorem ev_cbW9 : ∀ j, j < 7 → ev_fs (tyX10 j) < 4 ∧ ev_cg (ev_cb0.getD 9 (0, 0, (0, 0, 0), [])) j = ev_df (tyX10 j) := by decide +kernel
set_option maxRecDepth 100000 in
theorem ev_inW10 : ∀ w ∈ u_ws RX11 TX11 16, w ∈ ev_TT.flatten.filter goodWord := ev_inps [2035, 2037, 2039, 2041, 2043, 2045, 2047, 2049, 2051, 2053, 2055, 2057, 2059, 2061, 2063, 2065] (by decide +kernel) (by decide +kernel)
set_option maxRecDepth 100000 in
theorem ev_cbW10 : ∀ j, j < 16 → ev_fs (tyX11 j) < 4 ∧ ev_cg (ev_cb0.getD 10 (0, 0, (0, 0, 0), [])) j = ev_df (tyX11 j) := by decide +kernel
set_option maxRecDepth 100000 in
theorem ev_inW11 : ∀ w ∈ u_ws RX12 TX12 87, w ∈ ev_TT.flatten.filter goodWord := ev_inps [5073, 5075, 5077, 5079, 5081, 5083, 5085, 5087, 5089, 5091, 5093, 5095, 5097, 5099, 5101, 5103, 5105, 5107, 5109, 5111, 5113, 5115, 5117, 5119, 5121, 5123, 5125, 5127, 5129, 5131, 5133, 5135, 5137, 5139, 5141, 5143, 5145, 5147, 5149, 5151, 5153, 5155, 5157, 5159, 5161, 5163, 5165, 5167, 5169, 5171, 5173, 5175, 5177, 5179, 5181, 5183, 5185, 5187, 5189, 5191, 5193, 5195, 5197, 5199, 5201, 5203, 5205, 5207, 5209, 5211, 5213, 5215, 5217, 5219, 5221, 5223, 5225, 5227, 5229, 5231, 5233, 5235, 5237, 5239, 6001, 6003, 6005] (by decide +kernel) (by decide +kernel)
set_option maxRecDepth 100000 in
theorem ev_cbW11 : ∀ j, j < 87 → ev_fs (tyX12 j) < 4 ∧ ev_cg (ev_cb0.getD 11 (0, 0, (0, 0, 0), [])) j = ev_df (tyX12 j) := by decide +kernel
theorem ev_tg_good : ∀ w ∈ ev_TT.flatten.filter goodWord, (w.onTables && w.keeps) = true ∨ ∃ ty, w = .arrayClass ty := fun _ h => good_of_word (List.mem_filter.mp h).2
theorem ev_tn_form : ∀ w ∈ ev_TT.flatten.filter ev_isN, (∃ a i x n d hh, w = Cond.fieldLinkNest a i x n d hh) ∨ ∃ a i x hh, w = Cond.methodLinkNest a i x hh := by
  intro w hw
  have h := (List.mem_filter.mp hw).2
  cases w <;> first | exact Or.inl ⟨_, _, _, _, _, _, rfl⟩ | exact Or.inr ⟨_, _, _, _, rfl⟩ | exact absurd h (by simp [ev_isN])
theorem ev_fx0 : ev_Fx (ev_TT.flatten.filter goodWord) (ev_TT.flatten.filter ev_isN) ev_G0 ev_TY0 := by
  refine ⟨by decide, ev_tg_good, ev_tn_form, ?_, ?_⟩
  · intro ci C T N h
    match ci, h with
    | 0, h =>
      have h : some (RX0, TX0, 16) = some (C, T, N) := h
      cases h
      exact ⟨ev_inW0, tyX0_ok, nmX0⟩
    | 1, h =>
      have h : some (RX1, TX1, 5) = some (C, T, N) := h
      cases h
      exact ⟨ev_inW1, tyX1_ok, nmX1⟩
    | 2, h =>
      have h : some (RX2, TX2, 4) = some (C, T, N) := h
      cases h
      exact ⟨ev_inW2, tyX2_ok, nmX2⟩
    | 3, h =>
      have h : some (RX3, TX3, 1) = some (C, T, N) := h
      cases h
      exact ⟨ev_inW3, tyX3_ok, nmX3⟩
    | 4, h =>
      have h : some (RX5, TX5, 8) = some (C, T, N) := h
      cases h
      exact ⟨ev_inW4, tyX5_ok, nmX5⟩
    | 5, h =>
      have h : some (RX6, TX6, 16) = some (C, T, N) := h
      cases h
      exact ⟨ev_inW5, tyX6_ok, nmX6⟩
    | 6, h =>
      have h : some (RX7, TX7, 2) = some (C, T, N) := h
      cases h
      exact ⟨ev_inW6, tyX7_ok, nmX7⟩
    | 7, h =>
      have h : some (RX8, TX8, 4) = some (C, T, N) := h
      cases h
      exact ⟨ev_inW7, tyX8_ok, nmX8⟩
    | 8, h =>
      have h : some (RX9, TX9, 19) = some (C, T, N) := h
      cases h
      exact ⟨ev_inW8, tyX9_ok, nmX9⟩
    | 9, h =>
      have h : some (RX10, TX10, 7) = some (C, T, N) := h
      cases h
      exact ⟨ev_inW9, tyX10_ok, nmX10⟩
    | 10, h =>
      have h : some (RX11, TX11, 16) = some (C, T, N) := h
      cases h
      exact ⟨ev_inW10, tyX11_ok, nmX11⟩
    | 11, h =>
      have h : some (RX12, TX12, 87) = some (C, T, N) := h
      cases h
      exact ⟨ev_inW11, tyX12_ok, nmX12⟩
    | j + 12, h => exact absurd h (by simp [ev_G0, ev_cl0])
  · intro ci c h
    match ci, h with
    | 0, h =>
      have h : some (ev_cb0.getD 0 (0, 0, (0, 0, 0), [])) = some c := h
      cases h
      exact ⟨RX0, TX0, 16, rfl, rfl, rfl, ev_cbW0⟩
    | 1, h =>
      have h : some (ev_cb0.getD 1 (0, 0, (0, 0, 0), [])) = some c := h
      cases h
      exact ⟨RX1, TX1, 5, rfl, rfl, rfl, ev_cbW1⟩
    | 2, h =>
      have h : some (ev_cb0.getD 2 (0, 0, (0, 0, 0), [])) = some c := h
      cases h
      exact ⟨RX2, TX2, 4, rfl, rfl, rfl, ev_cbW2⟩
    | 3, h =>
      have h : some (ev_cb0.getD 3 (0, 0, (0, 0, 0), [])) = some c := h
      cases h
      exact ⟨RX3, TX3, 1, rfl, rfl, rfl, ev_cbW3⟩
    | 4, h =>
      have h : some (ev_cb0.getD 4 (0, 0, (0, 0, 0), [])) = some c := h
      cases h
      exact ⟨RX5, TX5, 8, rfl, rfl, rfl, ev_cbW4⟩
    | 5, h =>
      have h : some (ev_cb0.getD 5 (0, 0, (0, 0, 0), [])) = some c := h
      cases h
      exact ⟨RX6, TX6, 16, rfl, rfl, rfl, ev_cbW5⟩
    | 6, h =>
      have h : some (ev_cb0.getD 6 (0, 0, (0, 0, 0), [])) = some c := h
      cases h
      exact ⟨RX7, TX7, 2, rfl, rfl, rfl, ev_cbW6⟩
    | 7, h =>
      have h : some (ev_cb0.getD 7 (0, 0, (0, 0, 0), [])) = some c := h
      cases h
      exact ⟨RX8, TX8, 4, rfl, rfl, rfl, ev_cbW7⟩
    | 8, h =>
      have h : some (ev_cb0.getD 8 (0, 0, (0, 0, 0), [])) = some c := h
      cases h
      exact ⟨RX9, TX9, 19, rfl, rfl, rfl, ev_cbW8⟩
    | 9, h =>
      have h : some (ev_cb0.getD 9 (0, 0, (0, 0, 0), [])) = some c := h
      cases h
      exact ⟨RX10, TX10, 7, rfl, rfl, rfl, ev_cbW9⟩
    | 10, h =>
      have h : some (ev_cb0.getD 10 (0, 0, (0, 0, 0), [])) = some c := h
      cases h
      exact ⟨RX11, TX11, 16, rfl, rfl, rfl, ev_cbW10⟩
    | 11, h =>
      have h : some (ev_cb0.getD 11 (0, 0, (0, 0, 0), [])) = some c := h
      cases h
      exact ⟨RX12, TX12, 87, rfl, rfl, rfl, ev_cbW11⟩
    | j + 12, h => exact absurd h (by simp [ev_G0, ev_cb0])
theorem ev_pg_ok : ∀ M ∈ ev_pg, ev_mok (ev_TT.flatten.filter goodWord) (ev_TT.flatten.filter ev_isN) ev_AO0 ev_G0 ev_TY0 ev_pg M := by
  show ∀ M ∈ [mi_L_cell, mi_X0_init, mi_X10_giveRoot, mi_X10_init, mi_X11_arePair, mi_X11_begin, mi_X11_byteOf, mi_X11_come, mi_X11_copy, mi_X11_count, mi_X11_end, mi_X11_feed, mi_X11_forge, mi_X11_forget, mi_X11_init, mi_X11_inside, mi_X11_isLetter, mi_X11_isUser, mi_X11_letter, mi_X11_look, mi_X11_number, mi_X11_oneIf, mi_X11_publish, mi_X11_putOnTape, mi_X11_readable, mi_X11_register, mi_X11_rotate, mi_X11_same, mi_X11_session, mi_X11_spoil, mi_X11_user, mi_X11_write, mi_X12_asSecret, mi_X12_begin, mi_X12_byteOf, mi_X12_come, mi_X12_copy, mi_X12_count, mi_X12_draw, mi_X12_drawTerm, mi_X12_end, mi_X12_feed, mi_X12_forge, mi_X12_forget, mi_X12_init, mi_X12_inside, mi_X12_isLetter, mi_X12_isThere, mi_X12_keptSecrets, mi_X12_leastOnce, mi_X12_lend, mi_X12_letter, mi_X12_look, mi_X12_mix, mi_X12_modQ, mi_X12_number, mi_X12_onceInDirectory, mi_X12_power, mi_X12_publish, mi_X12_readable, mi_X12_register, mi_X12_rotate, mi_X12_same, mi_X12_session, mi_X12_sessionsOf, mi_X12_slotOf, mi_X12_spoil, mi_X12_term, mi_X12_times, mi_X12_timesQ, mi_X12_user, mi_X12_write, mi_X3_init, mi_X3_take, mi_X4_isOpen, mi_X4_mix, mi_X4_power, mi_X4_rest, mi_X4_sealProof, mi_X4_sealSum, mi_X4_secretOf, mi_X4_times, mi_X4_timesModuloQ, mi_X5_init, mi_X6_drawSecret, mi_X6_enrol, mi_X6_giveAway, mi_X6_init, mi_X6_isRegistered, mi_X6_leastOnce, mi_X6_makeLentKey, mi_X6_onceSecretsKept, mi_X6_onceThere, mi_X6_sessionsInAll, mi_X7_at, mi_X7_giveAway, mi_X7_init, mi_X7_retireAll, mi_X8_init], _
  exact List.forall_mem_cons.mpr ⟨ok_L_cell, List.forall_mem_cons.mpr ⟨ok_X0_init, List.forall_mem_cons.mpr ⟨ok_X10_giveRoot, List.forall_mem_cons.mpr ⟨ok_X10_init, List.forall_mem_cons.mpr ⟨ok_X11_arePair, List.forall_mem_cons.mpr ⟨ok_X11_begin, List.forall_mem_cons.mpr ⟨ok_X11_byteOf, List.forall_mem_cons.mpr ⟨ok_X11_come, List.forall_mem_cons.mpr ⟨ok_X11_copy, List.forall_mem_cons.mpr ⟨ok_X11_count, List.forall_mem_cons.mpr ⟨ok_X11_end, List.forall_mem_cons.mpr ⟨ok_X11_feed, List.forall_mem_cons.mpr ⟨ok_X11_forge, List.forall_mem_cons.mpr ⟨ok_X11_forget, List.forall_mem_cons.mpr ⟨ok_X11_init, List.forall_mem_cons.mpr ⟨ok_X11_inside, List.forall_mem_cons.mpr ⟨ok_X11_isLetter, List.forall_mem_cons.mpr ⟨ok_X11_isUser, List.forall_mem_cons.mpr ⟨ok_X11_letter, List.forall_mem_cons.mpr ⟨ok_X11_look, List.forall_mem_cons.mpr ⟨ok_X11_number, List.forall_mem_cons.mpr ⟨ok_X11_oneIf, List.forall_mem_cons.mpr ⟨ok_X11_publish, List.forall_mem_cons.mpr ⟨ok_X11_putOnTape, List.forall_mem_cons.mpr ⟨ok_X11_readable, List.forall_mem_cons.mpr ⟨ok_X11_register, List.forall_mem_cons.mpr ⟨ok_X11_rotate, List.forall_mem_cons.mpr ⟨ok_X11_same, List.forall_mem_cons.mpr ⟨ok_X11_session, List.forall_mem_cons.mpr ⟨ok_X11_spoil, List.forall_mem_cons.mpr ⟨ok_X11_user, List.forall_mem_cons.mpr ⟨ok_X11_write, List.forall_mem_cons.mpr ⟨ok_X12_asSecret, List.forall_mem_cons.mpr ⟨ok_X12_begin, List.forall_mem_cons.mpr ⟨ok_X12_byteOf, List.forall_mem_cons.mpr ⟨ok_X12_come, List.forall_mem_cons.mpr ⟨ok_X12_copy, List.forall_mem_cons.mpr ⟨ok_X12_count, List.forall_mem_cons.mpr ⟨ok_X12_draw, List.forall_mem_cons.mpr ⟨ok_X12_drawTerm, List.forall_mem_cons.mpr ⟨ok_X12_end, List.forall_mem_cons.mpr ⟨ok_X12_feed, List.forall_mem_cons.mpr ⟨ok_X12_forge, List.forall_mem_cons.mpr ⟨ok_X12_forget, List.forall_mem_cons.mpr ⟨ok_X12_init, List.forall_mem_cons.mpr ⟨ok_X12_inside, List.forall_mem_cons.mpr ⟨ok_X12_isLetter, List.forall_mem_cons.mpr ⟨ok_X12_isThere, List.forall_mem_cons.mpr ⟨ok_X12_keptSecrets, List.forall_mem_cons.mpr ⟨ok_X12_leastOnce, List.forall_mem_cons.mpr ⟨ok_X12_lend, List.forall_mem_cons.mpr ⟨ok_X12_letter, List.forall_mem_cons.mpr ⟨ok_X12_look, List.forall_mem_cons.mpr ⟨ok_X12_mix, List.forall_mem_cons.mpr ⟨ok_X12_modQ, List.forall_mem_cons.mpr ⟨ok_X12_number, List.forall_mem_cons.mpr ⟨ok_X12_onceInDirectory, List.forall_mem_cons.mpr ⟨ok_X12_power, List.forall_mem_cons.mpr ⟨ok_X12_publish, List.forall_mem_cons.mpr ⟨ok_X12_readable, List.forall_mem_cons.mpr ⟨ok_X12_register, List.forall_mem_cons.mpr ⟨ok_X12_rotate, List.forall_mem_cons.mpr ⟨ok_X12_same, List.forall_mem_cons.mpr ⟨ok_X12_session, List.forall_mem_cons.mpr ⟨ok_X12_sessionsOf, List.forall_mem_cons.mpr ⟨ok_X12_slotOf, List.forall_mem_cons.mpr ⟨ok_X12_spoil, List.forall_mem_cons.mpr ⟨ok_X12_term, List.forall_mem_cons.mpr ⟨ok_X12_times, List.forall_mem_cons.mpr ⟨ok_X12_timesQ, List.forall_mem_cons.mpr ⟨ok_X12_user, List.forall_mem_cons.mpr ⟨ok_X12_write, List.forall_mem_cons.mpr ⟨ok_X3_init, List.forall_mem_cons.mpr ⟨ok_X3_take, List.forall_mem_cons.mpr ⟨ok_X4_isOpen, List.forall_mem_cons.mpr ⟨ok_X4_mix, List.forall_mem_cons.mpr ⟨ok_X4_power, List.forall_mem_cons.mpr ⟨ok_X4_rest, List.forall_mem_cons.mpr ⟨ok_X4_sealProof, List.forall_mem_cons.mpr ⟨ok_X4_sealSum, List.forall_mem_cons.mpr ⟨ok_X4_secretOf, List.forall_mem_cons.mpr ⟨ok_X4_times, List.forall_mem_cons.mpr ⟨ok_X4_timesModuloQ, List.forall_mem_cons.mpr ⟨ok_X5_init, List.forall_mem_cons.mpr ⟨ok_X6_drawSecret, List.forall_mem_cons.mpr ⟨ok_X6_enrol, List.forall_mem_cons.mpr ⟨ok_X6_giveAway, List.forall_mem_cons.mpr ⟨ok_X6_init, List.forall_mem_cons.mpr ⟨ok_X6_isRegistered, List.forall_mem_cons.mpr ⟨ok_X6_leastOnce, List.forall_mem_cons.mpr ⟨ok_X6_makeLentKey, List.forall_mem_cons.mpr ⟨ok_X6_onceSecretsKept, List.forall_mem_cons.mpr ⟨ok_X6_onceThere, List.forall_mem_cons.mpr ⟨ok_X6_sessionsInAll, List.forall_mem_cons.mpr ⟨ok_X7_at, List.forall_mem_cons.mpr ⟨ok_X7_giveAway, List.forall_mem_cons.mpr ⟨ok_X7_init, List.forall_mem_cons.mpr ⟨ok_X7_retireAll, List.forall_mem_cons.mpr ⟨ok_X8_init, fun _ h => absurd h List.not_mem_nil⟩⟩⟩⟩⟩⟩⟩⟩⟩⟩⟩⟩⟩⟩⟩⟩⟩⟩⟩⟩⟩⟩⟩⟩⟩⟩⟩⟩⟩⟩⟩⟩⟩⟩⟩⟩⟩⟩⟩⟩⟩⟩⟩⟩⟩⟩⟩⟩⟩⟩⟩⟩⟩⟩⟩⟩⟩⟩⟩⟩⟩⟩⟩⟩⟩⟩⟩⟩⟩⟩⟩⟩⟩⟩⟩⟩⟩⟩⟩⟩⟩⟩⟩⟩⟩⟩⟩⟩⟩⟩⟩⟩⟩⟩⟩⟩⟩⟩⟩
