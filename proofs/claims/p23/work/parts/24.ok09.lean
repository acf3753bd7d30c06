set_option maxRecDepth 100000 in
theorem ok_X4_keep : ev_mok (ev_TT.flatten.filter goodWord) (ev_TT.flatten.filter ev_isN) ev_AO0 ev_G0 ev_TY0 ev_pg mi_X4_keep := ev_mchk_ok nd_X4_keep (ev_cin (l := tables_1_4) 4 39 rfl rfl rfl) (by decide +kernel) (by decide +kernel) (by decide +kernel)
set_option maxRecDepth 100000 in
theorem md_X4_keep : cx_md (ev_TT.flatten.filter goodWord) (ev_TT.flatten.filter ev_isN) ev_AO0 ev_G0 ev_TY0 ra0 ev_pg mi_X4_keep := fun pc E hE => ⟨(ok_X4_keep.2.2.2.2.2.2.2 pc E hE).1, (ok_X4_keep.2.2.2.2.2.2.2 pc E hE).2, cx_schk_ok (M := mi_X4_keep) (by decide +kernel) hE⟩
set_option maxRecDepth 100000 in
theorem ok_X4_plan : ev_mok (ev_TT.flatten.filter goodWord) (ev_TT.flatten.filter ev_isN) ev_AO0 ev_G0 ev_TY0 ev_pg mi_X4_plan := ev_mchk_ok nd_X4_plan (ev_cin (l := tables_1_4) 4 1 rfl rfl rfl) (by decide +kernel) (by decide +kernel) (by decide +kernel)
set_option maxRecDepth 100000 in
theorem md_X4_plan : cx_md (ev_TT.flatten.filter goodWord) (ev_TT.flatten.filter ev_isN) ev_AO0 ev_G0 ev_TY0 ra0 ev_pg mi_X4_plan := fun pc E hE => ⟨(ok_X4_plan.2.2.2.2.2.2.2 pc E hE).1, (ok_X4_plan.2.2.2.2.2.2.2 pc E hE).2, cx_schk_ok (M := mi_X4_plan) (by decide +kernel) hE⟩
set_option maxRecDepth 100000 in
theorem ok_X4_step : ev_mok (ev_TT.flatten.filter goodWord) (ev_TT.flatten.filter ev_isN) ev_AO0 ev_G0 ev_TY0 ev_pg mi_X4_step := ev_mchk_ok nd_X4_step (ev_cin (l := tables_1_4) 4 18 rfl rfl rfl) (by decide +kernel) (by decide +kernel) (by decide +kernel)
set_option maxRecDepth 100000 in
theorem md_X4_step : cx_md (ev_TT.flatten.filter goodWord) (ev_TT.flatten.filter ev_isN) ev_AO0 ev_G0 ev_TY0 ra0 ev_pg mi_X4_step := fun pc E hE => ⟨(ok_X4_step.2.2.2.2.2.2.2 pc E hE).1, (ok_X4_step.2.2.2.2.2.2.2 pc E hE).2, cx_schk_ok (M := mi_X4_step) (by decide +kernel) hE⟩
set_option maxRecDepth 100000 in
theorem ok_X5_drawSecret : ev_mok (ev_TT.flatten.filter goodWord) (ev_TT.flatten.filter ev_isN) ev_AO0 ev_G0 ev_TY0 ev_pg mi_X5_drawSecret := ev_mchk_ok nd_X5_drawSecret (ev_cin (l := tables_1_2) 2 90 rfl rfl rfl) (by decide +kernel) (by decide +kernel) (by decide +kernel)
set_option maxRecDepth 100000 in
theorem md_X5_drawSecret : cx_md (ev_TT.flatten.filter goodWord) (ev_TT.flatten.filter ev_isN) ev_AO0 ev_G0 ev_TY0 ra0 ev_pg mi_X5_drawSecret := fun pc E hE => ⟨(ok_X5_drawSecret.2.2.2.2.2.2.2 pc E hE).1, (ok_X5_drawSecret.2.2.2.2.2.2.2 pc E hE).2, cx_schk_ok (M := mi_X5_drawSecret) (by decide +kernel) hE⟩
set_option maxRecDepth 100000 in
theorem ok_X5_drawnWith : ev_mok (ev_TT.flatten.filter goodWord) (ev_TT.flatten.filter ev_isN) ev_AO0 ev_G0 ev_TY0 ev_pg mi_X5_drawnWith := ev_mchk_ok nd_X5_drawnWith (ev_cin (l := tables_1_2) 2 217 rfl rfl rfl) (by decide +kernel) (by decide +kernel) (by decide +kernel)
set_option maxRecDepth 100000 in
theorem md_X5_drawnWith : cx_md (ev_TT.flatten.filter goodWord) (ev_TT.flatten.filter ev_isN) ev_AO0 ev_G0 ev_TY0 ra0 ev_pg mi_X5_drawnWith := fun pc E hE => ⟨(ok_X5_drawnWith.2.2.2.2.2.2.2 pc E hE).1, (ok_X5_drawnWith.2.2.2.2.2.2.2 pc E hE).2, cx_schk_ok (M := mi_X5_drawnWith) (by decide +kernel) hE⟩
set_option maxRecDepth 100000 in
theorem ok_X5_enrol : ev_mok (ev_TT.flatten.filter goodWord) (ev_TT.flatten.filter ev_isN) ev_AO0 ev_G0 ev_TY0 ev_pg mi_X5_enrol := ev_mchk_ok nd_X5_enrol (ev_cin (l := tables_1_2) 2 86 rfl rfl rfl) (by decide +kernel) (by decide +kernel) (by decide +kernel)
set_option maxRecDepth 100000 in
theorem md_X5_enrol : cx_md (ev_TT.flatten.filter goodWord) (ev_TT.flatten.filter ev_isN) ev_AO0 ev_G0 ev_TY0 ra0 ev_pg mi_X5_enrol := fun pc E hE => ⟨(ok_X5_enrol.2.2.2.2.2.2.2 pc E hE).1, (ok_X5_enrol.2.2.2.2.2.2.2 pc E hE).2, cx_schk_ok (M := mi_X5_enrol) (by decide +kernel) hE⟩
set_option maxRecDepth 100000 in
theorem ok_X5_giveAway : ev_mok (ev_TT.flatten.filter goodWord) (ev_TT.flatten.filter ev_isN) ev_AO0 ev_G0 ev_TY0 ev_pg mi_X5_giveAway := ev_mchk_ok nd_X5_giveAway (ev_cin (l := tables_1_4) 4 165 rfl rfl rfl) (by decide +kernel) (by decide +kernel) (by decide +kernel)
set_option maxRecDepth 100000 in
theorem md_X5_giveAway : cx_md (ev_TT.flatten.filter goodWord) (ev_TT.flatten.filter ev_isN) ev_AO0 ev_G0 ev_TY0 ra0 ev_pg mi_X5_giveAway := fun pc E hE => ⟨(ok_X5_giveAway.2.2.2.2.2.2.2 pc E hE).1, (ok_X5_giveAway.2.2.2.2.2.2.2 pc E hE).2, cx_schk_ok (M := mi_X5_giveAway) (by decide +kernel) hE⟩
set_option maxRecDepth 100000 in
theorem ok_X5_hasSeen : ev_mok (ev_TT.flatten.filter goodWord) (ev_TT.flatten.filter ev_isN) ev_AO0 ev_G0 ev_TY0 ev_pg mi_X5_hasSeen := ev_mchk_ok nd_X5_hasSeen (ev_cin (l := tables_1_4) 4 70 rfl rfl rfl) (by decide +kernel) (by decide +kernel) (by decide +kernel)
set_option maxRecDepth 100000 in
theorem md_X5_hasSeen : cx_md (ev_TT.flatten.filter goodWord) (ev_TT.flatten.filter ev_isN) ev_AO0 ev_G0 ev_TY0 ra0 ev_pg mi_X5_hasSeen := fun pc E hE => ⟨(ok_X5_hasSeen.2.2.2.2.2.2.2 pc E hE).1, (ok_X5_hasSeen.2.2.2.2.2.2.2 pc E hE).2, cx_schk_ok (M := mi_X5_hasSeen) (by decide +kernel) hE⟩
set_option maxRecDepth 100000 in
theorem ok_X5_init : ev_mok (ev_TT.flatten.filter goodWord) (ev_TT.flatten.filter ev_isN) ev_AO0 ev_G0 ev_TY0 ev_pg mi_X5_init := ev_mchk_ok nd_X5_init (ev_cin (l := tables_1_1) 1 168 rfl rfl rfl) (by decide +kernel) (by decide +kernel) (by decide +kernel)
set_option maxRecDepth 100000 in
theorem md_X5_init : cx_md (ev_TT.flatten.filter goodWord) (ev_TT.flatten.filter ev_isN) ev_AO0 ev_G0 ev_TY0 ra0 ev_pg mi_X5_init := fun pc E hE => ⟨(ok_X5_init.2.2.2.2.2.2.2 pc E hE).1, (ok_X5_init.2.2.2.2.2.2.2 pc E hE).2, cx_schk_ok (M := mi_X5_init) (by decide +kernel) hE⟩
set_option maxRecDepth 100000 in
theorem ok_X5_isRegistered : ev_mok (ev_TT.flatten.filter goodWord) (ev_TT.flatten.filter ev_isN) ev_AO0 ev_G0 ev_TY0 ev_pg mi_X5_isRegistered := ev_mchk_ok nd_X5_isRegistered (ev_cin (l := tables_1_2) 2 82 rfl rfl rfl) (by decide +kernel) (by decide +kernel) (by decide +kernel)
set_option maxRecDepth 100000 in
theorem md_X5_isRegistered : cx_md (ev_TT.flatten.filter goodWord) (ev_TT.flatten.filter ev_isN) ev_AO0 ev_G0 ev_TY0 ra0 ev_pg mi_X5_isRegistered := fun pc E hE => ⟨(ok_X5_isRegistered.2.2.2.2.2.2.2 pc E hE).1, (ok_X5_isRegistered.2.2.2.2.2.2.2 pc E hE).2, cx_schk_ok (M := mi_X5_isRegistered) (by decide +kernel) hE⟩
set_option maxRecDepth 100000 in
theorem ok_X5_keptLentKey : ev_mok (ev_TT.flatten.filter goodWord) (ev_TT.flatten.filter ev_isN) ev_AO0 ev_G0 ev_TY0 ev_pg mi_X5_keptLentKey := ev_mchk_ok nd_X5_keptLentKey (ev_cin (l := tables_1_4) 4 62 rfl rfl rfl) (by decide +kernel) (by decide +kernel) (by decide +kernel)
set_option maxRecDepth 100000 in
theorem md_X5_keptLentKey : cx_md (ev_TT.flatten.filter goodWord) (ev_TT.flatten.filter ev_isN) ev_AO0 ev_G0 ev_TY0 ra0 ev_pg mi_X5_keptLentKey := fun pc E hE => ⟨(ok_X5_keptLentKey.2.2.2.2.2.2.2 pc E hE).1, (ok_X5_keptLentKey.2.2.2.2.2.2.2 pc E hE).2, cx_schk_ok (M := mi_X5_keptLentKey) (by decide +kernel) hE⟩
set_option maxRecDepth 100000 in
theorem ok_X5_keptOnceKey : ev_mok (ev_TT.flatten.filter goodWord) (ev_TT.flatten.filter ev_isN) ev_AO0 ev_G0 ev_TY0 ev_pg mi_X5_keptOnceKey := ev_mchk_ok nd_X5_keptOnceKey (ev_cin (l := tables_1_4) 4 74 rfl rfl rfl) (by decide +kernel) (by decide +kernel) (by decide +kernel)
set_option maxRecDepth 100000 in
theorem md_X5_keptOnceKey : cx_md (ev_TT.flatten.filter goodWord) (ev_TT.flatten.filter ev_isN) ev_AO0 ev_G0 ev_TY0 ra0 ev_pg mi_X5_keptOnceKey := fun pc E hE => ⟨(ok_X5_keptOnceKey.2.2.2.2.2.2.2 pc E hE).1, (ok_X5_keptOnceKey.2.2.2.2.2.2.2 pc E hE).2, cx_schk_ok (M := mi_X5_keptOnceKey) (by decide +kernel) hE⟩
set_option maxRecDepth 100000 in
theorem ok_X5_leastOnce : ev_mok (ev_TT.flatten.filter goodWord) (ev_TT.flatten.filter ev_isN) ev_AO0 ev_G0 ev_TY0 ev_pg mi_X5_leastOnce := ev_mchk_ok nd_X5_leastOnce (ev_cin (l := tables_1_2) 2 196 rfl rfl rfl) (by decide +kernel) (by decide +kernel) (by decide +kernel)
set_option maxRecDepth 100000 in
theorem md_X5_leastOnce : cx_md (ev_TT.flatten.filter goodWord) (ev_TT.flatten.filter ev_isN) ev_AO0 ev_G0 ev_TY0 ra0 ev_pg mi_X5_leastOnce := fun pc E hE => ⟨(ok_X5_leastOnce.2.2.2.2.2.2.2 pc E hE).1, (ok_X5_leastOnce.2.2.2.2.2.2.2 pc E hE).2, cx_schk_ok (M := mi_X5_leastOnce) (by decide +kernel) hE⟩
set_option maxRecDepth 100000 in
theorem ok_X5_lentKey : ev_mok (ev_TT.flatten.filter goodWord) (ev_TT.flatten.filter ev_isN) ev_AO0 ev_G0 ev_TY0 ev_pg mi_X5_lentKey := ev_mchk_ok nd_X5_lentKey (ev_cin (l := tables_1_4) 4 66 rfl rfl rfl) (by decide +kernel) (by decide +kernel) (by decide +kernel)
set_option maxRecDepth 100000 in
theorem md_X5_lentKey : cx_md (ev_TT.flatten.filter goodWord) (ev_TT.flatten.filter ev_isN) ev_AO0 ev_G0 ev_TY0 ra0 ev_pg mi_X5_lentKey := fun pc E hE => ⟨(ok_X5_lentKey.2.2.2.2.2.2.2 pc E hE).1, (ok_X5_lentKey.2.2.2.2.2.2.2 pc E hE).2, cx_schk_ok (M := mi_X5_lentKey) (by decide +kernel) hE⟩
set_option maxRecDepth 100000 in
theorem ok_X5_makeLentKey : ev_mok (ev_TT.flatten.filter goodWord) (ev_TT.flatten.filter ev_isN) ev_AO0 ev_G0 ev_TY0 ev_pg mi_X5_makeLentKey := ev_mchk_ok nd_X5_makeLentKey (ev_cin (l := tables_1_2) 2 148 rfl rfl rfl) (by decide +kernel) (by decide +kernel) (by decide +kernel)
set_option maxRecDepth 100000 in
theorem md_X5_makeLentKey : cx_md (ev_TT.flatten.filter goodWord) (ev_TT.flatten.filter ev_isN) ev_AO0 ev_G0 ev_TY0 ra0 ev_pg mi_X5_makeLentKey := fun pc E hE => ⟨(ok_X5_makeLentKey.2.2.2.2.2.2.2 pc E hE).1, (ok_X5_makeLentKey.2.2.2.2.2.2.2 pc E hE).2, cx_schk_ok (M := mi_X5_makeLentKey) (by decide +kernel) hE⟩
set_option maxRecDepth 100000 in
theorem ok_X5_makeOnceKey : ev_mok (ev_TT.flatten.filter goodWord) (ev_TT.flatten.filter ev_isN) ev_AO0 ev_G0 ev_TY0 ev_pg mi_X5_makeOnceKey := ev_mchk_ok nd_X5_makeOnceKey (ev_cin (l := tables_1_2) 2 171 rfl rfl rfl) (by decide +kernel) (by decide +kernel) (by decide +kernel)
set_option maxRecDepth 100000 in
theorem md_X5_makeOnceKey : cx_md (ev_TT.flatten.filter goodWord) (ev_TT.flatten.filter ev_isN) ev_AO0 ev_G0 ev_TY0 ra0 ev_pg mi_X5_makeOnceKey := fun pc E hE => ⟨(ok_X5_makeOnceKey.2.2.2.2.2.2.2 pc E hE).1, (ok_X5_makeOnceKey.2.2.2.2.2.2.2 pc E hE).2, cx_schk_ok (M := mi_X5_makeOnceKey) (by decide +kernel) hE⟩
set_option maxRecDepth 100000 in
theorem ok_X5_onceKey : ev_mok (ev_TT.flatten.filter goodWord) (ev_TT.flatten.filter ev_isN) ev_AO0 ev_G0 ev_TY0 ev_pg mi_X5_onceKey := ev_mchk_ok nd_X5_onceKey (ev_cin (l := tables_1_2) 2 209 rfl rfl rfl) (by decide +kernel) (by decide +kernel) (by decide +kernel)
set_option maxRecDepth 100000 in
theorem md_X5_onceKey : cx_md (ev_TT.flatten.filter goodWord) (ev_TT.flatten.filter ev_isN) ev_AO0 ev_G0 ev_TY0 ra0 ev_pg mi_X5_onceKey := fun pc E hE => ⟨(ok_X5_onceKey.2.2.2.2.2.2.2 pc E hE).1, (ok_X5_onceKey.2.2.2.2.2.2.2 pc E hE).2, cx_schk_ok (M := mi_X5_onceKey) (by decide +kernel) hE⟩
set_option maxRecDepth 100000 in
theorem ok_X5_onceSecretsKept : ev_mok (ev_TT.flatten.filter goodWord) (ev_TT.flatten.filter ev_isN) ev_AO0 ev_G0 ev_TY0 ev_pg mi_X5_onceSecretsKept := ev_mchk_ok nd_X5_onceSecretsKept (ev_cin (l := tables_1_4) 4 137 rfl rfl rfl) (by decide +kernel) (by decide +kernel) (by decide +kernel)
set_option maxRecDepth 100000 in
theorem md_X5_onceSecretsKept : cx_md (ev_TT.flatten.filter goodWord) (ev_TT.flatten.filter ev_isN) ev_AO0 ev_G0 ev_TY0 ra0 ev_pg mi_X5_onceSecretsKept := fun pc E hE => ⟨(ok_X5_onceSecretsKept.2.2.2.2.2.2.2 pc E hE).1, (ok_X5_onceSecretsKept.2.2.2.2.2.2.2 pc E hE).2, cx_schk_ok (M := mi_X5_onceSecretsKept) (by decide +kernel) hE⟩
set_option maxRecDepth 100000 in
theorem ok_X5_onceThere : ev_mok (ev_TT.flatten.filter goodWord) (ev_TT.flatten.filter ev_isN) ev_AO0 ev_G0 ev_TY0 ev_pg mi_X5_onceThere := ev_mchk_ok nd_X5_onceThere (ev_cin (l := tables_1_2) 2 167 rfl rfl rfl) (by decide +kernel) (by decide +kernel) (by decide +kernel)
set_option maxRecDepth 100000 in
theorem md_X5_onceThere : cx_md (ev_TT.flatten.filter goodWord) (ev_TT.flatten.filter ev_isN) ev_AO0 ev_G0 ev_TY0 ra0 ev_pg mi_X5_onceThere := fun pc E hE => ⟨(ok_X5_onceThere.2.2.2.2.2.2.2 pc E hE).1, (ok_X5_onceThere.2.2.2.2.2.2.2 pc E hE).2, cx_schk_ok (M := mi_X5_onceThere) (by decide +kernel) hE⟩
set_option maxRecDepth 100000 in
theorem ok_X5_remember : ev_mok (ev_TT.flatten.filter goodWord) (ev_TT.flatten.filter ev_isN) ev_AO0 ev_G0 ev_TY0 ev_pg mi_X5_remember := ev_mchk_ok nd_X5_remember (ev_cin (l := tables_1_4) 4 85 rfl rfl rfl) (by decide +kernel) (by decide +kernel) (by decide +kernel)
set_option maxRecDepth 100000 in
theorem md_X5_remember : cx_md (ev_TT.flatten.filter goodWord) (ev_TT.flatten.filter ev_isN) ev_AO0 ev_G0 ev_TY0 ra0 ev_pg mi_X5_remember := fun pc E hE => ⟨(ok_X5_remember.2.2.2.2.2.2.2 pc E hE).1, (ok_X5_remember.2.2.2.2.2.2.2 pc E hE).2, cx_schk_ok (M := mi_X5_remember) (by decide +kernel) hE⟩
set_option maxRecDepth 100000 in
theorem ok_X5_sealIsRight : ev_mok (ev_TT.flatten.filter goodWord) (ev_TT.flatten.filter ev_isN) ev_AO0 ev_G0 ev_TY0 ev_pg mi_X5_sealIsRight := ev_mchk_ok nd_X5_sealIsRight (ev_cin (l := tables_1_2) 2 200 rfl rfl rfl) (by decide +kernel) (by decide +kernel) (by decide +kernel)
set_option maxRecDepth 100000 in
theorem md_X5_sealIsRight : cx_md (ev_TT.flatten.filter goodWord) (ev_TT.flatten.filter ev_isN) ev_AO0 ev_G0 ev_TY0 ra0 ev_pg mi_X5_sealIsRight := fun pc E hE => ⟨(ok_X5_sealIsRight.2.2.2.2.2.2.2 pc E hE).1, (ok_X5_sealIsRight.2.2.2.2.2.2.2 pc E hE).2, cx_schk_ok (M := mi_X5_sealIsRight) (by decide +kernel) hE⟩
set_option maxRecDepth 100000 in
theorem ok_X5_sessionsInAll : ev_mok (ev_TT.flatten.filter goodWord) (ev_TT.flatten.filter ev_isN) ev_AO0 ev_G0 ev_TY0 ev_pg mi_X5_sessionsInAll := ev_mchk_ok nd_X5_sessionsInAll (ev_cin (l := tables_1_4) 4 141 rfl rfl rfl) (by decide +kernel) (by decide +kernel) (by decide +kernel)
set_option maxRecDepth 100000 in
theorem md_X5_sessionsInAll : cx_md (ev_TT.flatten.filter goodWord) (ev_TT.flatten.filter ev_isN) ev_AO0 ev_G0 ev_TY0 ra0 ev_pg mi_X5_sessionsInAll := fun pc E hE => ⟨(ok_X5_sessionsInAll.2.2.2.2.2.2.2 pc E hE).1, (ok_X5_sessionsInAll.2.2.2.2.2.2.2 pc E hE).2, cx_schk_ok (M := mi_X5_sessionsInAll) (by decide +kernel) hE⟩
set_option maxRecDepth 100000 in
theorem ok_X5_takeOnce : ev_mok (ev_TT.flatten.filter goodWord) (ev_TT.flatten.filter ev_isN) ev_AO0 ev_G0 ev_TY0 ev_pg mi_X5_takeOnce := ev_mchk_ok nd_X5_takeOnce (ev_cin (l := tables_1_2) 2 192 rfl rfl rfl) (by decide +kernel) (by decide +kernel) (by decide +kernel)
set_option maxRecDepth 100000 in
theorem md_X5_takeOnce : cx_md (ev_TT.flatten.filter goodWord) (ev_TT.flatten.filter ev_isN) ev_AO0 ev_G0 ev_TY0 ra0 ev_pg mi_X5_takeOnce := fun pc E hE => ⟨(ok_X5_takeOnce.2.2.2.2.2.2.2 pc E hE).1, (ok_X5_takeOnce.2.2.2.2.2.2.2 pc E hE).2, cx_schk_ok (M := mi_X5_takeOnce) (by decide +kernel) hE⟩
set_option maxRecDepth 100000 in
theorem ok_X5_useOnce : ev_mok (ev_TT.flatten.filter goodWord) (ev_TT.flatten.filter ev_isN) ev_AO0 ev_G0 ev_TY0 ev_pg mi_X5_useOnce := ev_mchk_ok nd_X5_useOnce (ev_cin (l := tables_1_4) 4 81 rfl rfl rfl) (by decide +kernel) (by decide +kernel) (by decide +kernel)
set_option maxRecDepth 100000 in
theorem md_X5_useOnce : cx_md (ev_TT.flatten.filter goodWord) (ev_TT.flatten.filter ev_isN) ev_AO0 ev_G0 ev_TY0 ra0 ev_pg mi_X5_useOnce := fun pc E hE => ⟨(ok_X5_useOnce.2.2.2.2.2.2.2 pc E hE).1, (ok_X5_useOnce.2.2.2.2.2.2.2 pc E hE).2, cx_schk_ok (M := mi_X5_useOnce) (by decide +kernel) hE⟩
set_option maxRecDepth 100000 in
theorem ok_X6_at : ev_mok (ev_TT.flatten.filter goodWord) (ev_TT.flatten.filter ev_isN) ev_AO0 ev_G0 ev_TY0 ev_pg mi_X6_at := ev_mchk_ok nd_X6_at (ev_cin (l := tables_1_3) 3 143 rfl rfl rfl) (by decide +kernel) (by decide +kernel) (by decide +kernel)
set_option maxRecDepth 100000 in
theorem md_X6_at : cx_md (ev_TT.flatten.filter goodWord) (ev_TT.flatten.filter ev_isN) ev_AO0 ev_G0 ev_TY0 ra0 ev_pg mi_X6_at := fun pc E hE => ⟨(ok_X6_at.2.2.2.2.2.2.2 pc E hE).1, (ok_X6_at.2.2.2.2.2.2.2 pc E hE).2, cx_schk_ok (M := mi_X6_at) (by decide +kernel) hE⟩
set_option maxRecDepth 100000 in
theorem ok_X6_begunByOther : ev_mok (ev_TT.flatten.filter goodWord) (ev_TT.flatten.filter ev_isN) ev_AO0 ev_G0 ev_TY0 ev_pg mi_X6_begunByOther := ev_mchk_ok nd_X6_begunByOther (ev_cin (l := tables_1_3) 3 233 rfl rfl rfl) (by decide +kernel) (by decide +kernel) (by decide +kernel)
set_option maxRecDepth 100000 in
theorem md_X6_begunByOther : cx_md (ev_TT.flatten.filter goodWord) (ev_TT.flatten.filter ev_isN) ev_AO0 ev_G0 ev_TY0 ra0 ev_pg mi_X6_begunByOther := fun pc E hE => ⟨(ok_X6_begunByOther.2.2.2.2.2.2.2 pc E hE).1, (ok_X6_begunByOther.2.2.2.2.2.2.2 pc E hE).2, cx_schk_ok (M := mi_X6_begunByOther) (by decide +kernel) hE⟩
set_option maxRecDepth 100000 in
theorem ok_X6_bringFirst : ev_mok (ev_TT.flatten.filter goodWord) (ev_TT.flatten.filter ev_isN) ev_AO0 ev_G0 ev_TY0 ev_pg mi_X6_bringFirst := ev_mchk_ok nd_X6_bringFirst (ev_cin (l := tables_1_4) 4 54 rfl rfl rfl) (by decide +kernel) (by decide +kernel) (by decide +kernel)
set_option maxRecDepth 100000 in
theorem md_X6_bringFirst : cx_md (ev_TT.flatten.filter goodWord) (ev_TT.flatten.filter ev_isN) ev_AO0 ev_G0 ev_TY0 ra0 ev_pg mi_X6_bringFirst := fun pc E hE => ⟨(ok_X6_bringFirst.2.2.2.2.2.2.2 pc E hE).1, (ok_X6_bringFirst.2.2.2.2.2.2.2 pc E hE).2, cx_schk_ok (M := mi_X6_bringFirst) (by decide +kernel) hE⟩
set_option maxRecDepth 100000 in
theorem ok_X6_giveAway : ev_mok (ev_TT.flatten.filter goodWord) (ev_TT.flatten.filter ev_isN) ev_AO0 ev_G0 ev_TY0 ev_pg mi_X6_giveAway := ev_mchk_ok nd_X6_giveAway (ev_cin (l := tables_1_4) 4 174 rfl rfl rfl) (by decide +kernel) (by decide +kernel) (by decide +kernel)
set_option maxRecDepth 100000 in
theorem md_X6_giveAway : cx_md (ev_TT.flatten.filter goodWord) (ev_TT.flatten.filter ev_isN) ev_AO0 ev_G0 ev_TY0 ra0 ev_pg mi_X6_giveAway := fun pc E hE => ⟨(ok_X6_giveAway.2.2.2.2.2.2.2 pc E hE).1, (ok_X6_giveAway.2.2.2.2.2.2.2 pc E hE).2, cx_schk_ok (M := mi_X6_giveAway) (by decide +kernel) hE⟩
set_option maxRecDepth 100000 in
theorem ok_X6_init : ev_mok (ev_TT.flatten.filter goodWord) (ev_TT.flatten.filter ev_isN) ev_AO0 ev_G0 ev_TY0 ev_pg mi_X6_init := ev_mchk_ok nd_X6_init (ev_cin (l := tables_1_1) 1 176 rfl rfl rfl) (by decide +kernel) (by decide +kernel) (by decide +kernel)
set_option maxRecDepth 100000 in
theorem md_X6_init : cx_md (ev_TT.flatten.filter goodWord) (ev_TT.flatten.filter ev_isN) ev_AO0 ev_G0 ev_TY0 ra0 ev_pg mi_X6_init := fun pc E hE => ⟨(ok_X6_init.2.2.2.2.2.2.2 pc E hE).1, (ok_X6_init.2.2.2.2.2.2.2 pc E hE).2, cx_schk_ok (M := mi_X6_init) (by decide +kernel) hE⟩
set_option maxRecDepth 100000 in
theorem ok_X6_putFirst : ev_mok (ev_TT.flatten.filter goodWord) (ev_TT.flatten.filter ev_isN) ev_AO0 ev_G0 ev_TY0 ev_pg mi_X6_putFirst := ev_mchk_ok nd_X6_putFirst (ev_cin (l := tables_1_3) 3 135 rfl rfl rfl) (by decide +kernel) (by decide +kernel) (by decide +kernel)
set_option maxRecDepth 100000 in
theorem md_X6_putFirst : cx_md (ev_TT.flatten.filter goodWord) (ev_TT.flatten.filter ev_isN) ev_AO0 ev_G0 ev_TY0 ra0 ev_pg mi_X6_putFirst := fun pc E hE => ⟨(ok_X6_putFirst.2.2.2.2.2.2.2 pc E hE).1, (ok_X6_putFirst.2.2.2.2.2.2.2 pc E hE).2, cx_schk_ok (M := mi_X6_putFirst) (by decide +kernel) hE⟩
set_option maxRecDepth 100000 in
theorem ok_X6_retireAll : ev_mok (ev_TT.flatten.filter goodWord) (ev_TT.flatten.filter ev_isN) ev_AO0 ev_G0 ev_TY0 ev_pg mi_X6_retireAll := ev_mchk_ok nd_X6_retireAll (ev_cin (l := tables_1_3) 3 204 rfl rfl rfl) (by decide +kernel) (by decide +kernel) (by decide +kernel)
set_option maxRecDepth 100000 in
theorem md_X6_retireAll : cx_md (ev_TT.flatten.filter goodWord) (ev_TT.flatten.filter ev_isN) ev_AO0 ev_G0 ev_TY0 ra0 ev_pg mi_X6_retireAll := fun pc E hE => ⟨(ok_X6_retireAll.2.2.2.2.2.2.2 pc E hE).1, (ok_X6_retireAll.2.2.2.2.2.2.2 pc E hE).2, cx_schk_ok (M := mi_X6_retireAll) (by decide +kernel) hE⟩
set_option maxRecDepth 100000 in
theorem ok_X6_shiftInto : ev_mok (ev_TT.flatten.filter goodWord) (ev_TT.flatten.filter ev_isN) ev_AO0 ev_G0 ev_TY0 ev_pg mi_X6_shiftInto := ev_mchk_ok nd_X6_shiftInto (ev_cin (l := tables_1_3) 3 139 rfl rfl rfl) (by decide +kernel) (by decide +kernel) (by decide +kernel)
set_option maxRecDepth 100000 in
theorem md_X6_shiftInto : cx_md (ev_TT.flatten.filter goodWord) (ev_TT.flatten.filter ev_isN) ev_AO0 ev_G0 ev_TY0 ra0 ev_pg mi_X6_shiftInto := fun pc E hE => ⟨(ok_X6_shiftInto.2.2.2.2.2.2.2 pc E hE).1, (ok_X6_shiftInto.2.2.2.2.2.2.2 pc E hE).2, cx_schk_ok (M := mi_X6_shiftInto) (by decide +kernel) hE⟩
set_option maxRecDepth 100000 in
theorem ok_X7_give : ev_mok (ev_TT.flatten.filter goodWord) (ev_TT.flatten.filter ev_isN) ev_AO0 ev_G0 ev_TY0 ev_pg mi_X7_give := ev_mchk_ok nd_X7_give (ev_cin (l := tables_1_4) 4 168 rfl rfl rfl) (by decide +kernel) (by decide +kernel) (by decide +kernel)
set_option maxRecDepth 100000 in
theorem md_X7_give : cx_md (ev_TT.flatten.filter goodWord) (ev_TT.flatten.filter ev_isN) ev_AO0 ev_G0 ev_TY0 ra0 ev_pg mi_X7_give := fun pc E hE => ⟨(ok_X7_give.2.2.2.2.2.2.2 pc E hE).1, (ok_X7_give.2.2.2.2.2.2.2 pc E hE).2, cx_schk_ok (M := mi_X7_give) (by decide +kernel) hE⟩
