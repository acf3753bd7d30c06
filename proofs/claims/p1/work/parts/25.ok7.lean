set_option maxRecDepth 100000 in
theorem ok_X5_isRegistered : ev_mok (ev_TT.flatten.filter goodWord) (ev_TT.flatten.filter ev_isN) ev_AO0 ev_G0 ev_TY0 ev_pg mi_X5_isRegistered := ev_mchk_ok nd_X5_isRegistered (ev_cin (l := tables_1_2) 2 82 rfl rfl rfl) (by decide +kernel) (by decide +kernel) (by decide +kernel)
set_option maxRecDepth 100000 in
theorem ok_X5_leastOnce : ev_mok (ev_TT.flatten.filter goodWord) (ev_TT.flatten.filter ev_isN) ev_AO0 ev_G0 ev_TY0 ev_pg mi_X5_leastOnce := ev_mchk_ok nd_X5_leastOnce (ev_cin (l := tables_1_2) 2 196 rfl rfl rfl) (by decide +kernel) (by decide +kernel) (by decide +kernel)
set_option maxRecDepth 100000 in
theorem ok_X5_makeLentKey : ev_mok (ev_TT.flatten.filter goodWord) (ev_TT.flatten.filter ev_isN) ev_AO0 ev_G0 ev_TY0 ev_pg mi_X5_makeLentKey := ev_mchk_ok nd_X5_makeLentKey (ev_cin (l := tables_1_2) 2 148 rfl rfl rfl) (by decide +kernel) (by decide +kernel) (by decide +kernel)
set_option maxRecDepth 100000 in
theorem ok_X5_onceSecretsKept : ev_mok (ev_TT.flatten.filter goodWord) (ev_TT.flatten.filter ev_isN) ev_AO0 ev_G0 ev_TY0 ev_pg mi_X5_onceSecretsKept := ev_mchk_ok nd_X5_onceSecretsKept (ev_cin (l := tables_1_4) 4 137 rfl rfl rfl) (by decide +kernel) (by decide +kernel) (by decide +kernel)
set_option maxRecDepth 100000 in
theorem ok_X5_onceThere : ev_mok (ev_TT.flatten.filter goodWord) (ev_TT.flatten.filter ev_isN) ev_AO0 ev_G0 ev_TY0 ev_pg mi_X5_onceThere := ev_mchk_ok nd_X5_onceThere (ev_cin (l := tables_1_2) 2 167 rfl rfl rfl) (by decide +kernel) (by decide +kernel) (by decide +kernel)
set_option maxRecDepth 100000 in
theorem ok_X5_sessionsInAll : ev_mok (ev_TT.flatten.filter goodWord) (ev_TT.flatten.filter ev_isN) ev_AO0 ev_G0 ev_TY0 ev_pg mi_X5_sessionsInAll := ev_mchk_ok nd_X5_sessionsInAll (ev_cin (l := tables_1_4) 4 141 rfl rfl rfl) (by decide +kernel) (by decide +kernel) (by decide +kernel)
set_option maxRecDepth 100000 in
theorem ok_X6_at : ev_mok (ev_TT.flatten.filter goodWord) (ev_TT.flatten.filter ev_isN) ev_AO0 ev_G0 ev_TY0 ev_pg mi_X6_at := ev_mchk_ok nd_X6_at (ev_cin (l := tables_1_3) 3 143 rfl rfl rfl) (by decide +kernel) (by decide +kernel) (by decide +kernel)
set_option maxRecDepth 100000 in
theorem ok_X6_giveAway : ev_mok (ev_TT.flatten.filter goodWord) (ev_TT.flatten.filter ev_isN) ev_AO0 ev_G0 ev_TY0 ev_pg mi_X6_giveAway := ev_mchk_ok nd_X6_giveAway (ev_cin (l := tables_1_4) 4 174 rfl rfl rfl) (by decide +kernel) (by decide +kernel) (by decide +kernel)
set_option maxRecDepth 100000 in
theorem ok_X6_init : ev_mok (ev_TT.flatten.filter goodWord) (ev_TT.flatten.filter ev_isN) ev_AO0 ev_G0 ev_TY0 ev_pg mi_X6_init := ev_mchk_ok nd_X6_init (ev_cin (l := tables_1_1) 1 176 rfl rfl rfl) (by decide +kernel) (by decide +kernel) (by decide +kernel)
set_option maxRecDepth 100000 in
theorem ok_X6_retireAll : ev_mok (ev_TT.flatten.filter goodWord) (ev_TT.flatten.filter ev_isN) ev_AO0 ev_G0 ev_TY0 ev_pg mi_X6_retireAll := ev_mchk_ok nd_X6_retireAll (ev_cin (l := tables_1_3) 3 204 rfl rfl rfl) (by decide +kernel) (by decide +kernel) (by decide +kernel)
set_option maxRecDepth 100000 in
theorem ok_X7_give : ev_mok (ev_TT.flatten.filter goodWord) (ev_TT.flatten.filter ev_isN) ev_AO0 ev_G0 ev_TY0 ev_pg mi_X7_give := ev_mchk_ok nd_X7_give (ev_cin (l := tables_1_4) 4 168 rfl rfl rfl) (by decide +kernel) (by decide +kernel) (by decide +kernel)
set_option maxRecDepth 100000 in
theorem ok_X7_init : ev_mok (ev_TT.flatten.filter goodWord) (ev_TT.flatten.filter ev_isN) ev_AO0 ev_G0 ev_TY0 ev_pg mi_X7_init := ev_mchk_ok nd_X7_init (ev_cin (l := tables_1_2) 2 121 rfl rfl rfl) (by decide +kernel) (by decide +kernel) (by decide +kernel)
