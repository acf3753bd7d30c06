set_option maxRecDepth 100000 in
theorem ok_X3_init : ev_mok (ev_TT.flatten.filter goodWord) (ev_TT.flatten.filter ev_isN) ev_AO0 ev_G0 ev_TY0 ev_pg mi_X3_init := ev_mchk_ok nd_X3_init (ev_cin (l := tables_1_1) 1 129 rfl rfl rfl) (by decide +kernel) (by decide +kernel) (by decide +kernel)
set_option maxRecDepth 100000 in
theorem ok_X3_take : ev_mok (ev_TT.flatten.filter goodWord) (ev_TT.flatten.filter ev_isN) ev_AO0 ev_G0 ev_TY0 ev_pg mi_X3_take := ev_mchk_ok nd_X3_take (ev_cin (l := tables_1_4) 4 167 rfl rfl rfl) (by decide +kernel) (by decide +kernel) (by decide +kernel)
set_option maxRecDepth 100000 in
theorem ok_X4_isOpen : ev_mok (ev_TT.flatten.filter goodWord) (ev_TT.flatten.filter ev_isN) ev_AO0 ev_G0 ev_TY0 ev_pg mi_X4_isOpen := ev_mchk_ok nd_X4_isOpen (ev_cin (l := tables_1_2) 2 121 rfl rfl rfl) (by decide +kernel) (by decide +kernel) (by decide +kernel)
set_option maxRecDepth 100000 in
theorem ok_X4_mix : ev_mok (ev_TT.flatten.filter goodWord) (ev_TT.flatten.filter ev_isN) ev_AO0 ev_G0 ev_TY0 ev_pg mi_X4_mix := ev_mchk_ok nd_X4_mix (ev_cin (l := tables_1_2) 2 102 rfl rfl rfl) (by decide +kernel) (by decide +kernel) (by decide +kernel)
set_option maxRecDepth 100000 in
theorem ok_X4_power : ev_mok (ev_TT.flatten.filter goodWord) (ev_TT.flatten.filter ev_isN) ev_AO0 ev_G0 ev_TY0 ev_pg mi_X4_power := ev_mchk_ok nd_X4_power (ev_cin (l := tables_1_2) 2 118 rfl rfl rfl) (by decide +kernel) (by decide +kernel) (by decide +kernel)
set_option maxRecDepth 100000 in
theorem ok_X4_rest : ev_mok (ev_TT.flatten.filter goodWord) (ev_TT.flatten.filter ev_isN) ev_AO0 ev_G0 ev_TY0 ev_pg mi_X4_rest := ev_mchk_ok nd_X4_rest (ev_cin (l := tables_1_2) 2 112 rfl rfl rfl) (by decide +kernel) (by decide +kernel) (by decide +kernel)
set_option maxRecDepth 100000 in
theorem ok_X4_sealProof : ev_mok (ev_TT.flatten.filter goodWord) (ev_TT.flatten.filter ev_isN) ev_AO0 ev_G0 ev_TY0 ev_pg mi_X4_sealProof := ev_mchk_ok nd_X4_sealProof (ev_cin (l := tables_1_2) 2 161 rfl rfl rfl) (by decide +kernel) (by decide +kernel) (by decide +kernel)
set_option maxRecDepth 100000 in
theorem ok_X4_sealSum : ev_mok (ev_TT.flatten.filter goodWord) (ev_TT.flatten.filter ev_isN) ev_AO0 ev_G0 ev_TY0 ev_pg mi_X4_sealSum := ev_mchk_ok nd_X4_sealSum (ev_cin (l := tables_1_2) 2 164 rfl rfl rfl) (by decide +kernel) (by decide +kernel) (by decide +kernel)
set_option maxRecDepth 100000 in
theorem ok_X4_secretOf : ev_mok (ev_TT.flatten.filter goodWord) (ev_TT.flatten.filter ev_isN) ev_AO0 ev_G0 ev_TY0 ev_pg mi_X4_secretOf := ev_mchk_ok nd_X4_secretOf (ev_cin (l := tables_1_2) 2 108 rfl rfl rfl) (by decide +kernel) (by decide +kernel) (by decide +kernel)
set_option maxRecDepth 100000 in
theorem ok_X4_times : ev_mok (ev_TT.flatten.filter goodWord) (ev_TT.flatten.filter ev_isN) ev_AO0 ev_G0 ev_TY0 ev_pg mi_X4_times := ev_mchk_ok nd_X4_times (ev_cin (l := tables_1_2) 2 125 rfl rfl rfl) (by decide +kernel) (by decide +kernel) (by decide +kernel)
set_option maxRecDepth 100000 in
theorem ok_X4_timesModuloQ : ev_mok (ev_TT.flatten.filter goodWord) (ev_TT.flatten.filter ev_isN) ev_AO0 ev_G0 ev_TY0 ev_pg mi_X4_timesModuloQ := ev_mchk_ok nd_X4_timesModuloQ (ev_cin (l := tables_1_2) 2 169 rfl rfl rfl) (by decide +kernel) (by decide +kernel) (by decide +kernel)
set_option maxRecDepth 100000 in
theorem ok_X5_init : ev_mok (ev_TT.flatten.filter goodWord) (ev_TT.flatten.filter ev_isN) ev_AO0 ev_G0 ev_TY0 ev_pg mi_X5_init := ev_mchk_ok nd_X5_init (ev_cin (l := tables_1_1) 1 96 rfl rfl rfl) (by decide +kernel) (by decide +kernel) (by decide +kernel)
