set_option maxRecDepth 100000 in
theorem ok_X11_lend : ev_mok (ev_TT.flatten.filter goodWord) (ev_TT.flatten.filter ev_isN) ev_AO0 ev_G0 ev_TY0 ev_pg mi_X11_lend := ev_mchk_ok nd_X11_lend (ev_cin (l := tables_1_6) 6 52 rfl rfl rfl) (by decide +kernel) (by decide +kernel) (by decide +kernel)
set_option maxRecDepth 100000 in
theorem ok_X11_letter : ev_mok (ev_TT.flatten.filter goodWord) (ev_TT.flatten.filter ev_isN) ev_AO0 ev_G0 ev_TY0 ev_pg mi_X11_letter := ev_mchk_ok nd_X11_letter (ev_cin (l := tables_1_6) 6 157 rfl rfl rfl) (by decide +kernel) (by decide +kernel) (by decide +kernel)
set_option maxRecDepth 100000 in
theorem ok_X11_look : ev_mok (ev_TT.flatten.filter goodWord) (ev_TT.flatten.filter ev_isN) ev_AO0 ev_G0 ev_TY0 ev_pg mi_X11_look := ev_mchk_ok nd_X11_look (ev_cin (l := tables_1_7) 7 17 rfl rfl rfl) (by decide +kernel) (by decide +kernel) (by decide +kernel)
set_option maxRecDepth 100000 in
theorem ok_X11_mix : ev_mok (ev_TT.flatten.filter goodWord) (ev_TT.flatten.filter ev_isN) ev_AO0 ev_G0 ev_TY0 ev_pg mi_X11_mix := ev_mchk_ok nd_X11_mix (ev_cin (l := tables_1_6) 6 26 rfl rfl rfl) (by decide +kernel) (by decide +kernel) (by decide +kernel)
set_option maxRecDepth 100000 in
theorem ok_X11_modQ : ev_mok (ev_TT.flatten.filter goodWord) (ev_TT.flatten.filter ev_isN) ev_AO0 ev_G0 ev_TY0 ev_pg mi_X11_modQ := ev_mchk_ok nd_X11_modQ (ev_cin (l := tables_1_6) 6 55 rfl rfl rfl) (by decide +kernel) (by decide +kernel) (by decide +kernel)
set_option maxRecDepth 100000 in
theorem ok_X11_number : ev_mok (ev_TT.flatten.filter goodWord) (ev_TT.flatten.filter ev_isN) ev_AO0 ev_G0 ev_TY0 ev_pg mi_X11_number := ev_mchk_ok nd_X11_number (ev_cin (l := tables_1_6) 6 237 rfl rfl rfl) (by decide +kernel) (by decide +kernel) (by decide +kernel)
set_option maxRecDepth 100000 in
theorem ok_X11_onceInDirectory : ev_mok (ev_TT.flatten.filter goodWord) (ev_TT.flatten.filter ev_isN) ev_AO0 ev_G0 ev_TY0 ev_pg mi_X11_onceInDirectory := ev_mchk_ok nd_X11_onceInDirectory (ev_cin (l := tables_1_6) 6 68 rfl rfl rfl) (by decide +kernel) (by decide +kernel) (by decide +kernel)
set_option maxRecDepth 100000 in
theorem ok_X11_power : ev_mok (ev_TT.flatten.filter goodWord) (ev_TT.flatten.filter ev_isN) ev_AO0 ev_G0 ev_TY0 ev_pg mi_X11_power := ev_mchk_ok nd_X11_power (ev_cin (l := tables_1_6) 6 38 rfl rfl rfl) (by decide +kernel) (by decide +kernel) (by decide +kernel)
set_option maxRecDepth 100000 in
theorem ok_X11_publish : ev_mok (ev_TT.flatten.filter goodWord) (ev_TT.flatten.filter ev_isN) ev_AO0 ev_G0 ev_TY0 ev_pg mi_X11_publish := ev_mchk_ok nd_X11_publish (ev_cin (l := tables_1_6) 6 64 rfl rfl rfl) (by decide +kernel) (by decide +kernel) (by decide +kernel)
set_option maxRecDepth 100000 in
theorem ok_X11_readable : ev_mok (ev_TT.flatten.filter goodWord) (ev_TT.flatten.filter ev_isN) ev_AO0 ev_G0 ev_TY0 ev_pg mi_X11_readable := ev_mchk_ok nd_X11_readable (ev_cin (l := tables_1_7) 7 25 rfl rfl rfl) (by decide +kernel) (by decide +kernel) (by decide +kernel)
set_option maxRecDepth 100000 in
theorem ok_X11_register : ev_mok (ev_TT.flatten.filter goodWord) (ev_TT.flatten.filter ev_isN) ev_AO0 ev_G0 ev_TY0 ev_pg mi_X11_register := ev_mchk_ok nd_X11_register (ev_cin (l := tables_1_6) 6 11 rfl rfl rfl) (by decide +kernel) (by decide +kernel) (by decide +kernel)
set_option maxRecDepth 100000 in
theorem ok_X11_rotate : ev_mok (ev_TT.flatten.filter goodWord) (ev_TT.flatten.filter ev_isN) ev_AO0 ev_G0 ev_TY0 ev_pg mi_X11_rotate := ev_mchk_ok nd_X11_rotate (ev_cin (l := tables_1_6) 6 72 rfl rfl rfl) (by decide +kernel) (by decide +kernel) (by decide +kernel)
