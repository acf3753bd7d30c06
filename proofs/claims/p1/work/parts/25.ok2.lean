set_option maxRecDepth 100000 in
theorem ok_X11_readable : ev_mok (ev_TT.flatten.filter goodWord) (ev_TT.flatten.filter ev_isN) ev_AO0 ev_G0 ev_TY0 ev_pg mi_X11_readable := ev_mchk_ok nd_X11_readable (ev_cin (l := tables_1_4) 4 196 rfl rfl rfl) (by decide +kernel) (by decide +kernel) (by decide +kernel)
set_option maxRecDepth 100000 in
theorem ok_X11_register : ev_mok (ev_TT.flatten.filter goodWord) (ev_TT.flatten.filter ev_isN) ev_AO0 ev_G0 ev_TY0 ev_pg mi_X11_register := ev_mchk_ok nd_X11_register (ev_cin (l := tables_1_2) 2 83 rfl rfl rfl) (by decide +kernel) (by decide +kernel) (by decide +kernel)
set_option maxRecDepth 100000 in
theorem ok_X11_rotate : ev_mok (ev_TT.flatten.filter goodWord) (ev_TT.flatten.filter ev_isN) ev_AO0 ev_G0 ev_TY0 ev_pg mi_X11_rotate := ev_mchk_ok nd_X11_rotate (ev_cin (l := tables_1_2) 2 185 rfl rfl rfl) (by decide +kernel) (by decide +kernel) (by decide +kernel)
set_option maxRecDepth 100000 in
theorem ok_X11_same : ev_mok (ev_TT.flatten.filter goodWord) (ev_TT.flatten.filter ev_isN) ev_AO0 ev_G0 ev_TY0 ev_pg mi_X11_same := ev_mchk_ok nd_X11_same (ev_cin (l := tables_1_4) 4 155 rfl rfl rfl) (by decide +kernel) (by decide +kernel) (by decide +kernel)
set_option maxRecDepth 100000 in
theorem ok_X11_session : ev_mok (ev_TT.flatten.filter goodWord) (ev_TT.flatten.filter ev_isN) ev_AO0 ev_G0 ev_TY0 ev_pg mi_X11_session := ev_mchk_ok nd_X11_session (ev_cin (l := tables_1_4) 4 147 rfl rfl rfl) (by decide +kernel) (by decide +kernel) (by decide +kernel)
set_option maxRecDepth 100000 in
theorem ok_X11_spoil : ev_mok (ev_TT.flatten.filter goodWord) (ev_TT.flatten.filter ev_isN) ev_AO0 ev_G0 ev_TY0 ev_pg mi_X11_spoil := ev_mchk_ok nd_X11_spoil (ev_cin (l := tables_1_4) 4 114 rfl rfl rfl) (by decide +kernel) (by decide +kernel) (by decide +kernel)
set_option maxRecDepth 100000 in
theorem ok_X11_user : ev_mok (ev_TT.flatten.filter goodWord) (ev_TT.flatten.filter ev_isN) ev_AO0 ev_G0 ev_TY0 ev_pg mi_X11_user := ev_mchk_ok nd_X11_user (ev_cin (l := tables_1_4) 4 127 rfl rfl rfl) (by decide +kernel) (by decide +kernel) (by decide +kernel)
set_option maxRecDepth 100000 in
theorem ok_X11_write : ev_mok (ev_TT.flatten.filter goodWord) (ev_TT.flatten.filter ev_isN) ev_AO0 ev_G0 ev_TY0 ev_pg mi_X11_write := ev_mchk_ok nd_X11_write (ev_cin (l := tables_1_2) 2 190 rfl rfl rfl) (by decide +kernel) (by decide +kernel) (by decide +kernel)
set_option maxRecDepth 100000 in
theorem ok_X12_asSecret : ev_mok (ev_TT.flatten.filter goodWord) (ev_TT.flatten.filter ev_isN) ev_AO0 ev_G0 ev_TY0 ev_pg mi_X12_asSecret := ev_mchk_ok nd_X12_asSecret (ev_cin (l := tables_1_6) 6 32 rfl rfl rfl) (by decide +kernel) (by decide +kernel) (by decide +kernel)
set_option maxRecDepth 100000 in
theorem ok_X12_begin : ev_mok (ev_TT.flatten.filter goodWord) (ev_TT.flatten.filter ev_isN) ev_AO0 ev_G0 ev_TY0 ev_pg mi_X12_begin := ev_mchk_ok nd_X12_begin (ev_cin (l := tables_1_6) 6 76 rfl rfl rfl) (by decide +kernel) (by decide +kernel) (by decide +kernel)
set_option maxRecDepth 100000 in
theorem ok_X12_byteOf : ev_mok (ev_TT.flatten.filter goodWord) (ev_TT.flatten.filter ev_isN) ev_AO0 ev_G0 ev_TY0 ev_pg mi_X12_byteOf := ev_mchk_ok nd_X12_byteOf (ev_cin (l := tables_1_6) 6 161 rfl rfl rfl) (by decide +kernel) (by decide +kernel) (by decide +kernel)
set_option maxRecDepth 100000 in
theorem ok_X12_come : ev_mok (ev_TT.flatten.filter goodWord) (ev_TT.flatten.filter ev_isN) ev_AO0 ev_G0 ev_TY0 ev_pg mi_X12_come := ev_mchk_ok nd_X12_come (ev_cin (l := tables_1_6) 6 169 rfl rfl rfl) (by decide +kernel) (by decide +kernel) (by decide +kernel)
