set_option maxRecDepth 100000 in
theorem ok_L_cell : ev_mok (lw_tbl.filter goodWord) (lw_tbl.filter ev_isN) ev_AO0 ev_G0 ev_TY0 ev_pg mi_L_cell := ev_mchk_ok nd_L_cell (by decide +kernel) (by decide +kernel) (by decide +kernel)
set_option maxRecDepth 100000 in
theorem ok_X0_init : ev_mok (lw_tbl.filter goodWord) (lw_tbl.filter ev_isN) ev_AO0 ev_G0 ev_TY0 ev_pg mi_X0_init := ev_mchk_ok nd_X0_init (by decide +kernel) (by decide +kernel) (by decide +kernel)
set_option maxRecDepth 100000 in
theorem ok_X10_giveRoot : ev_mok (lw_tbl.filter goodWord) (lw_tbl.filter ev_isN) ev_AO0 ev_G0 ev_TY0 ev_pg mi_X10_giveRoot := ev_mchk_ok nd_X10_giveRoot (by decide +kernel) (by decide +kernel) (by decide +kernel)
set_option maxRecDepth 100000 in
theorem ok_X10_init : ev_mok (lw_tbl.filter goodWord) (lw_tbl.filter ev_isN) ev_AO0 ev_G0 ev_TY0 ev_pg mi_X10_init := ev_mchk_ok nd_X10_init (by decide +kernel) (by decide +kernel) (by decide +kernel)
set_option maxRecDepth 100000 in
theorem ok_X11_arePair : ev_mok (lw_tbl.filter goodWord) (lw_tbl.filter ev_isN) ev_AO0 ev_G0 ev_TY0 ev_pg mi_X11_arePair := ev_mchk_ok nd_X11_arePair (by decide +kernel) (by decide +kernel) (by decide +kernel)
set_option maxRecDepth 100000 in
theorem ok_X11_begin : ev_mok (lw_tbl.filter goodWord) (lw_tbl.filter ev_isN) ev_AO0 ev_G0 ev_TY0 ev_pg mi_X11_begin := ev_mchk_ok nd_X11_begin (by decide +kernel) (by decide +kernel) (by decide +kernel)
set_option maxRecDepth 100000 in
theorem ok_X11_byteOf : ev_mok (lw_tbl.filter goodWord) (lw_tbl.filter ev_isN) ev_AO0 ev_G0 ev_TY0 ev_pg mi_X11_byteOf := ev_mchk_ok nd_X11_byteOf (by decide +kernel) (by decide +kernel) (by decide +kernel)
set_option maxRecDepth 100000 in
theorem ok_X11_come : ev_mok (lw_tbl.filter goodWord) (lw_tbl.filter ev_isN) ev_AO0 ev_G0 ev_TY0 ev_pg mi_X11_come := ev_mchk_ok nd_X11_come (by decide +kernel) (by decide +kernel) (by decide +kernel)
set_option maxRecDepth 100000 in
theorem ok_X11_copy : ev_mok (lw_tbl.filter goodWord) (lw_tbl.filter ev_isN) ev_AO0 ev_G0 ev_TY0 ev_pg mi_X11_copy := ev_mchk_ok nd_X11_copy (by decide +kernel) (by decide +kernel) (by decide +kernel)
set_option maxRecDepth 100000 in
theorem ok_X11_count : ev_mok (lw_tbl.filter goodWord) (lw_tbl.filter ev_isN) ev_AO0 ev_G0 ev_TY0 ev_pg mi_X11_count := ev_mchk_ok nd_X11_count (by decide +kernel) (by decide +kernel) (by decide +kernel)
set_option maxRecDepth 100000 in
theorem ok_X11_end : ev_mok (lw_tbl.filter goodWord) (lw_tbl.filter ev_isN) ev_AO0 ev_G0 ev_TY0 ev_pg mi_X11_end := ev_mchk_ok nd_X11_end (by decide +kernel) (by decide +kernel) (by decide +kernel)
set_option maxRecDepth 100000 in
theorem ok_X11_feed : ev_mok (lw_tbl.filter goodWord) (lw_tbl.filter ev_isN) ev_AO0 ev_G0 ev_TY0 ev_pg mi_X11_feed := ev_mchk_ok nd_X11_feed (by decide +kernel) (by decide +kernel) (by decide +kernel)
