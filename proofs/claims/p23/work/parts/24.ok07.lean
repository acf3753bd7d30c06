set_option maxRecDepth 100000 in
theorem ok_X11_stepReceiving : ev_mok (ev_TT.flatten.filter goodWord) (ev_TT.flatten.filter ev_isN) ev_AO0 ev_G0 ev_TY0 ev_pg mi_X11_stepReceiving := ev_mchk_ok nd_X11_stepReceiving (ev_cin (l := tables_1_6) 6 209 rfl rfl rfl) (by decide +kernel) (by decide +kernel) (by decide +kernel)
set_option maxRecDepth 100000 in
theorem md_X11_stepReceiving : cx_md (ev_TT.flatten.filter goodWord) (ev_TT.flatten.filter ev_isN) ev_AO0 ev_G0 ev_TY0 ra0 ev_pg mi_X11_stepReceiving := fun pc E hE => ⟨(ok_X11_stepReceiving.2.2.2.2.2.2.2 pc E hE).1, (ok_X11_stepReceiving.2.2.2.2.2.2.2 pc E hE).2, cx_schk_ok (M := mi_X11_stepReceiving) (by decide +kernel) hE⟩
set_option maxRecDepth 100000 in
theorem ok_X11_sumOf : ev_mok (ev_TT.flatten.filter goodWord) (ev_TT.flatten.filter ev_isN) ev_AO0 ev_G0 ev_TY0 ev_pg mi_X11_sumOf := ev_mchk_ok nd_X11_sumOf (ev_cin (l := tables_1_6) 6 110 rfl rfl rfl) (by decide +kernel) (by decide +kernel) (by decide +kernel)
set_option maxRecDepth 100000 in
theorem md_X11_sumOf : cx_md (ev_TT.flatten.filter goodWord) (ev_TT.flatten.filter ev_isN) ev_AO0 ev_G0 ev_TY0 ra0 ev_pg mi_X11_sumOf := fun pc E hE => ⟨(ok_X11_sumOf.2.2.2.2.2.2.2 pc E hE).1, (ok_X11_sumOf.2.2.2.2.2.2.2 pc E hE).2, cx_schk_ok (M := mi_X11_sumOf) (by decide +kernel) hE⟩
set_option maxRecDepth 100000 in
theorem ok_X11_sumOfBytes : ev_mok (ev_TT.flatten.filter goodWord) (ev_TT.flatten.filter ev_isN) ev_AO0 ev_G0 ev_TY0 ev_pg mi_X11_sumOfBytes := ev_mchk_ok nd_X11_sumOfBytes (ev_cin (l := tables_1_6) 6 141 rfl rfl rfl) (by decide +kernel) (by decide +kernel) (by decide +kernel)
set_option maxRecDepth 100000 in
theorem md_X11_sumOfBytes : cx_md (ev_TT.flatten.filter goodWord) (ev_TT.flatten.filter ev_isN) ev_AO0 ev_G0 ev_TY0 ra0 ev_pg mi_X11_sumOfBytes := fun pc E hE => ⟨(ok_X11_sumOfBytes.2.2.2.2.2.2.2 pc E hE).1, (ok_X11_sumOfBytes.2.2.2.2.2.2.2 pc E hE).2, cx_schk_ok (M := mi_X11_sumOfBytes) (by decide +kernel) hE⟩
set_option maxRecDepth 100000 in
theorem ok_X11_term : ev_mok (ev_TT.flatten.filter goodWord) (ev_TT.flatten.filter ev_isN) ev_AO0 ev_G0 ev_TY0 ev_pg mi_X11_term := ev_mchk_ok nd_X11_term (ev_cin (l := tables_1_6) 6 48 rfl rfl rfl) (by decide +kernel) (by decide +kernel) (by decide +kernel)
set_option maxRecDepth 100000 in
theorem md_X11_term : cx_md (ev_TT.flatten.filter goodWord) (ev_TT.flatten.filter ev_isN) ev_AO0 ev_G0 ev_TY0 ra0 ev_pg mi_X11_term := fun pc E hE => ⟨(ok_X11_term.2.2.2.2.2.2.2 pc E hE).1, (ok_X11_term.2.2.2.2.2.2.2 pc E hE).2, cx_schk_ok (M := mi_X11_term) (by decide +kernel) hE⟩
set_option maxRecDepth 100000 in
theorem ok_X11_times : ev_mok (ev_TT.flatten.filter goodWord) (ev_TT.flatten.filter ev_isN) ev_AO0 ev_G0 ev_TY0 ev_pg mi_X11_times := ev_mchk_ok nd_X11_times (ev_cin (l := tables_1_6) 6 41 rfl rfl rfl) (by decide +kernel) (by decide +kernel) (by decide +kernel)
set_option maxRecDepth 100000 in
theorem md_X11_times : cx_md (ev_TT.flatten.filter goodWord) (ev_TT.flatten.filter ev_isN) ev_AO0 ev_G0 ev_TY0 ra0 ev_pg mi_X11_times := fun pc E hE => ⟨(ok_X11_times.2.2.2.2.2.2.2 pc E hE).1, (ok_X11_times.2.2.2.2.2.2.2 pc E hE).2, cx_schk_ok (M := mi_X11_times) (by decide +kernel) hE⟩
set_option maxRecDepth 100000 in
theorem ok_X11_timesQ : ev_mok (ev_TT.flatten.filter goodWord) (ev_TT.flatten.filter ev_isN) ev_AO0 ev_G0 ev_TY0 ev_pg mi_X11_timesQ := ev_mchk_ok nd_X11_timesQ (ev_cin (l := tables_1_6) 6 59 rfl rfl rfl) (by decide +kernel) (by decide +kernel) (by decide +kernel)
set_option maxRecDepth 100000 in
theorem md_X11_timesQ : cx_md (ev_TT.flatten.filter goodWord) (ev_TT.flatten.filter ev_isN) ev_AO0 ev_G0 ev_TY0 ra0 ev_pg mi_X11_timesQ := fun pc E hE => ⟨(ok_X11_timesQ.2.2.2.2.2.2.2 pc E hE).1, (ok_X11_timesQ.2.2.2.2.2.2.2 pc E hE).2, cx_schk_ok (M := mi_X11_timesQ) (by decide +kernel) hE⟩
set_option maxRecDepth 100000 in
theorem ok_X11_toFront : ev_mok (ev_TT.flatten.filter goodWord) (ev_TT.flatten.filter ev_isN) ev_AO0 ev_G0 ev_TY0 ev_pg mi_X11_toFront := ev_mchk_ok nd_X11_toFront (ev_cin (l := tables_1_6) 6 217 rfl rfl rfl) (by decide +kernel) (by decide +kernel) (by decide +kernel)
set_option maxRecDepth 100000 in
theorem md_X11_toFront : cx_md (ev_TT.flatten.filter goodWord) (ev_TT.flatten.filter ev_isN) ev_AO0 ev_G0 ev_TY0 ra0 ev_pg mi_X11_toFront := fun pc E hE => ⟨(ok_X11_toFront.2.2.2.2.2.2.2 pc E hE).1, (ok_X11_toFront.2.2.2.2.2.2.2 pc E hE).2, cx_schk_ok (M := mi_X11_toFront) (by decide +kernel) hE⟩
set_option maxRecDepth 100000 in
theorem ok_X11_turn : ev_mok (ev_TT.flatten.filter goodWord) (ev_TT.flatten.filter ev_isN) ev_AO0 ev_G0 ev_TY0 ev_pg mi_X11_turn := ev_mchk_ok nd_X11_turn (ev_cin (l := tables_1_6) 6 213 rfl rfl rfl) (by decide +kernel) (by decide +kernel) (by decide +kernel)
set_option maxRecDepth 100000 in
theorem md_X11_turn : cx_md (ev_TT.flatten.filter goodWord) (ev_TT.flatten.filter ev_isN) ev_AO0 ev_G0 ev_TY0 ra0 ev_pg mi_X11_turn := fun pc E hE => ⟨(ok_X11_turn.2.2.2.2.2.2.2 pc E hE).1, (ok_X11_turn.2.2.2.2.2.2.2 pc E hE).2, cx_schk_ok (M := mi_X11_turn) (by decide +kernel) hE⟩
set_option maxRecDepth 100000 in
theorem ok_X11_turnSending : ev_mok (ev_TT.flatten.filter goodWord) (ev_TT.flatten.filter ev_isN) ev_AO0 ev_G0 ev_TY0 ev_pg mi_X11_turnSending := ev_mchk_ok nd_X11_turnSending (ev_cin (l := tables_1_6) 6 114 rfl rfl rfl) (by decide +kernel) (by decide +kernel) (by decide +kernel)
set_option maxRecDepth 100000 in
theorem md_X11_turnSending : cx_md (ev_TT.flatten.filter goodWord) (ev_TT.flatten.filter ev_isN) ev_AO0 ev_G0 ev_TY0 ra0 ev_pg mi_X11_turnSending := fun pc E hE => ⟨(ok_X11_turnSending.2.2.2.2.2.2.2 pc E hE).1, (ok_X11_turnSending.2.2.2.2.2.2.2 pc E hE).2, cx_schk_ok (M := mi_X11_turnSending) (by decide +kernel) hE⟩
set_option maxRecDepth 100000 in
theorem ok_X11_user : ev_mok (ev_TT.flatten.filter goodWord) (ev_TT.flatten.filter ev_isN) ev_AO0 ev_G0 ev_TY0 ev_pg mi_X11_user := ev_mchk_ok nd_X11_user (ev_cin (l := tables_1_6) 6 225 rfl rfl rfl) (by decide +kernel) (by decide +kernel) (by decide +kernel)
set_option maxRecDepth 100000 in
theorem md_X11_user : cx_md (ev_TT.flatten.filter goodWord) (ev_TT.flatten.filter ev_isN) ev_AO0 ev_G0 ev_TY0 ra0 ev_pg mi_X11_user := fun pc E hE => ⟨(ok_X11_user.2.2.2.2.2.2.2 pc E hE).1, (ok_X11_user.2.2.2.2.2.2.2 pc E hE).2, cx_schk_ok (M := mi_X11_user) (by decide +kernel) hE⟩
set_option maxRecDepth 100000 in
theorem ok_X11_write : ev_mok (ev_TT.flatten.filter goodWord) (ev_TT.flatten.filter ev_isN) ev_AO0 ev_G0 ev_TY0 ev_pg mi_X11_write := ev_mchk_ok nd_X11_write (ev_cin (l := tables_1_6) 6 133 rfl rfl rfl) (by decide +kernel) (by decide +kernel) (by decide +kernel)
set_option maxRecDepth 100000 in
theorem md_X11_write : cx_md (ev_TT.flatten.filter goodWord) (ev_TT.flatten.filter ev_isN) ev_AO0 ev_G0 ev_TY0 ra0 ev_pg mi_X11_write := fun pc E hE => ⟨(ok_X11_write.2.2.2.2.2.2.2 pc E hE).1, (ok_X11_write.2.2.2.2.2.2.2 pc E hE).2, cx_schk_ok (M := mi_X11_write) (by decide +kernel) hE⟩
