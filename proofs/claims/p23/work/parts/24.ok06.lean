set_option maxRecDepth 100000 in
theorem ok_X11_power : ev_mok (ev_TT.flatten.filter goodWord) (ev_TT.flatten.filter ev_isN) ev_AO0 ev_G0 ev_TY0 ev_pg mi_X11_power := ev_mchk_ok nd_X11_power (ev_cin (l := tables_1_6) 6 38 rfl rfl rfl) (by decide +kernel) (by decide +kernel) (by decide +kernel)
set_option maxRecDepth 100000 in
theorem md_X11_power : cx_md (ev_TT.flatten.filter goodWord) (ev_TT.flatten.filter ev_isN) ev_AO0 ev_G0 ev_TY0 ra0 ev_pg mi_X11_power := fun pc E hE => ⟨(ok_X11_power.2.2.2.2.2.2.2 pc E hE).1, (ok_X11_power.2.2.2.2.2.2.2 pc E hE).2, cx_schk_ok (M := mi_X11_power) (by decide +kernel) hE⟩
set_option maxRecDepth 100000 in
theorem ok_X11_publish : ev_mok (ev_TT.flatten.filter goodWord) (ev_TT.flatten.filter ev_isN) ev_AO0 ev_G0 ev_TY0 ev_pg mi_X11_publish := ev_mchk_ok nd_X11_publish (ev_cin (l := tables_1_6) 6 64 rfl rfl rfl) (by decide +kernel) (by decide +kernel) (by decide +kernel)
set_option maxRecDepth 100000 in
theorem md_X11_publish : cx_md (ev_TT.flatten.filter goodWord) (ev_TT.flatten.filter ev_isN) ev_AO0 ev_G0 ev_TY0 ra0 ev_pg mi_X11_publish := fun pc E hE => ⟨(ok_X11_publish.2.2.2.2.2.2.2 pc E hE).1, (ok_X11_publish.2.2.2.2.2.2.2 pc E hE).2, cx_schk_ok (M := mi_X11_publish) (by decide +kernel) hE⟩
set_option maxRecDepth 100000 in
theorem ok_X11_put : ev_mok (ev_TT.flatten.filter goodWord) (ev_TT.flatten.filter ev_isN) ev_AO0 ev_G0 ev_TY0 ev_pg mi_X11_put := ev_mchk_ok nd_X11_put (ev_cin (l := tables_1_6) 6 137 rfl rfl rfl) (by decide +kernel) (by decide +kernel) (by decide +kernel)
set_option maxRecDepth 100000 in
theorem md_X11_put : cx_md (ev_TT.flatten.filter goodWord) (ev_TT.flatten.filter ev_isN) ev_AO0 ev_G0 ev_TY0 ra0 ev_pg mi_X11_put := fun pc E hE => ⟨(ok_X11_put.2.2.2.2.2.2.2 pc E hE).1, (ok_X11_put.2.2.2.2.2.2.2 pc E hE).2, cx_schk_ok (M := mi_X11_put) (by decide +kernel) hE⟩
set_option maxRecDepth 100000 in
theorem ok_X11_readLetter : ev_mok (ev_TT.flatten.filter goodWord) (ev_TT.flatten.filter ev_isN) ev_AO0 ev_G0 ev_TY0 ev_pg mi_X11_readLetter := ev_mchk_ok nd_X11_readLetter (ev_cin (l := tables_1_6) 6 173 rfl rfl rfl) (by decide +kernel) (by decide +kernel) (by decide +kernel)
set_option maxRecDepth 100000 in
theorem md_X11_readLetter : cx_md (ev_TT.flatten.filter goodWord) (ev_TT.flatten.filter ev_isN) ev_AO0 ev_G0 ev_TY0 ra0 ev_pg mi_X11_readLetter := fun pc E hE => ⟨(ok_X11_readLetter.2.2.2.2.2.2.2 pc E hE).1, (ok_X11_readLetter.2.2.2.2.2.2.2 pc E hE).2, cx_schk_ok (M := mi_X11_readLetter) (by decide +kernel) hE⟩
set_option maxRecDepth 100000 in
theorem ok_X11_readText : ev_mok (ev_TT.flatten.filter goodWord) (ev_TT.flatten.filter ev_isN) ev_AO0 ev_G0 ev_TY0 ev_pg mi_X11_readText := ev_mchk_ok nd_X11_readText (ev_cin (l := tables_1_6) 6 201 rfl rfl rfl) (by decide +kernel) (by decide +kernel) (by decide +kernel)
set_option maxRecDepth 100000 in
theorem md_X11_readText : cx_md (ev_TT.flatten.filter goodWord) (ev_TT.flatten.filter ev_isN) ev_AO0 ev_G0 ev_TY0 ra0 ev_pg mi_X11_readText := fun pc E hE => ⟨(ok_X11_readText.2.2.2.2.2.2.2 pc E hE).1, (ok_X11_readText.2.2.2.2.2.2.2 pc E hE).2, cx_schk_ok (M := mi_X11_readText) (by decide +kernel) hE⟩
set_option maxRecDepth 100000 in
theorem ok_X11_readable : ev_mok (ev_TT.flatten.filter goodWord) (ev_TT.flatten.filter ev_isN) ev_AO0 ev_G0 ev_TY0 ev_pg mi_X11_readable := ev_mchk_ok nd_X11_readable (ev_cin (l := tables_1_7) 7 25 rfl rfl rfl) (by decide +kernel) (by decide +kernel) (by decide +kernel)
set_option maxRecDepth 100000 in
theorem md_X11_readable : cx_md (ev_TT.flatten.filter goodWord) (ev_TT.flatten.filter ev_isN) ev_AO0 ev_G0 ev_TY0 ra0 ev_pg mi_X11_readable := fun pc E hE => ⟨(ok_X11_readable.2.2.2.2.2.2.2 pc E hE).1, (ok_X11_readable.2.2.2.2.2.2.2 pc E hE).2, cx_schk_ok (M := mi_X11_readable) (by decide +kernel) hE⟩
set_option maxRecDepth 100000 in
theorem ok_X11_register : ev_mok (ev_TT.flatten.filter goodWord) (ev_TT.flatten.filter ev_isN) ev_AO0 ev_G0 ev_TY0 ev_pg mi_X11_register := ev_mchk_ok nd_X11_register (ev_cin (l := tables_1_6) 6 11 rfl rfl rfl) (by decide +kernel) (by decide +kernel) (by decide +kernel)
set_option maxRecDepth 100000 in
theorem md_X11_register : cx_md (ev_TT.flatten.filter goodWord) (ev_TT.flatten.filter ev_isN) ev_AO0 ev_G0 ev_TY0 ra0 ev_pg mi_X11_register := fun pc E hE => ⟨(ok_X11_register.2.2.2.2.2.2.2 pc E hE).1, (ok_X11_register.2.2.2.2.2.2.2 pc E hE).2, cx_schk_ok (M := mi_X11_register) (by decide +kernel) hE⟩
set_option maxRecDepth 100000 in
theorem ok_X11_rotate : ev_mok (ev_TT.flatten.filter goodWord) (ev_TT.flatten.filter ev_isN) ev_AO0 ev_G0 ev_TY0 ev_pg mi_X11_rotate := ev_mchk_ok nd_X11_rotate (ev_cin (l := tables_1_6) 6 72 rfl rfl rfl) (by decide +kernel) (by decide +kernel) (by decide +kernel)
set_option maxRecDepth 100000 in
theorem md_X11_rotate : cx_md (ev_TT.flatten.filter goodWord) (ev_TT.flatten.filter ev_isN) ev_AO0 ev_G0 ev_TY0 ra0 ev_pg mi_X11_rotate := fun pc E hE => ⟨(ok_X11_rotate.2.2.2.2.2.2.2 pc E hE).1, (ok_X11_rotate.2.2.2.2.2.2.2 pc E hE).2, cx_schk_ok (M := mi_X11_rotate) (by decide +kernel) hE⟩
set_option maxRecDepth 100000 in
theorem ok_X11_same : ev_mok (ev_TT.flatten.filter goodWord) (ev_TT.flatten.filter ev_isN) ev_AO0 ev_G0 ev_TY0 ev_pg mi_X11_same := ev_mchk_ok nd_X11_same (ev_cin (l := tables_1_7) 7 13 rfl rfl rfl) (by decide +kernel) (by decide +kernel) (by decide +kernel)
set_option maxRecDepth 100000 in
theorem md_X11_same : cx_md (ev_TT.flatten.filter goodWord) (ev_TT.flatten.filter ev_isN) ev_AO0 ev_G0 ev_TY0 ra0 ev_pg mi_X11_same := fun pc E hE => ⟨(ok_X11_same.2.2.2.2.2.2.2 pc E hE).1, (ok_X11_same.2.2.2.2.2.2.2 pc E hE).2, cx_schk_ok (M := mi_X11_same) (by decide +kernel) hE⟩
set_option maxRecDepth 100000 in
theorem ok_X11_secretOf : ev_mok (ev_TT.flatten.filter goodWord) (ev_TT.flatten.filter ev_isN) ev_AO0 ev_G0 ev_TY0 ev_pg mi_X11_secretOf := ev_mchk_ok nd_X11_secretOf (ev_cin (l := tables_1_6) 6 95 rfl rfl rfl) (by decide +kernel) (by decide +kernel) (by decide +kernel)
set_option maxRecDepth 100000 in
theorem md_X11_secretOf : cx_md (ev_TT.flatten.filter goodWord) (ev_TT.flatten.filter ev_isN) ev_AO0 ev_G0 ev_TY0 ra0 ev_pg mi_X11_secretOf := fun pc E hE => ⟨(ok_X11_secretOf.2.2.2.2.2.2.2 pc E hE).1, (ok_X11_secretOf.2.2.2.2.2.2.2 pc E hE).2, cx_schk_ok (M := mi_X11_secretOf) (by decide +kernel) hE⟩
set_option maxRecDepth 100000 in
theorem ok_X11_session : ev_mok (ev_TT.flatten.filter goodWord) (ev_TT.flatten.filter ev_isN) ev_AO0 ev_G0 ev_TY0 ev_pg mi_X11_session := ev_mchk_ok nd_X11_session (ev_cin (l := tables_1_7) 7 1 rfl rfl rfl) (by decide +kernel) (by decide +kernel) (by decide +kernel)
set_option maxRecDepth 100000 in
theorem md_X11_session : cx_md (ev_TT.flatten.filter goodWord) (ev_TT.flatten.filter ev_isN) ev_AO0 ev_G0 ev_TY0 ra0 ev_pg mi_X11_session := fun pc E hE => ⟨(ok_X11_session.2.2.2.2.2.2.2 pc E hE).1, (ok_X11_session.2.2.2.2.2.2.2 pc E hE).2, cx_schk_ok (M := mi_X11_session) (by decide +kernel) hE⟩
set_option maxRecDepth 100000 in
theorem ok_X11_sessionsOf : ev_mok (ev_TT.flatten.filter goodWord) (ev_TT.flatten.filter ev_isN) ev_AO0 ev_G0 ev_TY0 ev_pg mi_X11_sessionsOf := ev_mchk_ok nd_X11_sessionsOf (ev_cin (l := tables_1_6) 6 233 rfl rfl rfl) (by decide +kernel) (by decide +kernel) (by decide +kernel)
set_option maxRecDepth 100000 in
theorem md_X11_sessionsOf : cx_md (ev_TT.flatten.filter goodWord) (ev_TT.flatten.filter ev_isN) ev_AO0 ev_G0 ev_TY0 ra0 ev_pg mi_X11_sessionsOf := fun pc E hE => ⟨(ok_X11_sessionsOf.2.2.2.2.2.2.2 pc E hE).1, (ok_X11_sessionsOf.2.2.2.2.2.2.2 pc E hE).2, cx_schk_ok (M := mi_X11_sessionsOf) (by decide +kernel) hE⟩
set_option maxRecDepth 100000 in
theorem ok_X11_slotOf : ev_mok (ev_TT.flatten.filter goodWord) (ev_TT.flatten.filter ev_isN) ev_AO0 ev_G0 ev_TY0 ev_pg mi_X11_slotOf := ev_mchk_ok nd_X11_slotOf (ev_cin (l := tables_1_7) 7 5 rfl rfl rfl) (by decide +kernel) (by decide +kernel) (by decide +kernel)
set_option maxRecDepth 100000 in
theorem md_X11_slotOf : cx_md (ev_TT.flatten.filter goodWord) (ev_TT.flatten.filter ev_isN) ev_AO0 ev_G0 ev_TY0 ra0 ev_pg mi_X11_slotOf := fun pc E hE => ⟨(ok_X11_slotOf.2.2.2.2.2.2.2 pc E hE).1, (ok_X11_slotOf.2.2.2.2.2.2.2 pc E hE).2, cx_schk_ok (M := mi_X11_slotOf) (by decide +kernel) hE⟩
set_option maxRecDepth 100000 in
theorem ok_X11_spoil : ev_mok (ev_TT.flatten.filter goodWord) (ev_TT.flatten.filter ev_isN) ev_AO0 ev_G0 ev_TY0 ev_pg mi_X11_spoil := ev_mchk_ok nd_X11_spoil (ev_cin (l := tables_1_6) 6 153 rfl rfl rfl) (by decide +kernel) (by decide +kernel) (by decide +kernel)
set_option maxRecDepth 100000 in
theorem md_X11_spoil : cx_md (ev_TT.flatten.filter goodWord) (ev_TT.flatten.filter ev_isN) ev_AO0 ev_G0 ev_TY0 ra0 ev_pg mi_X11_spoil := fun pc E hE => ⟨(ok_X11_spoil.2.2.2.2.2.2.2 pc E hE).1, (ok_X11_spoil.2.2.2.2.2.2.2 pc E hE).2, cx_schk_ok (M := mi_X11_spoil) (by decide +kernel) hE⟩
