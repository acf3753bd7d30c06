set_option maxRecDepth 100000 in
theorem ok_X11_keptAt : ev_mok (ev_TT.flatten.filter goodWord) (ev_TT.flatten.filter ev_isN) ev_AO0 ev_G0 ev_TY0 ev_pg mi_X11_keptAt := ev_mchk_ok nd_X11_keptAt (ev_cin (l := tables_1_6) 6 189 rfl rfl rfl) (by decide +kernel) (by decide +kernel) (by decide +kernel)
set_option maxRecDepth 100000 in
theorem md_X11_keptAt : cx_md (ev_TT.flatten.filter goodWord) (ev_TT.flatten.filter ev_isN) ev_AO0 ev_G0 ev_TY0 ra0 ev_pg mi_X11_keptAt := fun pc E hE => ⟨(ok_X11_keptAt.2.2.2.2.2.2.2 pc E hE).1, (ok_X11_keptAt.2.2.2.2.2.2.2 pc E hE).2, cx_schk_ok (M := mi_X11_keptAt) (by decide +kernel) hE⟩
set_option maxRecDepth 100000 in
theorem ok_X11_keptSecrets : ev_mok (ev_TT.flatten.filter goodWord) (ev_TT.flatten.filter ev_isN) ev_AO0 ev_G0 ev_TY0 ev_pg mi_X11_keptSecrets := ev_mchk_ok nd_X11_keptSecrets (ev_cin (l := tables_1_6) 6 229 rfl rfl rfl) (by decide +kernel) (by decide +kernel) (by decide +kernel)
set_option maxRecDepth 100000 in
theorem md_X11_keptSecrets : cx_md (ev_TT.flatten.filter goodWord) (ev_TT.flatten.filter ev_isN) ev_AO0 ev_G0 ev_TY0 ra0 ev_pg mi_X11_keptSecrets := fun pc E hE => ⟨(ok_X11_keptSecrets.2.2.2.2.2.2.2 pc E hE).1, (ok_X11_keptSecrets.2.2.2.2.2.2.2 pc E hE).2, cx_schk_ok (M := mi_X11_keptSecrets) (by decide +kernel) hE⟩
set_option maxRecDepth 100000 in
theorem ok_X11_key : ev_mok (ev_TT.flatten.filter goodWord) (ev_TT.flatten.filter ev_isN) ev_AO0 ev_G0 ev_TY0 ev_pg mi_X11_key := ev_mchk_ok nd_X11_key (ev_cin (l := tables_1_6) 6 117 rfl rfl rfl) (by decide +kernel) (by decide +kernel) (by decide +kernel)
set_option maxRecDepth 100000 in
theorem md_X11_key : cx_md (ev_TT.flatten.filter goodWord) (ev_TT.flatten.filter ev_isN) ev_AO0 ev_G0 ev_TY0 ra0 ev_pg mi_X11_key := fun pc E hE => ⟨(ok_X11_key.2.2.2.2.2.2.2 pc E hE).1, (ok_X11_key.2.2.2.2.2.2.2 pc E hE).2, cx_schk_ok (M := mi_X11_key) (by decide +kernel) hE⟩
set_option maxRecDepth 100000 in
theorem ok_X11_leastOnce : ev_mok (ev_TT.flatten.filter goodWord) (ev_TT.flatten.filter ev_isN) ev_AO0 ev_G0 ev_TY0 ev_pg mi_X11_leastOnce := ev_mchk_ok nd_X11_leastOnce (ev_cin (l := tables_1_6) 6 84 rfl rfl rfl) (by decide +kernel) (by decide +kernel) (by decide +kernel)
set_option maxRecDepth 100000 in
theorem md_X11_leastOnce : cx_md (ev_TT.flatten.filter goodWord) (ev_TT.flatten.filter ev_isN) ev_AO0 ev_G0 ev_TY0 ra0 ev_pg mi_X11_leastOnce := fun pc E hE => ⟨(ok_X11_leastOnce.2.2.2.2.2.2.2 pc E hE).1, (ok_X11_leastOnce.2.2.2.2.2.2.2 pc E hE).2, cx_schk_ok (M := mi_X11_leastOnce) (by decide +kernel) hE⟩
set_option maxRecDepth 100000 in
theorem ok_X11_lend : ev_mok (ev_TT.flatten.filter goodWord) (ev_TT.flatten.filter ev_isN) ev_AO0 ev_G0 ev_TY0 ev_pg mi_X11_lend := ev_mchk_ok nd_X11_lend (ev_cin (l := tables_1_6) 6 52 rfl rfl rfl) (by decide +kernel) (by decide +kernel) (by decide +kernel)
set_option maxRecDepth 100000 in
theorem md_X11_lend : cx_md (ev_TT.flatten.filter goodWord) (ev_TT.flatten.filter ev_isN) ev_AO0 ev_G0 ev_TY0 ra0 ev_pg mi_X11_lend := fun pc E hE => ⟨(ok_X11_lend.2.2.2.2.2.2.2 pc E hE).1, (ok_X11_lend.2.2.2.2.2.2.2 pc E hE).2, cx_schk_ok (M := mi_X11_lend) (by decide +kernel) hE⟩
set_option maxRecDepth 100000 in
theorem ok_X11_letter : ev_mok (ev_TT.flatten.filter goodWord) (ev_TT.flatten.filter ev_isN) ev_AO0 ev_G0 ev_TY0 ev_pg mi_X11_letter := ev_mchk_ok nd_X11_letter (ev_cin (l := tables_1_6) 6 157 rfl rfl rfl) (by decide +kernel) (by decide +kernel) (by decide +kernel)
set_option maxRecDepth 100000 in
theorem md_X11_letter : cx_md (ev_TT.flatten.filter goodWord) (ev_TT.flatten.filter ev_isN) ev_AO0 ev_G0 ev_TY0 ra0 ev_pg mi_X11_letter := fun pc E hE => ⟨(ok_X11_letter.2.2.2.2.2.2.2 pc E hE).1, (ok_X11_letter.2.2.2.2.2.2.2 pc E hE).2, cx_schk_ok (M := mi_X11_letter) (by decide +kernel) hE⟩
set_option maxRecDepth 100000 in
theorem ok_X11_look : ev_mok (ev_TT.flatten.filter goodWord) (ev_TT.flatten.filter ev_isN) ev_AO0 ev_G0 ev_TY0 ev_pg mi_X11_look := ev_mchk_ok nd_X11_look (ev_cin (l := tables_1_7) 7 17 rfl rfl rfl) (by decide +kernel) (by decide +kernel) (by decide +kernel)
set_option maxRecDepth 100000 in
theorem md_X11_look : cx_md (ev_TT.flatten.filter goodWord) (ev_TT.flatten.filter ev_isN) ev_AO0 ev_G0 ev_TY0 ra0 ev_pg mi_X11_look := fun pc E hE => ⟨(ok_X11_look.2.2.2.2.2.2.2 pc E hE).1, (ok_X11_look.2.2.2.2.2.2.2 pc E hE).2, cx_schk_ok (M := mi_X11_look) (by decide +kernel) hE⟩
set_option maxRecDepth 100000 in
theorem ok_X11_lookInto : ev_mok (ev_TT.flatten.filter goodWord) (ev_TT.flatten.filter ev_isN) ev_AO0 ev_G0 ev_TY0 ev_pg mi_X11_lookInto := ev_mchk_ok nd_X11_lookInto (ev_cin (l := tables_1_7) 7 21 rfl rfl rfl) (by decide +kernel) (by decide +kernel) (by decide +kernel)
set_option maxRecDepth 100000 in
theorem md_X11_lookInto : cx_md (ev_TT.flatten.filter goodWord) (ev_TT.flatten.filter ev_isN) ev_AO0 ev_G0 ev_TY0 ra0 ev_pg mi_X11_lookInto := fun pc E hE => ⟨(ok_X11_lookInto.2.2.2.2.2.2.2 pc E hE).1, (ok_X11_lookInto.2.2.2.2.2.2.2 pc E hE).2, cx_schk_ok (M := mi_X11_lookInto) (by decide +kernel) hE⟩
set_option maxRecDepth 100000 in
theorem ok_X11_mix : ev_mok (ev_TT.flatten.filter goodWord) (ev_TT.flatten.filter ev_isN) ev_AO0 ev_G0 ev_TY0 ev_pg mi_X11_mix := ev_mchk_ok nd_X11_mix (ev_cin (l := tables_1_6) 6 26 rfl rfl rfl) (by decide +kernel) (by decide +kernel) (by decide +kernel)
set_option maxRecDepth 100000 in
theorem md_X11_mix : cx_md (ev_TT.flatten.filter goodWord) (ev_TT.flatten.filter ev_isN) ev_AO0 ev_G0 ev_TY0 ra0 ev_pg mi_X11_mix := fun pc E hE => ⟨(ok_X11_mix.2.2.2.2.2.2.2 pc E hE).1, (ok_X11_mix.2.2.2.2.2.2.2 pc E hE).2, cx_schk_ok (M := mi_X11_mix) (by decide +kernel) hE⟩
set_option maxRecDepth 100000 in
theorem ok_X11_modQ : ev_mok (ev_TT.flatten.filter goodWord) (ev_TT.flatten.filter ev_isN) ev_AO0 ev_G0 ev_TY0 ev_pg mi_X11_modQ := ev_mchk_ok nd_X11_modQ (ev_cin (l := tables_1_6) 6 55 rfl rfl rfl) (by decide +kernel) (by decide +kernel) (by decide +kernel)
set_option maxRecDepth 100000 in
theorem md_X11_modQ : cx_md (ev_TT.flatten.filter goodWord) (ev_TT.flatten.filter ev_isN) ev_AO0 ev_G0 ev_TY0 ra0 ev_pg mi_X11_modQ := fun pc E hE => ⟨(ok_X11_modQ.2.2.2.2.2.2.2 pc E hE).1, (ok_X11_modQ.2.2.2.2.2.2.2 pc E hE).2, cx_schk_ok (M := mi_X11_modQ) (by decide +kernel) hE⟩
set_option maxRecDepth 100000 in
theorem ok_X11_newSession : ev_mok (ev_TT.flatten.filter goodWord) (ev_TT.flatten.filter ev_isN) ev_AO0 ev_G0 ev_TY0 ev_pg mi_X11_newSession := ev_mchk_ok nd_X11_newSession (ev_cin (l := tables_1_6) 6 103 rfl rfl rfl) (by decide +kernel) (by decide +kernel) (by decide +kernel)
set_option maxRecDepth 100000 in
theorem md_X11_newSession : cx_md (ev_TT.flatten.filter goodWord) (ev_TT.flatten.filter ev_isN) ev_AO0 ev_G0 ev_TY0 ra0 ev_pg mi_X11_newSession := fun pc E hE => ⟨(ok_X11_newSession.2.2.2.2.2.2.2 pc E hE).1, (ok_X11_newSession.2.2.2.2.2.2.2 pc E hE).2, cx_schk_ok (M := mi_X11_newSession) (by decide +kernel) hE⟩
set_option maxRecDepth 100000 in
theorem ok_X11_number : ev_mok (ev_TT.flatten.filter goodWord) (ev_TT.flatten.filter ev_isN) ev_AO0 ev_G0 ev_TY0 ev_pg mi_X11_number := ev_mchk_ok nd_X11_number (ev_cin (l := tables_1_6) 6 237 rfl rfl rfl) (by decide +kernel) (by decide +kernel) (by decide +kernel)
set_option maxRecDepth 100000 in
theorem md_X11_number : cx_md (ev_TT.flatten.filter goodWord) (ev_TT.flatten.filter ev_isN) ev_AO0 ev_G0 ev_TY0 ra0 ev_pg mi_X11_number := fun pc E hE => ⟨(ok_X11_number.2.2.2.2.2.2.2 pc E hE).1, (ok_X11_number.2.2.2.2.2.2.2 pc E hE).2, cx_schk_ok (M := mi_X11_number) (by decide +kernel) hE⟩
set_option maxRecDepth 100000 in
theorem ok_X11_onceInDirectory : ev_mok (ev_TT.flatten.filter goodWord) (ev_TT.flatten.filter ev_isN) ev_AO0 ev_G0 ev_TY0 ev_pg mi_X11_onceInDirectory := ev_mchk_ok nd_X11_onceInDirectory (ev_cin (l := tables_1_6) 6 68 rfl rfl rfl) (by decide +kernel) (by decide +kernel) (by decide +kernel)
set_option maxRecDepth 100000 in
theorem md_X11_onceInDirectory : cx_md (ev_TT.flatten.filter goodWord) (ev_TT.flatten.filter ev_isN) ev_AO0 ev_G0 ev_TY0 ra0 ev_pg mi_X11_onceInDirectory := fun pc E hE => ⟨(ok_X11_onceInDirectory.2.2.2.2.2.2.2 pc E hE).1, (ok_X11_onceInDirectory.2.2.2.2.2.2.2 pc E hE).2, cx_schk_ok (M := mi_X11_onceInDirectory) (by decide +kernel) hE⟩
set_option maxRecDepth 100000 in
theorem ok_X11_open : ev_mok (ev_TT.flatten.filter goodWord) (ev_TT.flatten.filter ev_isN) ev_AO0 ev_G0 ev_TY0 ev_pg mi_X11_open := ev_mchk_ok nd_X11_open (ev_cin (l := tables_1_6) 6 185 rfl rfl rfl) (by decide +kernel) (by decide +kernel) (by decide +kernel)
set_option maxRecDepth 100000 in
theorem md_X11_open : cx_md (ev_TT.flatten.filter goodWord) (ev_TT.flatten.filter ev_isN) ev_AO0 ev_G0 ev_TY0 ra0 ev_pg mi_X11_open := fun pc E hE => ⟨(ok_X11_open.2.2.2.2.2.2.2 pc E hE).1, (ok_X11_open.2.2.2.2.2.2.2 pc E hE).2, cx_schk_ok (M := mi_X11_open) (by decide +kernel) hE⟩
