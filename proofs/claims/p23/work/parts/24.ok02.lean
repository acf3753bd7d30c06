set_option maxRecDepth 100000 in
theorem ok_X10_takeReading : ev_mok (ev_TT.flatten.filter goodWord) (ev_TT.flatten.filter ev_isN) ev_AO0 ev_G0 ev_TY0 ev_pg mi_X10_takeReading := ev_mchk_ok nd_X10_takeReading (ev_cin (l := tables_1_4) 4 93 rfl rfl rfl) (by decide +kernel) (by decide +kernel) (by decide +kernel)
set_option maxRecDepth 100000 in
theorem md_X10_takeReading : cx_md (ev_TT.flatten.filter goodWord) (ev_TT.flatten.filter ev_isN) ev_AO0 ev_G0 ev_TY0 ra0 ev_pg mi_X10_takeReading := fun pc E hE => ⟨(ok_X10_takeReading.2.2.2.2.2.2.2 pc E hE).1, (ok_X10_takeReading.2.2.2.2.2.2.2 pc E hE).2, cx_schk_ok (M := mi_X10_takeReading) (by decide +kernel) hE⟩
set_option maxRecDepth 100000 in
theorem ok_X10_user : ev_mok (ev_TT.flatten.filter goodWord) (ev_TT.flatten.filter ev_isN) ev_AO0 ev_G0 ev_TY0 ev_pg mi_X10_user := ev_mchk_ok nd_X10_user (ev_cin (l := tables_1_4) 4 129 rfl rfl rfl) (by decide +kernel) (by decide +kernel) (by decide +kernel)
set_option maxRecDepth 100000 in
theorem md_X10_user : cx_md (ev_TT.flatten.filter goodWord) (ev_TT.flatten.filter ev_isN) ev_AO0 ev_G0 ev_TY0 ra0 ev_pg mi_X10_user := fun pc E hE => ⟨(ok_X10_user.2.2.2.2.2.2.2 pc E hE).1, (ok_X10_user.2.2.2.2.2.2.2 pc E hE).2, cx_schk_ok (M := mi_X10_user) (by decide +kernel) hE⟩
set_option maxRecDepth 100000 in
theorem ok_X10_write : ev_mok (ev_TT.flatten.filter goodWord) (ev_TT.flatten.filter ev_isN) ev_AO0 ev_G0 ev_TY0 ev_pg mi_X10_write := ev_mchk_ok nd_X10_write (ev_cin (l := tables_1_2) 2 180 rfl rfl rfl) (by decide +kernel) (by decide +kernel) (by decide +kernel)
set_option maxRecDepth 100000 in
theorem md_X10_write : cx_md (ev_TT.flatten.filter goodWord) (ev_TT.flatten.filter ev_isN) ev_AO0 ev_G0 ev_TY0 ra0 ev_pg mi_X10_write := fun pc E hE => ⟨(ok_X10_write.2.2.2.2.2.2.2 pc E hE).1, (ok_X10_write.2.2.2.2.2.2.2 pc E hE).2, cx_schk_ok (M := mi_X10_write) (by decide +kernel) hE⟩
set_option maxRecDepth 100000 in
theorem ok_X10_writeIn : ev_mok (ev_TT.flatten.filter goodWord) (ev_TT.flatten.filter ev_isN) ev_AO0 ev_G0 ev_TY0 ev_pg mi_X10_writeIn := ev_mchk_ok nd_X10_writeIn (ev_cin (l := tables_1_3) 3 147 rfl rfl rfl) (by decide +kernel) (by decide +kernel) (by decide +kernel)
set_option maxRecDepth 100000 in
theorem md_X10_writeIn : cx_md (ev_TT.flatten.filter goodWord) (ev_TT.flatten.filter ev_isN) ev_AO0 ev_G0 ev_TY0 ra0 ev_pg mi_X10_writeIn := fun pc E hE => ⟨(ok_X10_writeIn.2.2.2.2.2.2.2 pc E hE).1, (ok_X10_writeIn.2.2.2.2.2.2.2 pc E hE).2, cx_schk_ok (M := mi_X10_writeIn) (by decide +kernel) hE⟩
set_option maxRecDepth 100000 in
theorem ok_X11_asSecret : ev_mok (ev_TT.flatten.filter goodWord) (ev_TT.flatten.filter ev_isN) ev_AO0 ev_G0 ev_TY0 ev_pg mi_X11_asSecret := ev_mchk_ok nd_X11_asSecret (ev_cin (l := tables_1_6) 6 32 rfl rfl rfl) (by decide +kernel) (by decide +kernel) (by decide +kernel)
set_option maxRecDepth 100000 in
theorem md_X11_asSecret : cx_md (ev_TT.flatten.filter goodWord) (ev_TT.flatten.filter ev_isN) ev_AO0 ev_G0 ev_TY0 ra0 ev_pg mi_X11_asSecret := fun pc E hE => ⟨(ok_X11_asSecret.2.2.2.2.2.2.2 pc E hE).1, (ok_X11_asSecret.2.2.2.2.2.2.2 pc E hE).2, cx_schk_ok (M := mi_X11_asSecret) (by decide +kernel) hE⟩
set_option maxRecDepth 100000 in
theorem ok_X11_begin : ev_mok (ev_TT.flatten.filter goodWord) (ev_TT.flatten.filter ev_isN) ev_AO0 ev_G0 ev_TY0 ev_pg mi_X11_begin := ev_mchk_ok nd_X11_begin (ev_cin (l := tables_1_6) 6 76 rfl rfl rfl) (by decide +kernel) (by decide +kernel) (by decide +kernel)
set_option maxRecDepth 100000 in
theorem md_X11_begin : cx_md (ev_TT.flatten.filter goodWord) (ev_TT.flatten.filter ev_isN) ev_AO0 ev_G0 ev_TY0 ra0 ev_pg mi_X11_begin := fun pc E hE => ⟨(ok_X11_begin.2.2.2.2.2.2.2 pc E hE).1, (ok_X11_begin.2.2.2.2.2.2.2 pc E hE).2, cx_schk_ok (M := mi_X11_begin) (by decide +kernel) hE⟩
set_option maxRecDepth 100000 in
theorem ok_X11_beginNow : ev_mok (ev_TT.flatten.filter goodWord) (ev_TT.flatten.filter ev_isN) ev_AO0 ev_G0 ev_TY0 ev_pg mi_X11_beginNow := ev_mchk_ok nd_X11_beginNow (ev_cin (l := tables_1_6) 6 80 rfl rfl rfl) (by decide +kernel) (by decide +kernel) (by decide +kernel)
set_option maxRecDepth 100000 in
theorem md_X11_beginNow : cx_md (ev_TT.flatten.filter goodWord) (ev_TT.flatten.filter ev_isN) ev_AO0 ev_G0 ev_TY0 ra0 ev_pg mi_X11_beginNow := fun pc E hE => ⟨(ok_X11_beginNow.2.2.2.2.2.2.2 pc E hE).1, (ok_X11_beginNow.2.2.2.2.2.2.2 pc E hE).2, cx_schk_ok (M := mi_X11_beginNow) (by decide +kernel) hE⟩
set_option maxRecDepth 100000 in
theorem ok_X11_byteOf : ev_mok (ev_TT.flatten.filter goodWord) (ev_TT.flatten.filter ev_isN) ev_AO0 ev_G0 ev_TY0 ev_pg mi_X11_byteOf := ev_mchk_ok nd_X11_byteOf (ev_cin (l := tables_1_6) 6 161 rfl rfl rfl) (by decide +kernel) (by decide +kernel) (by decide +kernel)
set_option maxRecDepth 100000 in
theorem md_X11_byteOf : cx_md (ev_TT.flatten.filter goodWord) (ev_TT.flatten.filter ev_isN) ev_AO0 ev_G0 ev_TY0 ra0 ev_pg mi_X11_byteOf := fun pc E hE => ⟨(ok_X11_byteOf.2.2.2.2.2.2.2 pc E hE).1, (ok_X11_byteOf.2.2.2.2.2.2.2 pc E hE).2, cx_schk_ok (M := mi_X11_byteOf) (by decide +kernel) hE⟩
set_option maxRecDepth 100000 in
theorem ok_X11_bytesAt : ev_mok (ev_TT.flatten.filter goodWord) (ev_TT.flatten.filter ev_isN) ev_AO0 ev_G0 ev_TY0 ev_pg mi_X11_bytesAt := ev_mchk_ok nd_X11_bytesAt (ev_cin (l := tables_1_6) 6 177 rfl rfl rfl) (by decide +kernel) (by decide +kernel) (by decide +kernel)
set_option maxRecDepth 100000 in
theorem md_X11_bytesAt : cx_md (ev_TT.flatten.filter goodWord) (ev_TT.flatten.filter ev_isN) ev_AO0 ev_G0 ev_TY0 ra0 ev_pg mi_X11_bytesAt := fun pc E hE => ⟨(ok_X11_bytesAt.2.2.2.2.2.2.2 pc E hE).1, (ok_X11_bytesAt.2.2.2.2.2.2.2 pc E hE).2, cx_schk_ok (M := mi_X11_bytesAt) (by decide +kernel) hE⟩
set_option maxRecDepth 100000 in
theorem ok_X11_clear : ev_mok (ev_TT.flatten.filter goodWord) (ev_TT.flatten.filter ev_isN) ev_AO0 ev_G0 ev_TY0 ev_pg mi_X11_clear := ev_mchk_ok nd_X11_clear (ev_cin (l := tables_1_6) 6 107 rfl rfl rfl) (by decide +kernel) (by decide +kernel) (by decide +kernel)
set_option maxRecDepth 100000 in
theorem md_X11_clear : cx_md (ev_TT.flatten.filter goodWord) (ev_TT.flatten.filter ev_isN) ev_AO0 ev_G0 ev_TY0 ra0 ev_pg mi_X11_clear := fun pc E hE => ⟨(ok_X11_clear.2.2.2.2.2.2.2 pc E hE).1, (ok_X11_clear.2.2.2.2.2.2.2 pc E hE).2, cx_schk_ok (M := mi_X11_clear) (by decide +kernel) hE⟩
set_option maxRecDepth 100000 in
theorem ok_X11_come : ev_mok (ev_TT.flatten.filter goodWord) (ev_TT.flatten.filter ev_isN) ev_AO0 ev_G0 ev_TY0 ev_pg mi_X11_come := ev_mchk_ok nd_X11_come (ev_cin (l := tables_1_6) 6 169 rfl rfl rfl) (by decide +kernel) (by decide +kernel) (by decide +kernel)
set_option maxRecDepth 100000 in
theorem md_X11_come : cx_md (ev_TT.flatten.filter goodWord) (ev_TT.flatten.filter ev_isN) ev_AO0 ev_G0 ev_TY0 ra0 ev_pg mi_X11_come := fun pc E hE => ⟨(ok_X11_come.2.2.2.2.2.2.2 pc E hE).1, (ok_X11_come.2.2.2.2.2.2.2 pc E hE).2, cx_schk_ok (M := mi_X11_come) (by decide +kernel) hE⟩
