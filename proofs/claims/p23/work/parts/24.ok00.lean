set_option maxRecDepth 100000 in
theorem ok_L_cell : ev_mok (ev_TT.flatten.filter goodWord) (ev_TT.flatten.filter ev_isN) ev_AO0 ev_G0 ev_TY0 ev_pg mi_L_cell := ev_mchk_ok nd_L_cell (ev_cin (l := tables_1_4) 4 219 rfl rfl rfl) (by decide +kernel) (by decide +kernel) (by decide +kernel)
set_option maxRecDepth 100000 in
theorem md_L_cell : cx_md (ev_TT.flatten.filter goodWord) (ev_TT.flatten.filter ev_isN) ev_AO0 ev_G0 ev_TY0 ra0 ev_pg mi_L_cell := fun pc E hE => ⟨(ok_L_cell.2.2.2.2.2.2.2 pc E hE).1, (ok_L_cell.2.2.2.2.2.2.2 pc E hE).2, cx_schk_ok (M := mi_L_cell) (by decide +kernel) hE⟩
set_option maxRecDepth 100000 in
theorem ok_X0_hasTagOf : ev_mok (ev_TT.flatten.filter goodWord) (ev_TT.flatten.filter ev_isN) ev_AO0 ev_G0 ev_TY0 ev_pg mi_X0_hasTagOf := ev_mchk_ok nd_X0_hasTagOf (ev_cin (l := tables_1_4) 4 26 rfl rfl rfl) (by decide +kernel) (by decide +kernel) (by decide +kernel)
set_option maxRecDepth 100000 in
theorem md_X0_hasTagOf : cx_md (ev_TT.flatten.filter goodWord) (ev_TT.flatten.filter ev_isN) ev_AO0 ev_G0 ev_TY0 ra0 ev_pg mi_X0_hasTagOf := fun pc E hE => ⟨(ok_X0_hasTagOf.2.2.2.2.2.2.2 pc E hE).1, (ok_X0_hasTagOf.2.2.2.2.2.2.2 pc E hE).2, cx_schk_ok (M := mi_X0_hasTagOf) (by decide +kernel) hE⟩
set_option maxRecDepth 100000 in
theorem ok_X0_init : ev_mok (ev_TT.flatten.filter goodWord) (ev_TT.flatten.filter ev_isN) ev_AO0 ev_G0 ev_TY0 ev_pg mi_X0_init := ev_mchk_ok nd_X0_init (ev_cin (l := tables_1_1) 1 28 rfl rfl rfl) (by decide +kernel) (by decide +kernel) (by decide +kernel)
set_option maxRecDepth 100000 in
theorem md_X0_init : cx_md (ev_TT.flatten.filter goodWord) (ev_TT.flatten.filter ev_isN) ev_AO0 ev_G0 ev_TY0 ra0 ev_pg mi_X0_init := fun pc E hE => ⟨(ok_X0_init.2.2.2.2.2.2.2 pc E hE).1, (ok_X0_init.2.2.2.2.2.2.2 pc E hE).2, cx_schk_ok (M := mi_X0_init) (by decide +kernel) hE⟩
set_option maxRecDepth 100000 in
theorem ok_X0_take : ev_mok (ev_TT.flatten.filter goodWord) (ev_TT.flatten.filter ev_isN) ev_AO0 ev_G0 ev_TY0 ev_pg mi_X0_take := ev_mchk_ok nd_X0_take (ev_cin (l := tables_1_3) 3 224 rfl rfl rfl) (by decide +kernel) (by decide +kernel) (by decide +kernel)
set_option maxRecDepth 100000 in
theorem md_X0_take : cx_md (ev_TT.flatten.filter goodWord) (ev_TT.flatten.filter ev_isN) ev_AO0 ev_G0 ev_TY0 ra0 ev_pg mi_X0_take := fun pc E hE => ⟨(ok_X0_take.2.2.2.2.2.2.2 pc E hE).1, (ok_X0_take.2.2.2.2.2.2.2 pc E hE).2, cx_schk_ok (M := mi_X0_take) (by decide +kernel) hE⟩
set_option maxRecDepth 100000 in
theorem ok_X0_takeApart : ev_mok (ev_TT.flatten.filter goodWord) (ev_TT.flatten.filter ev_isN) ev_AO0 ev_G0 ev_TY0 ev_pg mi_X0_takeApart := ev_mchk_ok nd_X0_takeApart (ev_cin (l := tables_1_3) 3 220 rfl rfl rfl) (by decide +kernel) (by decide +kernel) (by decide +kernel)
set_option maxRecDepth 100000 in
theorem md_X0_takeApart : cx_md (ev_TT.flatten.filter goodWord) (ev_TT.flatten.filter ev_isN) ev_AO0 ev_G0 ev_TY0 ra0 ev_pg mi_X0_takeApart := fun pc E hE => ⟨(ok_X0_takeApart.2.2.2.2.2.2.2 pc E hE).1, (ok_X0_takeApart.2.2.2.2.2.2.2 pc E hE).2, cx_schk_ok (M := mi_X0_takeApart) (by decide +kernel) hE⟩
set_option maxRecDepth 100000 in
theorem ok_X0_textByte : ev_mok (ev_TT.flatten.filter goodWord) (ev_TT.flatten.filter ev_isN) ev_AO0 ev_G0 ev_TY0 ev_pg mi_X0_textByte := ev_mchk_ok nd_X0_textByte (ev_cin (l := tables_1_4) 4 97 rfl rfl rfl) (by decide +kernel) (by decide +kernel) (by decide +kernel)
set_option maxRecDepth 100000 in
theorem md_X0_textByte : cx_md (ev_TT.flatten.filter goodWord) (ev_TT.flatten.filter ev_isN) ev_AO0 ev_G0 ev_TY0 ra0 ev_pg mi_X0_textByte := fun pc E hE => ⟨(ok_X0_textByte.2.2.2.2.2.2.2 pc E hE).1, (ok_X0_textByte.2.2.2.2.2.2.2 pc E hE).2, cx_schk_ok (M := mi_X0_textByte) (by decide +kernel) hE⟩
set_option maxRecDepth 100000 in
theorem ok_X10_arePair : ev_mok (ev_TT.flatten.filter goodWord) (ev_TT.flatten.filter ev_isN) ev_AO0 ev_G0 ev_TY0 ev_pg mi_X10_arePair := ev_mchk_ok nd_X10_arePair (ev_cin (l := tables_1_2) 2 184 rfl rfl rfl) (by decide +kernel) (by decide +kernel) (by decide +kernel)
set_option maxRecDepth 100000 in
theorem md_X10_arePair : cx_md (ev_TT.flatten.filter goodWord) (ev_TT.flatten.filter ev_isN) ev_AO0 ev_G0 ev_TY0 ra0 ev_pg mi_X10_arePair := fun pc E hE => ⟨(ok_X10_arePair.2.2.2.2.2.2.2 pc E hE).1, (ok_X10_arePair.2.2.2.2.2.2.2 pc E hE).2, cx_schk_ok (M := mi_X10_arePair) (by decide +kernel) hE⟩
set_option maxRecDepth 100000 in
theorem ok_X10_begin : ev_mok (ev_TT.flatten.filter goodWord) (ev_TT.flatten.filter ev_isN) ev_AO0 ev_G0 ev_TY0 ev_pg mi_X10_begin := ev_mchk_ok nd_X10_begin (ev_cin (l := tables_1_3) 3 196 rfl rfl rfl) (by decide +kernel) (by decide +kernel) (by decide +kernel)
set_option maxRecDepth 100000 in
theorem md_X10_begin : cx_md (ev_TT.flatten.filter goodWord) (ev_TT.flatten.filter ev_isN) ev_AO0 ev_G0 ev_TY0 ra0 ev_pg mi_X10_begin := fun pc E hE => ⟨(ok_X10_begin.2.2.2.2.2.2.2 pc E hE).1, (ok_X10_begin.2.2.2.2.2.2.2 pc E hE).2, cx_schk_ok (M := mi_X10_begin) (by decide +kernel) hE⟩
set_option maxRecDepth 100000 in
theorem ok_X10_beginSession : ev_mok (ev_TT.flatten.filter goodWord) (ev_TT.flatten.filter ev_isN) ev_AO0 ev_G0 ev_TY0 ev_pg mi_X10_beginSession := ev_mchk_ok nd_X10_beginSession (ev_cin (l := tables_1_2) 2 188 rfl rfl rfl) (by decide +kernel) (by decide +kernel) (by decide +kernel)
set_option maxRecDepth 100000 in
theorem md_X10_beginSession : cx_md (ev_TT.flatten.filter goodWord) (ev_TT.flatten.filter ev_isN) ev_AO0 ev_G0 ev_TY0 ra0 ev_pg mi_X10_beginSession := fun pc E hE => ⟨(ok_X10_beginSession.2.2.2.2.2.2.2 pc E hE).1, (ok_X10_beginSession.2.2.2.2.2.2.2 pc E hE).2, cx_schk_ok (M := mi_X10_beginSession) (by decide +kernel) hE⟩
set_option maxRecDepth 100000 in
theorem ok_X10_byteOf : ev_mok (ev_TT.flatten.filter goodWord) (ev_TT.flatten.filter ev_isN) ev_AO0 ev_G0 ev_TY0 ev_pg mi_X10_byteOf := ev_mchk_ok nd_X10_byteOf (ev_cin (l := tables_1_4) 4 101 rfl rfl rfl) (by decide +kernel) (by decide +kernel) (by decide +kernel)
set_option maxRecDepth 100000 in
theorem md_X10_byteOf : cx_md (ev_TT.flatten.filter goodWord) (ev_TT.flatten.filter ev_isN) ev_AO0 ev_G0 ev_TY0 ra0 ev_pg mi_X10_byteOf := fun pc E hE => ⟨(ok_X10_byteOf.2.2.2.2.2.2.2 pc E hE).1, (ok_X10_byteOf.2.2.2.2.2.2.2 pc E hE).2, cx_schk_ok (M := mi_X10_byteOf) (by decide +kernel) hE⟩
set_option maxRecDepth 100000 in
theorem ok_X10_come : ev_mok (ev_TT.flatten.filter goodWord) (ev_TT.flatten.filter ev_isN) ev_AO0 ev_G0 ev_TY0 ev_pg mi_X10_come := ev_mchk_ok nd_X10_come (ev_cin (l := tables_1_3) 3 208 rfl rfl rfl) (by decide +kernel) (by decide +kernel) (by decide +kernel)
set_option maxRecDepth 100000 in
theorem md_X10_come : cx_md (ev_TT.flatten.filter goodWord) (ev_TT.flatten.filter ev_isN) ev_AO0 ev_G0 ev_TY0 ra0 ev_pg mi_X10_come := fun pc E hE => ⟨(ok_X10_come.2.2.2.2.2.2.2 pc E hE).1, (ok_X10_come.2.2.2.2.2.2.2 pc E hE).2, cx_schk_ok (M := mi_X10_come) (by decide +kernel) hE⟩
set_option maxRecDepth 100000 in
theorem ok_X10_commonWith : ev_mok (ev_TT.flatten.filter goodWord) (ev_TT.flatten.filter ev_isN) ev_AO0 ev_G0 ev_TY0 ev_pg mi_X10_commonWith := ev_mchk_ok nd_X10_commonWith (ev_cin (l := tables_1_4) 4 77 rfl rfl rfl) (by decide +kernel) (by decide +kernel) (by decide +kernel)
set_option maxRecDepth 100000 in
theorem md_X10_commonWith : cx_md (ev_TT.flatten.filter goodWord) (ev_TT.flatten.filter ev_isN) ev_AO0 ev_G0 ev_TY0 ra0 ev_pg mi_X10_commonWith := fun pc E hE => ⟨(ok_X10_commonWith.2.2.2.2.2.2.2 pc E hE).1, (ok_X10_commonWith.2.2.2.2.2.2.2 pc E hE).2, cx_schk_ok (M := mi_X10_commonWith) (by decide +kernel) hE⟩
set_option maxRecDepth 100000 in
theorem ok_X10_copy : ev_mok (ev_TT.flatten.filter goodWord) (ev_TT.flatten.filter ev_isN) ev_AO0 ev_G0 ev_TY0 ev_pg mi_X10_copy := ev_mchk_ok nd_X10_copy (ev_cin (l := tables_1_4) 4 105 rfl rfl rfl) (by decide +kernel) (by decide +kernel) (by decide +kernel)
set_option maxRecDepth 100000 in
theorem md_X10_copy : cx_md (ev_TT.flatten.filter goodWord) (ev_TT.flatten.filter ev_isN) ev_AO0 ev_G0 ev_TY0 ra0 ev_pg mi_X10_copy := fun pc E hE => ⟨(ok_X10_copy.2.2.2.2.2.2.2 pc E hE).1, (ok_X10_copy.2.2.2.2.2.2.2 pc E hE).2, cx_schk_ok (M := mi_X10_copy) (by decide +kernel) hE⟩
set_option maxRecDepth 100000 in
theorem ok_X10_count : ev_mok (ev_TT.flatten.filter goodWord) (ev_TT.flatten.filter ev_isN) ev_AO0 ev_G0 ev_TY0 ev_pg mi_X10_count := ev_mchk_ok nd_X10_count (ev_cin (l := tables_1_4) 4 216 rfl rfl rfl) (by decide +kernel) (by decide +kernel) (by decide +kernel)
set_option maxRecDepth 100000 in
theorem md_X10_count : cx_md (ev_TT.flatten.filter goodWord) (ev_TT.flatten.filter ev_isN) ev_AO0 ev_G0 ev_TY0 ra0 ev_pg mi_X10_count := fun pc E hE => ⟨(ok_X10_count.2.2.2.2.2.2.2 pc E hE).1, (ok_X10_count.2.2.2.2.2.2.2 pc E hE).2, cx_schk_ok (M := mi_X10_count) (by decide +kernel) hE⟩
set_option maxRecDepth 100000 in
theorem ok_X10_end : ev_mok (ev_TT.flatten.filter goodWord) (ev_TT.flatten.filter ev_isN) ev_AO0 ev_G0 ev_TY0 ev_pg mi_X10_end := ev_mchk_ok nd_X10_end (ev_cin (l := tables_1_2) 2 70 rfl rfl rfl) (by decide +kernel) (by decide +kernel) (by decide +kernel)
set_option maxRecDepth 100000 in
theorem md_X10_end : cx_md (ev_TT.flatten.filter goodWord) (ev_TT.flatten.filter ev_isN) ev_AO0 ev_G0 ev_TY0 ra0 ev_pg mi_X10_end := fun pc E hE => ⟨(ok_X10_end.2.2.2.2.2.2.2 pc E hE).1, (ok_X10_end.2.2.2.2.2.2.2 pc E hE).2, cx_schk_ok (M := mi_X10_end) (by decide +kernel) hE⟩
set_option maxRecDepth 100000 in
theorem ok_X10_faultAtTheDoor : ev_mok (ev_TT.flatten.filter goodWord) (ev_TT.flatten.filter ev_isN) ev_AO0 ev_G0 ev_TY0 ev_pg mi_X10_faultAtTheDoor := ev_mchk_ok nd_X10_faultAtTheDoor (ev_cin (l := tables_1_3) 3 216 rfl rfl rfl) (by decide +kernel) (by decide +kernel) (by decide +kernel)
set_option maxRecDepth 100000 in
theorem md_X10_faultAtTheDoor : cx_md (ev_TT.flatten.filter goodWord) (ev_TT.flatten.filter ev_isN) ev_AO0 ev_G0 ev_TY0 ra0 ev_pg mi_X10_faultAtTheDoor := fun pc E hE => ⟨(ok_X10_faultAtTheDoor.2.2.2.2.2.2.2 pc E hE).1, (ok_X10_faultAtTheDoor.2.2.2.2.2.2.2 pc E hE).2, cx_schk_ok (M := mi_X10_faultAtTheDoor) (by decide +kernel) hE⟩
set_option maxRecDepth 100000 in
theorem ok_X10_feed : ev_mok (ev_TT.flatten.filter goodWord) (ev_TT.flatten.filter ev_isN) ev_AO0 ev_G0 ev_TY0 ev_pg mi_X10_feed := ev_mchk_ok nd_X10_feed (ev_cin (l := tables_1_2) 2 62 rfl rfl rfl) (by decide +kernel) (by decide +kernel) (by decide +kernel)
set_option maxRecDepth 100000 in
theorem md_X10_feed : cx_md (ev_TT.flatten.filter goodWord) (ev_TT.flatten.filter ev_isN) ev_AO0 ev_G0 ev_TY0 ra0 ev_pg mi_X10_feed := fun pc E hE => ⟨(ok_X10_feed.2.2.2.2.2.2.2 pc E hE).1, (ok_X10_feed.2.2.2.2.2.2.2 pc E hE).2, cx_schk_ok (M := mi_X10_feed) (by decide +kernel) hE⟩
set_option maxRecDepth 100000 in
theorem ok_X10_firstPairs : ev_mok (ev_TT.flatten.filter goodWord) (ev_TT.flatten.filter ev_isN) ev_AO0 ev_G0 ev_TY0 ev_pg mi_X10_firstPairs := ev_mchk_ok nd_X10_firstPairs (ev_cin (l := tables_1_2) 2 228 rfl rfl rfl) (by decide +kernel) (by decide +kernel) (by decide +kernel)
set_option maxRecDepth 100000 in
theorem md_X10_firstPairs : cx_md (ev_TT.flatten.filter goodWord) (ev_TT.flatten.filter ev_isN) ev_AO0 ev_G0 ev_TY0 ra0 ev_pg mi_X10_firstPairs := fun pc E hE => ⟨(ok_X10_firstPairs.2.2.2.2.2.2.2 pc E hE).1, (ok_X10_firstPairs.2.2.2.2.2.2.2 pc E hE).2, cx_schk_ok (M := mi_X10_firstPairs) (by decide +kernel) hE⟩
set_option maxRecDepth 100000 in
theorem ok_X10_forge : ev_mok (ev_TT.flatten.filter goodWord) (ev_TT.flatten.filter ev_isN) ev_AO0 ev_G0 ev_TY0 ev_pg mi_X10_forge := ev_mchk_ok nd_X10_forge (ev_cin (l := tables_1_4) 4 124 rfl rfl rfl) (by decide +kernel) (by decide +kernel) (by decide +kernel)
set_option maxRecDepth 100000 in
theorem md_X10_forge : cx_md (ev_TT.flatten.filter goodWord) (ev_TT.flatten.filter ev_isN) ev_AO0 ev_G0 ev_TY0 ra0 ev_pg mi_X10_forge := fun pc E hE => ⟨(ok_X10_forge.2.2.2.2.2.2.2 pc E hE).1, (ok_X10_forge.2.2.2.2.2.2.2 pc E hE).2, cx_schk_ok (M := mi_X10_forge) (by decide +kernel) hE⟩
set_option maxRecDepth 100000 in
theorem ok_X10_forget : ev_mok (ev_TT.flatten.filter goodWord) (ev_TT.flatten.filter ev_isN) ev_AO0 ev_G0 ev_TY0 ev_pg mi_X10_forget := ev_mchk_ok nd_X10_forget (ev_cin (l := tables_1_3) 3 200 rfl rfl rfl) (by decide +kernel) (by decide +kernel) (by decide +kernel)
set_option maxRecDepth 100000 in
theorem md_X10_forget : cx_md (ev_TT.flatten.filter goodWord) (ev_TT.flatten.filter ev_isN) ev_AO0 ev_G0 ev_TY0 ra0 ev_pg mi_X10_forget := fun pc E hE => ⟨(ok_X10_forget.2.2.2.2.2.2.2 pc E hE).1, (ok_X10_forget.2.2.2.2.2.2.2 pc E hE).2, cx_schk_ok (M := mi_X10_forget) (by decide +kernel) hE⟩
set_option maxRecDepth 100000 in
theorem ok_X10_init : ev_mok (ev_TT.flatten.filter goodWord) (ev_TT.flatten.filter ev_isN) ev_AO0 ev_G0 ev_TY0 ev_pg mi_X10_init := ev_mchk_ok nd_X10_init (ev_cin (l := tables_1_1) 1 18 rfl rfl rfl) (by decide +kernel) (by decide +kernel) (by decide +kernel)
set_option maxRecDepth 100000 in
theorem md_X10_init : cx_md (ev_TT.flatten.filter goodWord) (ev_TT.flatten.filter ev_isN) ev_AO0 ev_G0 ev_TY0 ra0 ev_pg mi_X10_init := fun pc E hE => ⟨(ok_X10_init.2.2.2.2.2.2.2 pc E hE).1, (ok_X10_init.2.2.2.2.2.2.2 pc E hE).2, cx_schk_ok (M := mi_X10_init) (by decide +kernel) hE⟩
