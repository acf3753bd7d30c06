set_option maxRecDepth 100000 in
theorem ok_X11_comeFirst : ev_mok (ev_TT.flatten.filter goodWord) (ev_TT.flatten.filter ev_isN) ev_AO0 ev_G0 ev_TY0 ev_pg mi_X11_comeFirst := ev_mchk_ok nd_X11_comeFirst (ev_cin (l := tables_1_6) 6 181 rfl rfl rfl) (by decide +kernel) (by decide +kernel) (by decide +kernel)
set_option maxRecDepth 100000 in
theorem md_X11_comeFirst : cx_md (ev_TT.flatten.filter goodWord) (ev_TT.flatten.filter ev_isN) ev_AO0 ev_G0 ev_TY0 ra0 ev_pg mi_X11_comeFirst := fun pc E hE => ⟨(ok_X11_comeFirst.2.2.2.2.2.2.2 pc E hE).1, (ok_X11_comeFirst.2.2.2.2.2.2.2 pc E hE).2, cx_schk_ok (M := mi_X11_comeFirst) (by decide +kernel) hE⟩
set_option maxRecDepth 100000 in
theorem ok_X11_comeLater : ev_mok (ev_TT.flatten.filter goodWord) (ev_TT.flatten.filter ev_isN) ev_AO0 ev_G0 ev_TY0 ev_pg mi_X11_comeLater := ev_mchk_ok nd_X11_comeLater (ev_cin (l := tables_1_6) 6 221 rfl rfl rfl) (by decide +kernel) (by decide +kernel) (by decide +kernel)
set_option maxRecDepth 100000 in
theorem md_X11_comeLater : cx_md (ev_TT.flatten.filter goodWord) (ev_TT.flatten.filter ev_isN) ev_AO0 ev_G0 ev_TY0 ra0 ev_pg mi_X11_comeLater := fun pc E hE => ⟨(ok_X11_comeLater.2.2.2.2.2.2.2 pc E hE).1, (ok_X11_comeLater.2.2.2.2.2.2.2 pc E hE).2, cx_schk_ok (M := mi_X11_comeLater) (by decide +kernel) hE⟩
set_option maxRecDepth 100000 in
theorem ok_X11_common : ev_mok (ev_TT.flatten.filter goodWord) (ev_TT.flatten.filter ev_isN) ev_AO0 ev_G0 ev_TY0 ev_pg mi_X11_common := ev_mchk_ok nd_X11_common (ev_cin (l := tables_1_6) 6 91 rfl rfl rfl) (by decide +kernel) (by decide +kernel) (by decide +kernel)
set_option maxRecDepth 100000 in
theorem md_X11_common : cx_md (ev_TT.flatten.filter goodWord) (ev_TT.flatten.filter ev_isN) ev_AO0 ev_G0 ev_TY0 ra0 ev_pg mi_X11_common := fun pc E hE => ⟨(ok_X11_common.2.2.2.2.2.2.2 pc E hE).1, (ok_X11_common.2.2.2.2.2.2.2 pc E hE).2, cx_schk_ok (M := mi_X11_common) (by decide +kernel) hE⟩
set_option maxRecDepth 100000 in
theorem ok_X11_commonTerm : ev_mok (ev_TT.flatten.filter goodWord) (ev_TT.flatten.filter ev_isN) ev_AO0 ev_G0 ev_TY0 ev_pg mi_X11_commonTerm := ev_mchk_ok nd_X11_commonTerm (ev_cin (l := tables_1_6) 6 99 rfl rfl rfl) (by decide +kernel) (by decide +kernel) (by decide +kernel)
set_option maxRecDepth 100000 in
theorem md_X11_commonTerm : cx_md (ev_TT.flatten.filter goodWord) (ev_TT.flatten.filter ev_isN) ev_AO0 ev_G0 ev_TY0 ra0 ev_pg mi_X11_commonTerm := fun pc E hE => ⟨(ok_X11_commonTerm.2.2.2.2.2.2.2 pc E hE).1, (ok_X11_commonTerm.2.2.2.2.2.2.2 pc E hE).2, cx_schk_ok (M := mi_X11_commonTerm) (by decide +kernel) hE⟩
set_option maxRecDepth 100000 in
theorem ok_X11_copy : ev_mok (ev_TT.flatten.filter goodWord) (ev_TT.flatten.filter ev_isN) ev_AO0 ev_G0 ev_TY0 ev_pg mi_X11_copy := ev_mchk_ok nd_X11_copy (ev_cin (l := tables_1_6) 6 145 rfl rfl rfl) (by decide +kernel) (by decide +kernel) (by decide +kernel)
set_option maxRecDepth 100000 in
theorem md_X11_copy : cx_md (ev_TT.flatten.filter goodWord) (ev_TT.flatten.filter ev_isN) ev_AO0 ev_G0 ev_TY0 ra0 ev_pg mi_X11_copy := fun pc E hE => ⟨(ok_X11_copy.2.2.2.2.2.2.2 pc E hE).1, (ok_X11_copy.2.2.2.2.2.2.2 pc E hE).2, cx_schk_ok (M := mi_X11_copy) (by decide +kernel) hE⟩
set_option maxRecDepth 100000 in
theorem ok_X11_count : ev_mok (ev_TT.flatten.filter goodWord) (ev_TT.flatten.filter ev_isN) ev_AO0 ev_G0 ev_TY0 ev_pg mi_X11_count := ev_mchk_ok nd_X11_count (ev_cin (l := tables_1_7) 7 33 rfl rfl rfl) (by decide +kernel) (by decide +kernel) (by decide +kernel)
set_option maxRecDepth 100000 in
theorem md_X11_count : cx_md (ev_TT.flatten.filter goodWord) (ev_TT.flatten.filter ev_isN) ev_AO0 ev_G0 ev_TY0 ra0 ev_pg mi_X11_count := fun pc E hE => ⟨(ok_X11_count.2.2.2.2.2.2.2 pc E hE).1, (ok_X11_count.2.2.2.2.2.2.2 pc E hE).2, cx_schk_ok (M := mi_X11_count) (by decide +kernel) hE⟩
set_option maxRecDepth 100000 in
theorem ok_X11_draw : ev_mok (ev_TT.flatten.filter goodWord) (ev_TT.flatten.filter ev_isN) ev_AO0 ev_G0 ev_TY0 ev_pg mi_X11_draw := ev_mchk_ok nd_X11_draw (ev_cin (l := tables_1_6) 6 23 rfl rfl rfl) (by decide +kernel) (by decide +kernel) (by decide +kernel)
set_option maxRecDepth 100000 in
theorem md_X11_draw : cx_md (ev_TT.flatten.filter goodWord) (ev_TT.flatten.filter ev_isN) ev_AO0 ev_G0 ev_TY0 ra0 ev_pg mi_X11_draw := fun pc E hE => ⟨(ok_X11_draw.2.2.2.2.2.2.2 pc E hE).1, (ok_X11_draw.2.2.2.2.2.2.2 pc E hE).2, cx_schk_ok (M := mi_X11_draw) (by decide +kernel) hE⟩
set_option maxRecDepth 100000 in
theorem ok_X11_drawTerm : ev_mok (ev_TT.flatten.filter goodWord) (ev_TT.flatten.filter ev_isN) ev_AO0 ev_G0 ev_TY0 ev_pg mi_X11_drawTerm := ev_mchk_ok nd_X11_drawTerm (ev_cin (l := tables_1_6) 6 19 rfl rfl rfl) (by decide +kernel) (by decide +kernel) (by decide +kernel)
set_option maxRecDepth 100000 in
theorem md_X11_drawTerm : cx_md (ev_TT.flatten.filter goodWord) (ev_TT.flatten.filter ev_isN) ev_AO0 ev_G0 ev_TY0 ra0 ev_pg mi_X11_drawTerm := fun pc E hE => ⟨(ok_X11_drawTerm.2.2.2.2.2.2.2 pc E hE).1, (ok_X11_drawTerm.2.2.2.2.2.2.2 pc E hE).2, cx_schk_ok (M := mi_X11_drawTerm) (by decide +kernel) hE⟩
set_option maxRecDepth 100000 in
theorem ok_X11_dropKept : ev_mok (ev_TT.flatten.filter goodWord) (ev_TT.flatten.filter ev_isN) ev_AO0 ev_G0 ev_TY0 ev_pg mi_X11_dropKept := ev_mchk_ok nd_X11_dropKept (ev_cin (l := tables_1_6) 6 197 rfl rfl rfl) (by decide +kernel) (by decide +kernel) (by decide +kernel)
set_option maxRecDepth 100000 in
theorem md_X11_dropKept : cx_md (ev_TT.flatten.filter goodWord) (ev_TT.flatten.filter ev_isN) ev_AO0 ev_G0 ev_TY0 ra0 ev_pg mi_X11_dropKept := fun pc E hE => ⟨(ok_X11_dropKept.2.2.2.2.2.2.2 pc E hE).1, (ok_X11_dropKept.2.2.2.2.2.2.2 pc E hE).2, cx_schk_ok (M := mi_X11_dropKept) (by decide +kernel) hE⟩
