set_option maxRecDepth 100000 in
theorem ok_X11_end : ev_mok (ev_TT.flatten.filter goodWord) (ev_TT.flatten.filter ev_isN) ev_AO0 ev_G0 ev_TY0 ev_pg mi_X11_end := ev_mchk_ok nd_X11_end (ev_cin (l := tables_1_6) 6 129 rfl rfl rfl) (by decide +kernel) (by decide +kernel) (by decide +kernel)
set_option maxRecDepth 100000 in
theorem md_X11_end : cx_md (ev_TT.flatten.filter goodWord) (ev_TT.flatten.filter ev_isN) ev_AO0 ev_G0 ev_TY0 ra0 ev_pg mi_X11_end := fun pc E hE => ⟨(ok_X11_end.2.2.2.2.2.2.2 pc E hE).1, (ok_X11_end.2.2.2.2.2.2.2 pc E hE).2, cx_schk_ok (M := mi_X11_end) (by decide +kernel) hE⟩
set_option maxRecDepth 100000 in
theorem ok_X11_feed : ev_mok (ev_TT.flatten.filter goodWord) (ev_TT.flatten.filter ev_isN) ev_AO0 ev_G0 ev_TY0 ev_pg mi_X11_feed := ev_mchk_ok nd_X11_feed (ev_cin (l := tables_1_6) 6 125 rfl rfl rfl) (by decide +kernel) (by decide +kernel) (by decide +kernel)
set_option maxRecDepth 100000 in
theorem md_X11_feed : cx_md (ev_TT.flatten.filter goodWord) (ev_TT.flatten.filter ev_isN) ev_AO0 ev_G0 ev_TY0 ra0 ev_pg mi_X11_feed := fun pc E hE => ⟨(ok_X11_feed.2.2.2.2.2.2.2 pc E hE).1, (ok_X11_feed.2.2.2.2.2.2.2 pc E hE).2, cx_schk_ok (M := mi_X11_feed) (by decide +kernel) hE⟩
set_option maxRecDepth 100000 in
theorem ok_X11_follows : ev_mok (ev_TT.flatten.filter goodWord) (ev_TT.flatten.filter ev_isN) ev_AO0 ev_G0 ev_TY0 ev_pg mi_X11_follows := ev_mchk_ok nd_X11_follows (ev_cin (l := tables_1_7) 7 29 rfl rfl rfl) (by decide +kernel) (by decide +kernel) (by decide +kernel)
set_option maxRecDepth 100000 in
theorem md_X11_follows : cx_md (ev_TT.flatten.filter goodWord) (ev_TT.flatten.filter ev_isN) ev_AO0 ev_G0 ev_TY0 ra0 ev_pg mi_X11_follows := fun pc E hE => ⟨(ok_X11_follows.2.2.2.2.2.2.2 pc E hE).1, (ok_X11_follows.2.2.2.2.2.2.2 pc E hE).2, cx_schk_ok (M := mi_X11_follows) (by decide +kernel) hE⟩
set_option maxRecDepth 100000 in
theorem ok_X11_forge : ev_mok (ev_TT.flatten.filter goodWord) (ev_TT.flatten.filter ev_isN) ev_AO0 ev_G0 ev_TY0 ev_pg mi_X11_forge := ev_mchk_ok nd_X11_forge (ev_cin (l := tables_1_6) 6 165 rfl rfl rfl) (by decide +kernel) (by decide +kernel) (by decide +kernel)
set_option maxRecDepth 100000 in
theorem md_X11_forge : cx_md (ev_TT.flatten.filter goodWord) (ev_TT.flatten.filter ev_isN) ev_AO0 ev_G0 ev_TY0 ra0 ev_pg mi_X11_forge := fun pc E hE => ⟨(ok_X11_forge.2.2.2.2.2.2.2 pc E hE).1, (ok_X11_forge.2.2.2.2.2.2.2 pc E hE).2, cx_schk_ok (M := mi_X11_forge) (by decide +kernel) hE⟩
set_option maxRecDepth 100000 in
theorem ok_X11_forget : ev_mok (ev_TT.flatten.filter goodWord) (ev_TT.flatten.filter ev_isN) ev_AO0 ev_G0 ev_TY0 ev_pg mi_X11_forget := ev_mchk_ok nd_X11_forget (ev_cin (l := tables_1_6) 6 121 rfl rfl rfl) (by decide +kernel) (by decide +kernel) (by decide +kernel)
set_option maxRecDepth 100000 in
theorem md_X11_forget : cx_md (ev_TT.flatten.filter goodWord) (ev_TT.flatten.filter ev_isN) ev_AO0 ev_G0 ev_TY0 ra0 ev_pg mi_X11_forget := fun pc E hE => ⟨(ok_X11_forget.2.2.2.2.2.2.2 pc E hE).1, (ok_X11_forget.2.2.2.2.2.2.2 pc E hE).2, cx_schk_ok (M := mi_X11_forget) (by decide +kernel) hE⟩
set_option maxRecDepth 100000 in
theorem ok_X11_init : ev_mok (ev_TT.flatten.filter goodWord) (ev_TT.flatten.filter ev_isN) ev_AO0 ev_G0 ev_TY0 ev_pg mi_X11_init := ev_mchk_ok nd_X11_init (ev_cin (l := tables_1_4) 4 224 rfl rfl rfl) (by decide +kernel) (by decide +kernel) (by decide +kernel)
set_option maxRecDepth 100000 in
theorem md_X11_init : cx_md (ev_TT.flatten.filter goodWord) (ev_TT.flatten.filter ev_isN) ev_AO0 ev_G0 ev_TY0 ra0 ev_pg mi_X11_init := fun pc E hE => ⟨(ok_X11_init.2.2.2.2.2.2.2 pc E hE).1, (ok_X11_init.2.2.2.2.2.2.2 pc E hE).2, cx_schk_ok (M := mi_X11_init) (by decide +kernel) hE⟩
set_option maxRecDepth 100000 in
theorem ok_X11_inside : ev_mok (ev_TT.flatten.filter goodWord) (ev_TT.flatten.filter ev_isN) ev_AO0 ev_G0 ev_TY0 ev_pg mi_X11_inside := ev_mchk_ok nd_X11_inside (ev_cin (l := tables_1_7) 7 9 rfl rfl rfl) (by decide +kernel) (by decide +kernel) (by decide +kernel)
set_option maxRecDepth 100000 in
theorem md_X11_inside : cx_md (ev_TT.flatten.filter goodWord) (ev_TT.flatten.filter ev_isN) ev_AO0 ev_G0 ev_TY0 ra0 ev_pg mi_X11_inside := fun pc E hE => ⟨(ok_X11_inside.2.2.2.2.2.2.2 pc E hE).1, (ok_X11_inside.2.2.2.2.2.2.2 pc E hE).2, cx_schk_ok (M := mi_X11_inside) (by decide +kernel) hE⟩
set_option maxRecDepth 100000 in
theorem ok_X11_isLetter : ev_mok (ev_TT.flatten.filter goodWord) (ev_TT.flatten.filter ev_isN) ev_AO0 ev_G0 ev_TY0 ev_pg mi_X11_isLetter := ev_mchk_ok nd_X11_isLetter (ev_cin (l := tables_1_6) 6 149 rfl rfl rfl) (by decide +kernel) (by decide +kernel) (by decide +kernel)
set_option maxRecDepth 100000 in
theorem md_X11_isLetter : cx_md (ev_TT.flatten.filter goodWord) (ev_TT.flatten.filter ev_isN) ev_AO0 ev_G0 ev_TY0 ra0 ev_pg mi_X11_isLetter := fun pc E hE => ⟨(ok_X11_isLetter.2.2.2.2.2.2.2 pc E hE).1, (ok_X11_isLetter.2.2.2.2.2.2.2 pc E hE).2, cx_schk_ok (M := mi_X11_isLetter) (by decide +kernel) hE⟩
set_option maxRecDepth 100000 in
theorem ok_X11_isSealRight : ev_mok (ev_TT.flatten.filter goodWord) (ev_TT.flatten.filter ev_isN) ev_AO0 ev_G0 ev_TY0 ev_pg mi_X11_isSealRight := ev_mchk_ok nd_X11_isSealRight (ev_cin (l := tables_1_6) 6 88 rfl rfl rfl) (by decide +kernel) (by decide +kernel) (by decide +kernel)
set_option maxRecDepth 100000 in
theorem md_X11_isSealRight : cx_md (ev_TT.flatten.filter goodWord) (ev_TT.flatten.filter ev_isN) ev_AO0 ev_G0 ev_TY0 ra0 ev_pg mi_X11_isSealRight := fun pc E hE => ⟨(ok_X11_isSealRight.2.2.2.2.2.2.2 pc E hE).1, (ok_X11_isSealRight.2.2.2.2.2.2.2 pc E hE).2, cx_schk_ok (M := mi_X11_isSealRight) (by decide +kernel) hE⟩
set_option maxRecDepth 100000 in
theorem ok_X11_isTag : ev_mok (ev_TT.flatten.filter goodWord) (ev_TT.flatten.filter ev_isN) ev_AO0 ev_G0 ev_TY0 ev_pg mi_X11_isTag := ev_mchk_ok nd_X11_isTag (ev_cin (l := tables_1_6) 6 193 rfl rfl rfl) (by decide +kernel) (by decide +kernel) (by decide +kernel)
set_option maxRecDepth 100000 in
theorem md_X11_isTag : cx_md (ev_TT.flatten.filter goodWord) (ev_TT.flatten.filter ev_isN) ev_AO0 ev_G0 ev_TY0 ra0 ev_pg mi_X11_isTag := fun pc E hE => ⟨(ok_X11_isTag.2.2.2.2.2.2.2 pc E hE).1, (ok_X11_isTag.2.2.2.2.2.2.2 pc E hE).2, cx_schk_ok (M := mi_X11_isTag) (by decide +kernel) hE⟩
set_option maxRecDepth 100000 in
theorem ok_X11_isThere : ev_mok (ev_TT.flatten.filter goodWord) (ev_TT.flatten.filter ev_isN) ev_AO0 ev_G0 ev_TY0 ev_pg mi_X11_isThere := ev_mchk_ok nd_X11_isThere (ev_cin (l := tables_1_6) 6 15 rfl rfl rfl) (by decide +kernel) (by decide +kernel) (by decide +kernel)
set_option maxRecDepth 100000 in
theorem md_X11_isThere : cx_md (ev_TT.flatten.filter goodWord) (ev_TT.flatten.filter ev_isN) ev_AO0 ev_G0 ev_TY0 ra0 ev_pg mi_X11_isThere := fun pc E hE => ⟨(ok_X11_isThere.2.2.2.2.2.2.2 pc E hE).1, (ok_X11_isThere.2.2.2.2.2.2.2 pc E hE).2, cx_schk_ok (M := mi_X11_isThere) (by decide +kernel) hE⟩
set_option maxRecDepth 100000 in
theorem ok_X11_keepUpTo : ev_mok (ev_TT.flatten.filter goodWord) (ev_TT.flatten.filter ev_isN) ev_AO0 ev_G0 ev_TY0 ev_pg mi_X11_keepUpTo := ev_mchk_ok nd_X11_keepUpTo (ev_cin (l := tables_1_6) 6 205 rfl rfl rfl) (by decide +kernel) (by decide +kernel) (by decide +kernel)
set_option maxRecDepth 100000 in
theorem md_X11_keepUpTo : cx_md (ev_TT.flatten.filter goodWord) (ev_TT.flatten.filter ev_isN) ev_AO0 ev_G0 ev_TY0 ra0 ev_pg mi_X11_keepUpTo := fun pc E hE => ⟨(ok_X11_keepUpTo.2.2.2.2.2.2.2 pc E hE).1, (ok_X11_keepUpTo.2.2.2.2.2.2.2 pc E hE).2, cx_schk_ok (M := mi_X11_keepUpTo) (by decide +kernel) hE⟩
