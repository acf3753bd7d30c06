set_option maxRecDepth 100000 in
theorem ok_X10_inside : ev_mok (ev_TT.flatten.filter goodWord) (ev_TT.flatten.filter ev_isN) ev_AO0 ev_G0 ev_TY0 ev_pg mi_X10_inside := ev_mchk_ok nd_X10_inside (ev_cin (l := tables_1_4) 4 153 rfl rfl rfl) (by decide +kernel) (by decide +kernel) (by decide +kernel)
set_option maxRecDepth 100000 in
theorem md_X10_inside : cx_md (ev_TT.flatten.filter goodWord) (ev_TT.flatten.filter ev_isN) ev_AO0 ev_G0 ev_TY0 ra0 ev_pg mi_X10_inside := fun pc E hE => ⟨(ok_X10_inside.2.2.2.2.2.2.2 pc E hE).1, (ok_X10_inside.2.2.2.2.2.2.2 pc E hE).2, cx_schk_ok (M := mi_X10_inside) (by decide +kernel) hE⟩
set_option maxRecDepth 100000 in
theorem ok_X10_isLetter : ev_mok (ev_TT.flatten.filter goodWord) (ev_TT.flatten.filter ev_isN) ev_AO0 ev_G0 ev_TY0 ev_pg mi_X10_isLetter := ev_mchk_ok nd_X10_isLetter (ev_cin (l := tables_1_3) 3 212 rfl rfl rfl) (by decide +kernel) (by decide +kernel) (by decide +kernel)
set_option maxRecDepth 100000 in
theorem md_X10_isLetter : cx_md (ev_TT.flatten.filter goodWord) (ev_TT.flatten.filter ev_isN) ev_AO0 ev_G0 ev_TY0 ra0 ev_pg mi_X10_isLetter := fun pc E hE => ⟨(ok_X10_isLetter.2.2.2.2.2.2.2 pc E hE).1, (ok_X10_isLetter.2.2.2.2.2.2.2 pc E hE).2, cx_schk_ok (M := mi_X10_isLetter) (by decide +kernel) hE⟩
set_option maxRecDepth 100000 in
theorem ok_X10_isUser : ev_mok (ev_TT.flatten.filter goodWord) (ev_TT.flatten.filter ev_isN) ev_AO0 ev_G0 ev_TY0 ev_pg mi_X10_isUser := ev_mchk_ok nd_X10_isUser (ev_cin (l := tables_1_2) 2 78 rfl rfl rfl) (by decide +kernel) (by decide +kernel) (by decide +kernel)
set_option maxRecDepth 100000 in
theorem md_X10_isUser : cx_md (ev_TT.flatten.filter goodWord) (ev_TT.flatten.filter ev_isN) ev_AO0 ev_G0 ev_TY0 ra0 ev_pg mi_X10_isUser := fun pc E hE => ⟨(ok_X10_isUser.2.2.2.2.2.2.2 pc E hE).1, (ok_X10_isUser.2.2.2.2.2.2.2 pc E hE).2, cx_schk_ok (M := mi_X10_isUser) (by decide +kernel) hE⟩
set_option maxRecDepth 100000 in
theorem ok_X10_letter : ev_mok (ev_TT.flatten.filter goodWord) (ev_TT.flatten.filter ev_isN) ev_AO0 ev_G0 ev_TY0 ev_pg mi_X10_letter := ev_mchk_ok nd_X10_letter (ev_cin (l := tables_1_4) 4 120 rfl rfl rfl) (by decide +kernel) (by decide +kernel) (by decide +kernel)
set_option maxRecDepth 100000 in
theorem md_X10_letter : cx_md (ev_TT.flatten.filter goodWord) (ev_TT.flatten.filter ev_isN) ev_AO0 ev_G0 ev_TY0 ra0 ev_pg mi_X10_letter := fun pc E hE => ⟨(ok_X10_letter.2.2.2.2.2.2.2 pc E hE).1, (ok_X10_letter.2.2.2.2.2.2.2 pc E hE).2, cx_schk_ok (M := mi_X10_letter) (by decide +kernel) hE⟩
set_option maxRecDepth 100000 in
theorem ok_X10_look : ev_mok (ev_TT.flatten.filter goodWord) (ev_TT.flatten.filter ev_isN) ev_AO0 ev_G0 ev_TY0 ev_pg mi_X10_look := ev_mchk_ok nd_X10_look (ev_cin (l := tables_1_4) 4 161 rfl rfl rfl) (by decide +kernel) (by decide +kernel) (by decide +kernel)
set_option maxRecDepth 100000 in
theorem md_X10_look : cx_md (ev_TT.flatten.filter goodWord) (ev_TT.flatten.filter ev_isN) ev_AO0 ev_G0 ev_TY0 ra0 ev_pg mi_X10_look := fun pc E hE => ⟨(ok_X10_look.2.2.2.2.2.2.2 pc E hE).1, (ok_X10_look.2.2.2.2.2.2.2 pc E hE).2, cx_schk_ok (M := mi_X10_look) (by decide +kernel) hE⟩
set_option maxRecDepth 100000 in
theorem ok_X10_number : ev_mok (ev_TT.flatten.filter goodWord) (ev_TT.flatten.filter ev_isN) ev_AO0 ev_G0 ev_TY0 ev_pg mi_X10_number := ev_mchk_ok nd_X10_number (ev_cin (l := tables_1_4) 4 145 rfl rfl rfl) (by decide +kernel) (by decide +kernel) (by decide +kernel)
set_option maxRecDepth 100000 in
theorem md_X10_number : cx_md (ev_TT.flatten.filter goodWord) (ev_TT.flatten.filter ev_isN) ev_AO0 ev_G0 ev_TY0 ra0 ev_pg mi_X10_number := fun pc E hE => ⟨(ok_X10_number.2.2.2.2.2.2.2 pc E hE).1, (ok_X10_number.2.2.2.2.2.2.2 pc E hE).2, cx_schk_ok (M := mi_X10_number) (by decide +kernel) hE⟩
set_option maxRecDepth 100000 in
theorem ok_X10_oneIf : ev_mok (ev_TT.flatten.filter goodWord) (ev_TT.flatten.filter ev_isN) ev_AO0 ev_G0 ev_TY0 ev_pg mi_X10_oneIf := ev_mchk_ok nd_X10_oneIf (ev_cin (l := tables_1_4) 4 132 rfl rfl rfl) (by decide +kernel) (by decide +kernel) (by decide +kernel)
set_option maxRecDepth 100000 in
theorem md_X10_oneIf : cx_md (ev_TT.flatten.filter goodWord) (ev_TT.flatten.filter ev_isN) ev_AO0 ev_G0 ev_TY0 ra0 ev_pg mi_X10_oneIf := fun pc E hE => ⟨(ok_X10_oneIf.2.2.2.2.2.2.2 pc E hE).1, (ok_X10_oneIf.2.2.2.2.2.2.2 pc E hE).2, cx_schk_ok (M := mi_X10_oneIf) (by decide +kernel) hE⟩
set_option maxRecDepth 100000 in
theorem ok_X10_openIn : ev_mok (ev_TT.flatten.filter goodWord) (ev_TT.flatten.filter ev_isN) ev_AO0 ev_G0 ev_TY0 ev_pg mi_X10_openIn := ev_mchk_ok nd_X10_openIn (ev_cin (l := tables_1_3) 3 237 rfl rfl rfl) (by decide +kernel) (by decide +kernel) (by decide +kernel)
set_option maxRecDepth 100000 in
theorem md_X10_openIn : cx_md (ev_TT.flatten.filter goodWord) (ev_TT.flatten.filter ev_isN) ev_AO0 ev_G0 ev_TY0 ra0 ev_pg mi_X10_openIn := fun pc E hE => ⟨(ok_X10_openIn.2.2.2.2.2.2.2 pc E hE).1, (ok_X10_openIn.2.2.2.2.2.2.2 pc E hE).2, cx_schk_ok (M := mi_X10_openIn) (by decide +kernel) hE⟩
set_option maxRecDepth 100000 in
theorem ok_X10_openInNew : ev_mok (ev_TT.flatten.filter goodWord) (ev_TT.flatten.filter ev_isN) ev_AO0 ev_G0 ev_TY0 ev_pg mi_X10_openInNew := ev_mchk_ok nd_X10_openInNew (ev_cin (l := tables_1_4) 4 58 rfl rfl rfl) (by decide +kernel) (by decide +kernel) (by decide +kernel)
set_option maxRecDepth 100000 in
theorem md_X10_openInNew : cx_md (ev_TT.flatten.filter goodWord) (ev_TT.flatten.filter ev_isN) ev_AO0 ev_G0 ev_TY0 ra0 ev_pg mi_X10_openInNew := fun pc E hE => ⟨(ok_X10_openInNew.2.2.2.2.2.2.2 pc E hE).1, (ok_X10_openInNew.2.2.2.2.2.2.2 pc E hE).2, cx_schk_ok (M := mi_X10_openInNew) (by decide +kernel) hE⟩
set_option maxRecDepth 100000 in
theorem ok_X10_openOf : ev_mok (ev_TT.flatten.filter goodWord) (ev_TT.flatten.filter ev_isN) ev_AO0 ev_G0 ev_TY0 ev_pg mi_X10_openOf := ev_mchk_ok nd_X10_openOf (ev_cin (l := tables_1_2) 2 222 rfl rfl rfl) (by decide +kernel) (by decide +kernel) (by decide +kernel)
set_option maxRecDepth 100000 in
theorem md_X10_openOf : cx_md (ev_TT.flatten.filter goodWord) (ev_TT.flatten.filter ev_isN) ev_AO0 ev_G0 ev_TY0 ra0 ev_pg mi_X10_openOf := fun pc E hE => ⟨(ok_X10_openOf.2.2.2.2.2.2.2 pc E hE).1, (ok_X10_openOf.2.2.2.2.2.2.2 pc E hE).2, cx_schk_ok (M := mi_X10_openOf) (by decide +kernel) hE⟩
set_option maxRecDepth 100000 in
theorem ok_X10_openWithBeginning : ev_mok (ev_TT.flatten.filter goodWord) (ev_TT.flatten.filter ev_isN) ev_AO0 ev_G0 ev_TY0 ev_pg mi_X10_openWithBeginning := ev_mchk_ok nd_X10_openWithBeginning (ev_cin (l := tables_1_3) 3 229 rfl rfl rfl) (by decide +kernel) (by decide +kernel) (by decide +kernel)
set_option maxRecDepth 100000 in
theorem md_X10_openWithBeginning : cx_md (ev_TT.flatten.filter goodWord) (ev_TT.flatten.filter ev_isN) ev_AO0 ev_G0 ev_TY0 ra0 ev_pg mi_X10_openWithBeginning := fun pc E hE => ⟨(ok_X10_openWithBeginning.2.2.2.2.2.2.2 pc E hE).1, (ok_X10_openWithBeginning.2.2.2.2.2.2.2 pc E hE).2, cx_schk_ok (M := mi_X10_openWithBeginning) (by decide +kernel) hE⟩
set_option maxRecDepth 100000 in
theorem ok_X10_openWithoutBeginning : ev_mok (ev_TT.flatten.filter goodWord) (ev_TT.flatten.filter ev_isN) ev_AO0 ev_G0 ev_TY0 ev_pg mi_X10_openWithoutBeginning := ev_mchk_ok nd_X10_openWithoutBeginning (ev_cin (l := tables_1_4) 4 89 rfl rfl rfl) (by decide +kernel) (by decide +kernel) (by decide +kernel)
set_option maxRecDepth 100000 in
theorem md_X10_openWithoutBeginning : cx_md (ev_TT.flatten.filter goodWord) (ev_TT.flatten.filter ev_isN) ev_AO0 ev_G0 ev_TY0 ra0 ev_pg mi_X10_openWithoutBeginning := fun pc E hE => ⟨(ok_X10_openWithoutBeginning.2.2.2.2.2.2.2 pc E hE).1, (ok_X10_openWithoutBeginning.2.2.2.2.2.2.2 pc E hE).2, cx_schk_ok (M := mi_X10_openWithoutBeginning) (by decide +kernel) hE⟩
set_option maxRecDepth 100000 in
theorem ok_X10_publish : ev_mok (ev_TT.flatten.filter goodWord) (ev_TT.flatten.filter ev_isN) ev_AO0 ev_G0 ev_TY0 ev_pg mi_X10_publish := ev_mchk_ok nd_X10_publish (ev_cin (l := tables_1_2) 2 163 rfl rfl rfl) (by decide +kernel) (by decide +kernel) (by decide +kernel)
set_option maxRecDepth 100000 in
theorem md_X10_publish : cx_md (ev_TT.flatten.filter goodWord) (ev_TT.flatten.filter ev_isN) ev_AO0 ev_G0 ev_TY0 ra0 ev_pg mi_X10_publish := fun pc E hE => ⟨(ok_X10_publish.2.2.2.2.2.2.2 pc E hE).1, (ok_X10_publish.2.2.2.2.2.2.2 pc E hE).2, cx_schk_ok (M := mi_X10_publish) (by decide +kernel) hE⟩
set_option maxRecDepth 100000 in
theorem ok_X10_putOnTape : ev_mok (ev_TT.flatten.filter goodWord) (ev_TT.flatten.filter ev_isN) ev_AO0 ev_G0 ev_TY0 ev_pg mi_X10_putOnTape := ev_mchk_ok nd_X10_putOnTape (ev_cin (l := tables_1_2) 2 66 rfl rfl rfl) (by decide +kernel) (by decide +kernel) (by decide +kernel)
set_option maxRecDepth 100000 in
theorem md_X10_putOnTape : cx_md (ev_TT.flatten.filter goodWord) (ev_TT.flatten.filter ev_isN) ev_AO0 ev_G0 ev_TY0 ra0 ev_pg mi_X10_putOnTape := fun pc E hE => ⟨(ok_X10_putOnTape.2.2.2.2.2.2.2 pc E hE).1, (ok_X10_putOnTape.2.2.2.2.2.2.2 pc E hE).2, cx_schk_ok (M := mi_X10_putOnTape) (by decide +kernel) hE⟩
set_option maxRecDepth 100000 in
theorem ok_X10_readable : ev_mok (ev_TT.flatten.filter goodWord) (ev_TT.flatten.filter ev_isN) ev_AO0 ev_G0 ev_TY0 ev_pg mi_X10_readable := ev_mchk_ok nd_X10_readable (ev_cin (l := tables_1_4) 4 197 rfl rfl rfl) (by decide +kernel) (by decide +kernel) (by decide +kernel)
set_option maxRecDepth 100000 in
theorem md_X10_readable : cx_md (ev_TT.flatten.filter goodWord) (ev_TT.flatten.filter ev_isN) ev_AO0 ev_G0 ev_TY0 ra0 ev_pg mi_X10_readable := fun pc E hE => ⟨(ok_X10_readable.2.2.2.2.2.2.2 pc E hE).1, (ok_X10_readable.2.2.2.2.2.2.2 pc E hE).2, cx_schk_ok (M := mi_X10_readable) (by decide +kernel) hE⟩
set_option maxRecDepth 100000 in
theorem ok_X10_register : ev_mok (ev_TT.flatten.filter goodWord) (ev_TT.flatten.filter ev_isN) ev_AO0 ev_G0 ev_TY0 ev_pg mi_X10_register := ev_mchk_ok nd_X10_register (ev_cin (l := tables_1_2) 2 74 rfl rfl rfl) (by decide +kernel) (by decide +kernel) (by decide +kernel)
set_option maxRecDepth 100000 in
theorem md_X10_register : cx_md (ev_TT.flatten.filter goodWord) (ev_TT.flatten.filter ev_isN) ev_AO0 ev_G0 ev_TY0 ra0 ev_pg mi_X10_register := fun pc E hE => ⟨(ok_X10_register.2.2.2.2.2.2.2 pc E hE).1, (ok_X10_register.2.2.2.2.2.2.2 pc E hE).2, cx_schk_ok (M := mi_X10_register) (by decide +kernel) hE⟩
set_option maxRecDepth 100000 in
theorem ok_X10_rotate : ev_mok (ev_TT.flatten.filter goodWord) (ev_TT.flatten.filter ev_isN) ev_AO0 ev_G0 ev_TY0 ev_pg mi_X10_rotate := ev_mchk_ok nd_X10_rotate (ev_cin (l := tables_1_2) 2 175 rfl rfl rfl) (by decide +kernel) (by decide +kernel) (by decide +kernel)
set_option maxRecDepth 100000 in
theorem md_X10_rotate : cx_md (ev_TT.flatten.filter goodWord) (ev_TT.flatten.filter ev_isN) ev_AO0 ev_G0 ev_TY0 ra0 ev_pg mi_X10_rotate := fun pc E hE => ⟨(ok_X10_rotate.2.2.2.2.2.2.2 pc E hE).1, (ok_X10_rotate.2.2.2.2.2.2.2 pc E hE).2, cx_schk_ok (M := mi_X10_rotate) (by decide +kernel) hE⟩
set_option maxRecDepth 100000 in
theorem ok_X10_same : ev_mok (ev_TT.flatten.filter goodWord) (ev_TT.flatten.filter ev_isN) ev_AO0 ev_G0 ev_TY0 ev_pg mi_X10_same := ev_mchk_ok nd_X10_same (ev_cin (l := tables_1_4) 4 157 rfl rfl rfl) (by decide +kernel) (by decide +kernel) (by decide +kernel)
set_option maxRecDepth 100000 in
theorem md_X10_same : cx_md (ev_TT.flatten.filter goodWord) (ev_TT.flatten.filter ev_isN) ev_AO0 ev_G0 ev_TY0 ra0 ev_pg mi_X10_same := fun pc E hE => ⟨(ok_X10_same.2.2.2.2.2.2.2 pc E hE).1, (ok_X10_same.2.2.2.2.2.2.2 pc E hE).2, cx_schk_ok (M := mi_X10_same) (by decide +kernel) hE⟩
set_option maxRecDepth 100000 in
theorem ok_X10_secretOf : ev_mok (ev_TT.flatten.filter goodWord) (ev_TT.flatten.filter ev_isN) ev_AO0 ev_G0 ev_TY0 ev_pg mi_X10_secretOf := ev_mchk_ok nd_X10_secretOf (ev_cin (l := tables_1_2) 2 213 rfl rfl rfl) (by decide +kernel) (by decide +kernel) (by decide +kernel)
set_option maxRecDepth 100000 in
theorem md_X10_secretOf : cx_md (ev_TT.flatten.filter goodWord) (ev_TT.flatten.filter ev_isN) ev_AO0 ev_G0 ev_TY0 ra0 ev_pg mi_X10_secretOf := fun pc E hE => ⟨(ok_X10_secretOf.2.2.2.2.2.2.2 pc E hE).1, (ok_X10_secretOf.2.2.2.2.2.2.2 pc E hE).2, cx_schk_ok (M := mi_X10_secretOf) (by decide +kernel) hE⟩
set_option maxRecDepth 100000 in
theorem ok_X10_session : ev_mok (ev_TT.flatten.filter goodWord) (ev_TT.flatten.filter ev_isN) ev_AO0 ev_G0 ev_TY0 ev_pg mi_X10_session := ev_mchk_ok nd_X10_session (ev_cin (l := tables_1_4) 4 149 rfl rfl rfl) (by decide +kernel) (by decide +kernel) (by decide +kernel)
set_option maxRecDepth 100000 in
theorem md_X10_session : cx_md (ev_TT.flatten.filter goodWord) (ev_TT.flatten.filter ev_isN) ev_AO0 ev_G0 ev_TY0 ra0 ev_pg mi_X10_session := fun pc E hE => ⟨(ok_X10_session.2.2.2.2.2.2.2 pc E hE).1, (ok_X10_session.2.2.2.2.2.2.2 pc E hE).2, cx_schk_ok (M := mi_X10_session) (by decide +kernel) hE⟩
set_option maxRecDepth 100000 in
theorem ok_X10_spoil : ev_mok (ev_TT.flatten.filter goodWord) (ev_TT.flatten.filter ev_isN) ev_AO0 ev_G0 ev_TY0 ev_pg mi_X10_spoil := ev_mchk_ok nd_X10_spoil (ev_cin (l := tables_1_4) 4 116 rfl rfl rfl) (by decide +kernel) (by decide +kernel) (by decide +kernel)
set_option maxRecDepth 100000 in
theorem md_X10_spoil : cx_md (ev_TT.flatten.filter goodWord) (ev_TT.flatten.filter ev_isN) ev_AO0 ev_G0 ev_TY0 ra0 ev_pg mi_X10_spoil := fun pc E hE => ⟨(ok_X10_spoil.2.2.2.2.2.2.2 pc E hE).1, (ok_X10_spoil.2.2.2.2.2.2.2 pc E hE).2, cx_schk_ok (M := mi_X10_spoil) (by decide +kernel) hE⟩
