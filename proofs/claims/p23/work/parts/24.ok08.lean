set_option maxRecDepth 100000 in
theorem ok_X1_drop : ev_mok (ev_TT.flatten.filter goodWord) (ev_TT.flatten.filter ev_isN) ev_AO0 ev_G0 ev_TY0 ev_pg mi_X1_drop := ev_mchk_ok nd_X1_drop (ev_cin (l := tables_1_4) 4 35 rfl rfl rfl) (by decide +kernel) (by decide +kernel) (by decide +kernel)
set_option maxRecDepth 100000 in
theorem md_X1_drop : cx_md (ev_TT.flatten.filter goodWord) (ev_TT.flatten.filter ev_isN) ev_AO0 ev_G0 ev_TY0 ra0 ev_pg mi_X1_drop := fun pc E hE => ⟨(ok_X1_drop.2.2.2.2.2.2.2 pc E hE).1, (ok_X1_drop.2.2.2.2.2.2.2 pc E hE).2, cx_schk_ok (M := mi_X1_drop) (by decide +kernel) hE⟩
set_option maxRecDepth 100000 in
theorem ok_X1_find : ev_mok (ev_TT.flatten.filter goodWord) (ev_TT.flatten.filter ev_isN) ev_AO0 ev_G0 ev_TY0 ev_pg mi_X1_find := ev_mchk_ok nd_X1_find (ev_cin (l := tables_1_4) 4 5 rfl rfl rfl) (by decide +kernel) (by decide +kernel) (by decide +kernel)
set_option maxRecDepth 100000 in
theorem md_X1_find : cx_md (ev_TT.flatten.filter goodWord) (ev_TT.flatten.filter ev_isN) ev_AO0 ev_G0 ev_TY0 ra0 ev_pg mi_X1_find := fun pc E hE => ⟨(ok_X1_find.2.2.2.2.2.2.2 pc E hE).1, (ok_X1_find.2.2.2.2.2.2.2 pc E hE).2, cx_schk_ok (M := mi_X1_find) (by decide +kernel) hE⟩
set_option maxRecDepth 100000 in
theorem ok_X1_giveAway : ev_mok (ev_TT.flatten.filter goodWord) (ev_TT.flatten.filter ev_isN) ev_AO0 ev_G0 ev_TY0 ev_pg mi_X1_giveAway := ev_mchk_ok nd_X1_giveAway (ev_cin (l := tables_1_4) 4 189 rfl rfl rfl) (by decide +kernel) (by decide +kernel) (by decide +kernel)
set_option maxRecDepth 100000 in
theorem md_X1_giveAway : cx_md (ev_TT.flatten.filter goodWord) (ev_TT.flatten.filter ev_isN) ev_AO0 ev_G0 ev_TY0 ra0 ev_pg mi_X1_giveAway := fun pc E hE => ⟨(ok_X1_giveAway.2.2.2.2.2.2.2 pc E hE).1, (ok_X1_giveAway.2.2.2.2.2.2.2 pc E hE).2, cx_schk_ok (M := mi_X1_giveAway) (by decide +kernel) hE⟩
set_option maxRecDepth 100000 in
theorem ok_X1_init : ev_mok (ev_TT.flatten.filter goodWord) (ev_TT.flatten.filter ev_isN) ev_AO0 ev_G0 ev_TY0 ev_pg mi_X1_init := ev_mchk_ok nd_X1_init (ev_cin (l := tables_1_3) 3 9 rfl rfl rfl) (by decide +kernel) (by decide +kernel) (by decide +kernel)
set_option maxRecDepth 100000 in
theorem md_X1_init : cx_md (ev_TT.flatten.filter goodWord) (ev_TT.flatten.filter ev_isN) ev_AO0 ev_G0 ev_TY0 ra0 ev_pg mi_X1_init := fun pc E hE => ⟨(ok_X1_init.2.2.2.2.2.2.2 pc E hE).1, (ok_X1_init.2.2.2.2.2.2.2 pc E hE).2, cx_schk_ok (M := mi_X1_init) (by decide +kernel) hE⟩
set_option maxRecDepth 100000 in
theorem ok_X1_keep : ev_mok (ev_TT.flatten.filter goodWord) (ev_TT.flatten.filter ev_isN) ev_AO0 ev_G0 ev_TY0 ev_pg mi_X1_keep := ev_mchk_ok nd_X1_keep (ev_cin (l := tables_1_4) 4 43 rfl rfl rfl) (by decide +kernel) (by decide +kernel) (by decide +kernel)
set_option maxRecDepth 100000 in
theorem md_X1_keep : cx_md (ev_TT.flatten.filter goodWord) (ev_TT.flatten.filter ev_isN) ev_AO0 ev_G0 ev_TY0 ra0 ev_pg mi_X1_keep := fun pc E hE => ⟨(ok_X1_keep.2.2.2.2.2.2.2 pc E hE).1, (ok_X1_keep.2.2.2.2.2.2.2 pc E hE).2, cx_schk_ok (M := mi_X1_keep) (by decide +kernel) hE⟩
set_option maxRecDepth 100000 in
theorem ok_X1_keyAt : ev_mok (ev_TT.flatten.filter goodWord) (ev_TT.flatten.filter ev_isN) ev_AO0 ev_G0 ev_TY0 ev_pg mi_X1_keyAt := ev_mchk_ok nd_X1_keyAt (ev_cin (l := tables_1_4) 4 9 rfl rfl rfl) (by decide +kernel) (by decide +kernel) (by decide +kernel)
set_option maxRecDepth 100000 in
theorem md_X1_keyAt : cx_md (ev_TT.flatten.filter goodWord) (ev_TT.flatten.filter ev_isN) ev_AO0 ev_G0 ev_TY0 ra0 ev_pg mi_X1_keyAt := fun pc E hE => ⟨(ok_X1_keyAt.2.2.2.2.2.2.2 pc E hE).1, (ok_X1_keyAt.2.2.2.2.2.2.2 pc E hE).2, cx_schk_ok (M := mi_X1_keyAt) (by decide +kernel) hE⟩
set_option maxRecDepth 100000 in
theorem ok_X2_init : ev_mok (ev_TT.flatten.filter goodWord) (ev_TT.flatten.filter ev_isN) ev_AO0 ev_G0 ev_TY0 ev_pg mi_X2_init := ev_mchk_ok nd_X2_init (ev_cin (l := tables_1_3) 3 154 rfl rfl rfl) (by decide +kernel) (by decide +kernel) (by decide +kernel)
set_option maxRecDepth 100000 in
theorem md_X2_init : cx_md (ev_TT.flatten.filter goodWord) (ev_TT.flatten.filter ev_isN) ev_AO0 ev_G0 ev_TY0 ra0 ev_pg mi_X2_init := fun pc E hE => ⟨(ok_X2_init.2.2.2.2.2.2.2 pc E hE).1, (ok_X2_init.2.2.2.2.2.2.2 pc E hE).2, cx_schk_ok (M := mi_X2_init) (by decide +kernel) hE⟩
set_option maxRecDepth 100000 in
theorem ok_X2_put : ev_mok (ev_TT.flatten.filter goodWord) (ev_TT.flatten.filter ev_isN) ev_AO0 ev_G0 ev_TY0 ev_pg mi_X2_put := ev_mchk_ok nd_X2_put (ev_cin (l := tables_1_3) 3 178 rfl rfl rfl) (by decide +kernel) (by decide +kernel) (by decide +kernel)
set_option maxRecDepth 100000 in
theorem md_X2_put : cx_md (ev_TT.flatten.filter goodWord) (ev_TT.flatten.filter ev_isN) ev_AO0 ev_G0 ev_TY0 ra0 ev_pg mi_X2_put := fun pc E hE => ⟨(ok_X2_put.2.2.2.2.2.2.2 pc E hE).1, (ok_X2_put.2.2.2.2.2.2.2 pc E hE).2, cx_schk_ok (M := mi_X2_put) (by decide +kernel) hE⟩
set_option maxRecDepth 100000 in
theorem ok_X2_twin : ev_mok (ev_TT.flatten.filter goodWord) (ev_TT.flatten.filter ev_isN) ev_AO0 ev_G0 ev_TY0 ev_pg mi_X2_twin := ev_mchk_ok nd_X2_twin (ev_cin (l := tables_1_4) 4 109 rfl rfl rfl) (by decide +kernel) (by decide +kernel) (by decide +kernel)
set_option maxRecDepth 100000 in
theorem md_X2_twin : cx_md (ev_TT.flatten.filter goodWord) (ev_TT.flatten.filter ev_isN) ev_AO0 ev_G0 ev_TY0 ra0 ev_pg mi_X2_twin := fun pc E hE => ⟨(ok_X2_twin.2.2.2.2.2.2.2 pc E hE).1, (ok_X2_twin.2.2.2.2.2.2.2 pc E hE).2, cx_schk_ok (M := mi_X2_twin) (by decide +kernel) hE⟩
set_option maxRecDepth 100000 in
theorem ok_X3_isOpen : ev_mok (ev_TT.flatten.filter goodWord) (ev_TT.flatten.filter ev_isN) ev_AO0 ev_G0 ev_TY0 ev_pg mi_X3_isOpen := ev_mchk_ok nd_X3_isOpen (ev_cin (l := tables_1_2) 2 112 rfl rfl rfl) (by decide +kernel) (by decide +kernel) (by decide +kernel)
set_option maxRecDepth 100000 in
theorem md_X3_isOpen : cx_md (ev_TT.flatten.filter goodWord) (ev_TT.flatten.filter ev_isN) ev_AO0 ev_G0 ev_TY0 ra0 ev_pg mi_X3_isOpen := fun pc E hE => ⟨(ok_X3_isOpen.2.2.2.2.2.2.2 pc E hE).1, (ok_X3_isOpen.2.2.2.2.2.2.2 pc E hE).2, cx_schk_ok (M := mi_X3_isOpen) (by decide +kernel) hE⟩
set_option maxRecDepth 100000 in
theorem ok_X3_key : ev_mok (ev_TT.flatten.filter goodWord) (ev_TT.flatten.filter ev_isN) ev_AO0 ev_G0 ev_TY0 ev_pg mi_X3_key := ev_mchk_ok nd_X3_key (ev_cin (l := tables_1_3) 3 129 rfl rfl rfl) (by decide +kernel) (by decide +kernel) (by decide +kernel)
set_option maxRecDepth 100000 in
theorem md_X3_key : cx_md (ev_TT.flatten.filter goodWord) (ev_TT.flatten.filter ev_isN) ev_AO0 ev_G0 ev_TY0 ra0 ev_pg mi_X3_key := fun pc E hE => ⟨(ok_X3_key.2.2.2.2.2.2.2 pc E hE).1, (ok_X3_key.2.2.2.2.2.2.2 pc E hE).2, cx_schk_ok (M := mi_X3_key) (by decide +kernel) hE⟩
set_option maxRecDepth 100000 in
theorem ok_X3_letterKey : ev_mok (ev_TT.flatten.filter goodWord) (ev_TT.flatten.filter ev_isN) ev_AO0 ev_G0 ev_TY0 ev_pg mi_X3_letterKey := ev_mchk_ok nd_X3_letterKey (ev_cin (l := tables_1_3) 3 150 rfl rfl rfl) (by decide +kernel) (by decide +kernel) (by decide +kernel)
set_option maxRecDepth 100000 in
theorem md_X3_letterKey : cx_md (ev_TT.flatten.filter goodWord) (ev_TT.flatten.filter ev_isN) ev_AO0 ev_G0 ev_TY0 ra0 ev_pg mi_X3_letterKey := fun pc E hE => ⟨(ok_X3_letterKey.2.2.2.2.2.2.2 pc E hE).1, (ok_X3_letterKey.2.2.2.2.2.2.2 pc E hE).2, cx_schk_ok (M := mi_X3_letterKey) (by decide +kernel) hE⟩
set_option maxRecDepth 100000 in
theorem ok_X3_mix : ev_mok (ev_TT.flatten.filter goodWord) (ev_TT.flatten.filter ev_isN) ev_AO0 ev_G0 ev_TY0 ev_pg mi_X3_mix := ev_mchk_ok nd_X3_mix (ev_cin (l := tables_1_2) 2 93 rfl rfl rfl) (by decide +kernel) (by decide +kernel) (by decide +kernel)
set_option maxRecDepth 100000 in
theorem md_X3_mix : cx_md (ev_TT.flatten.filter goodWord) (ev_TT.flatten.filter ev_isN) ev_AO0 ev_G0 ev_TY0 ra0 ev_pg mi_X3_mix := fun pc E hE => ⟨(ok_X3_mix.2.2.2.2.2.2.2 pc E hE).1, (ok_X3_mix.2.2.2.2.2.2.2 pc E hE).2, cx_schk_ok (M := mi_X3_mix) (by decide +kernel) hE⟩
set_option maxRecDepth 100000 in
theorem ok_X3_nextOf : ev_mok (ev_TT.flatten.filter goodWord) (ev_TT.flatten.filter ev_isN) ev_AO0 ev_G0 ev_TY0 ev_pg mi_X3_nextOf := ev_mchk_ok nd_X3_nextOf (ev_cin (l := tables_1_3) 3 191 rfl rfl rfl) (by decide +kernel) (by decide +kernel) (by decide +kernel)
set_option maxRecDepth 100000 in
theorem md_X3_nextOf : cx_md (ev_TT.flatten.filter goodWord) (ev_TT.flatten.filter ev_isN) ev_AO0 ev_G0 ev_TY0 ra0 ev_pg mi_X3_nextOf := fun pc E hE => ⟨(ok_X3_nextOf.2.2.2.2.2.2.2 pc E hE).1, (ok_X3_nextOf.2.2.2.2.2.2.2 pc E hE).2, cx_schk_ok (M := mi_X3_nextOf) (by decide +kernel) hE⟩
set_option maxRecDepth 100000 in
theorem ok_X3_power : ev_mok (ev_TT.flatten.filter goodWord) (ev_TT.flatten.filter ev_isN) ev_AO0 ev_G0 ev_TY0 ev_pg mi_X3_power := ev_mchk_ok nd_X3_power (ev_cin (l := tables_1_2) 2 109 rfl rfl rfl) (by decide +kernel) (by decide +kernel) (by decide +kernel)
set_option maxRecDepth 100000 in
theorem md_X3_power : cx_md (ev_TT.flatten.filter goodWord) (ev_TT.flatten.filter ev_isN) ev_AO0 ev_G0 ev_TY0 ra0 ev_pg mi_X3_power := fun pc E hE => ⟨(ok_X3_power.2.2.2.2.2.2.2 pc E hE).1, (ok_X3_power.2.2.2.2.2.2.2 pc E hE).2, cx_schk_ok (M := mi_X3_power) (by decide +kernel) hE⟩
set_option maxRecDepth 100000 in
theorem ok_X3_rest : ev_mok (ev_TT.flatten.filter goodWord) (ev_TT.flatten.filter ev_isN) ev_AO0 ev_G0 ev_TY0 ev_pg mi_X3_rest := ev_mchk_ok nd_X3_rest (ev_cin (l := tables_1_2) 2 103 rfl rfl rfl) (by decide +kernel) (by decide +kernel) (by decide +kernel)
set_option maxRecDepth 100000 in
theorem md_X3_rest : cx_md (ev_TT.flatten.filter goodWord) (ev_TT.flatten.filter ev_isN) ev_AO0 ev_G0 ev_TY0 ra0 ev_pg mi_X3_rest := fun pc E hE => ⟨(ok_X3_rest.2.2.2.2.2.2.2 pc E hE).1, (ok_X3_rest.2.2.2.2.2.2.2 pc E hE).2, cx_schk_ok (M := mi_X3_rest) (by decide +kernel) hE⟩
set_option maxRecDepth 100000 in
theorem ok_X3_sealIsRight : ev_mok (ev_TT.flatten.filter goodWord) (ev_TT.flatten.filter ev_isN) ev_AO0 ev_G0 ev_TY0 ev_pg mi_X3_sealIsRight := ev_mchk_ok nd_X3_sealIsRight (ev_cin (l := tables_1_2) 2 203 rfl rfl rfl) (by decide +kernel) (by decide +kernel) (by decide +kernel)
set_option maxRecDepth 100000 in
theorem md_X3_sealIsRight : cx_md (ev_TT.flatten.filter goodWord) (ev_TT.flatten.filter ev_isN) ev_AO0 ev_G0 ev_TY0 ra0 ev_pg mi_X3_sealIsRight := fun pc E hE => ⟨(ok_X3_sealIsRight.2.2.2.2.2.2.2 pc E hE).1, (ok_X3_sealIsRight.2.2.2.2.2.2.2 pc E hE).2, cx_schk_ok (M := mi_X3_sealIsRight) (by decide +kernel) hE⟩
set_option maxRecDepth 100000 in
theorem ok_X3_sealProof : ev_mok (ev_TT.flatten.filter goodWord) (ev_TT.flatten.filter ev_isN) ev_AO0 ev_G0 ev_TY0 ev_pg mi_X3_sealProof := ev_mchk_ok nd_X3_sealProof (ev_cin (l := tables_1_2) 2 151 rfl rfl rfl) (by decide +kernel) (by decide +kernel) (by decide +kernel)
set_option maxRecDepth 100000 in
theorem md_X3_sealProof : cx_md (ev_TT.flatten.filter goodWord) (ev_TT.flatten.filter ev_isN) ev_AO0 ev_G0 ev_TY0 ra0 ev_pg mi_X3_sealProof := fun pc E hE => ⟨(ok_X3_sealProof.2.2.2.2.2.2.2 pc E hE).1, (ok_X3_sealProof.2.2.2.2.2.2.2 pc E hE).2, cx_schk_ok (M := mi_X3_sealProof) (by decide +kernel) hE⟩
set_option maxRecDepth 100000 in
theorem ok_X3_sealSum : ev_mok (ev_TT.flatten.filter goodWord) (ev_TT.flatten.filter ev_isN) ev_AO0 ev_G0 ev_TY0 ev_pg mi_X3_sealSum := ev_mchk_ok nd_X3_sealSum (ev_cin (l := tables_1_2) 2 154 rfl rfl rfl) (by decide +kernel) (by decide +kernel) (by decide +kernel)
set_option maxRecDepth 100000 in
theorem md_X3_sealSum : cx_md (ev_TT.flatten.filter goodWord) (ev_TT.flatten.filter ev_isN) ev_AO0 ev_G0 ev_TY0 ra0 ev_pg mi_X3_sealSum := fun pc E hE => ⟨(ok_X3_sealSum.2.2.2.2.2.2.2 pc E hE).1, (ok_X3_sealSum.2.2.2.2.2.2.2 pc E hE).2, cx_schk_ok (M := mi_X3_sealSum) (by decide +kernel) hE⟩
set_option maxRecDepth 100000 in
theorem ok_X3_secretOf : ev_mok (ev_TT.flatten.filter goodWord) (ev_TT.flatten.filter ev_isN) ev_AO0 ev_G0 ev_TY0 ev_pg mi_X3_secretOf := ev_mchk_ok nd_X3_secretOf (ev_cin (l := tables_1_2) 2 99 rfl rfl rfl) (by decide +kernel) (by decide +kernel) (by decide +kernel)
set_option maxRecDepth 100000 in
theorem md_X3_secretOf : cx_md (ev_TT.flatten.filter goodWord) (ev_TT.flatten.filter ev_isN) ev_AO0 ev_G0 ev_TY0 ra0 ev_pg mi_X3_secretOf := fun pc E hE => ⟨(ok_X3_secretOf.2.2.2.2.2.2.2 pc E hE).1, (ok_X3_secretOf.2.2.2.2.2.2.2 pc E hE).2, cx_schk_ok (M := mi_X3_secretOf) (by decide +kernel) hE⟩
set_option maxRecDepth 100000 in
theorem ok_X3_sum : ev_mok (ev_TT.flatten.filter goodWord) (ev_TT.flatten.filter ev_isN) ev_AO0 ev_G0 ev_TY0 ev_pg mi_X3_sum := ev_mchk_ok nd_X3_sum (ev_cin (l := tables_1_2) 2 225 rfl rfl rfl) (by decide +kernel) (by decide +kernel) (by decide +kernel)
set_option maxRecDepth 100000 in
theorem md_X3_sum : cx_md (ev_TT.flatten.filter goodWord) (ev_TT.flatten.filter ev_isN) ev_AO0 ev_G0 ev_TY0 ra0 ev_pg mi_X3_sum := fun pc E hE => ⟨(ok_X3_sum.2.2.2.2.2.2.2 pc E hE).1, (ok_X3_sum.2.2.2.2.2.2.2 pc E hE).2, cx_schk_ok (M := mi_X3_sum) (by decide +kernel) hE⟩
set_option maxRecDepth 100000 in
theorem ok_X3_sumOfBytes : ev_mok (ev_TT.flatten.filter goodWord) (ev_TT.flatten.filter ev_isN) ev_AO0 ev_G0 ev_TY0 ev_pg mi_X3_sumOfBytes := ev_mchk_ok nd_X3_sumOfBytes (ev_cin (l := tables_1_3) 3 187 rfl rfl rfl) (by decide +kernel) (by decide +kernel) (by decide +kernel)
set_option maxRecDepth 100000 in
theorem md_X3_sumOfBytes : cx_md (ev_TT.flatten.filter goodWord) (ev_TT.flatten.filter ev_isN) ev_AO0 ev_G0 ev_TY0 ra0 ev_pg mi_X3_sumOfBytes := fun pc E hE => ⟨(ok_X3_sumOfBytes.2.2.2.2.2.2.2 pc E hE).1, (ok_X3_sumOfBytes.2.2.2.2.2.2.2 pc E hE).2, cx_schk_ok (M := mi_X3_sumOfBytes) (by decide +kernel) hE⟩
set_option maxRecDepth 100000 in
theorem ok_X3_times : ev_mok (ev_TT.flatten.filter goodWord) (ev_TT.flatten.filter ev_isN) ev_AO0 ev_G0 ev_TY0 ev_pg mi_X3_times := ev_mchk_ok nd_X3_times (ev_cin (l := tables_1_2) 2 116 rfl rfl rfl) (by decide +kernel) (by decide +kernel) (by decide +kernel)
set_option maxRecDepth 100000 in
theorem md_X3_times : cx_md (ev_TT.flatten.filter goodWord) (ev_TT.flatten.filter ev_isN) ev_AO0 ev_G0 ev_TY0 ra0 ev_pg mi_X3_times := fun pc E hE => ⟨(ok_X3_times.2.2.2.2.2.2.2 pc E hE).1, (ok_X3_times.2.2.2.2.2.2.2 pc E hE).2, cx_schk_ok (M := mi_X3_times) (by decide +kernel) hE⟩
set_option maxRecDepth 100000 in
theorem ok_X3_timesModuloQ : ev_mok (ev_TT.flatten.filter goodWord) (ev_TT.flatten.filter ev_isN) ev_AO0 ev_G0 ev_TY0 ev_pg mi_X3_timesModuloQ := ev_mchk_ok nd_X3_timesModuloQ (ev_cin (l := tables_1_2) 2 159 rfl rfl rfl) (by decide +kernel) (by decide +kernel) (by decide +kernel)
set_option maxRecDepth 100000 in
theorem md_X3_timesModuloQ : cx_md (ev_TT.flatten.filter goodWord) (ev_TT.flatten.filter ev_isN) ev_AO0 ev_G0 ev_TY0 ra0 ev_pg mi_X3_timesModuloQ := fun pc E hE => ⟨(ok_X3_timesModuloQ.2.2.2.2.2.2.2 pc E hE).1, (ok_X3_timesModuloQ.2.2.2.2.2.2.2 pc E hE).2, cx_schk_ok (M := mi_X3_timesModuloQ) (by decide +kernel) hE⟩
set_option maxRecDepth 100000 in
theorem ok_X3_veil : ev_mok (ev_TT.flatten.filter goodWord) (ev_TT.flatten.filter ev_isN) ev_AO0 ev_G0 ev_TY0 ev_pg mi_X3_veil := ev_mchk_ok nd_X3_veil (ev_cin (l := tables_1_3) 3 182 rfl rfl rfl) (by decide +kernel) (by decide +kernel) (by decide +kernel)
set_option maxRecDepth 100000 in
theorem md_X3_veil : cx_md (ev_TT.flatten.filter goodWord) (ev_TT.flatten.filter ev_isN) ev_AO0 ev_G0 ev_TY0 ra0 ev_pg mi_X3_veil := fun pc E hE => ⟨(ok_X3_veil.2.2.2.2.2.2.2 pc E hE).1, (ok_X3_veil.2.2.2.2.2.2.2 pc E hE).2, cx_schk_ok (M := mi_X3_veil) (by decide +kernel) hE⟩
set_option maxRecDepth 100000 in
theorem ok_X4_carryOut : ev_mok (ev_TT.flatten.filter goodWord) (ev_TT.flatten.filter ev_isN) ev_AO0 ev_G0 ev_TY0 ev_pg mi_X4_carryOut := ev_mchk_ok nd_X4_carryOut (ev_cin (l := tables_1_4) 4 31 rfl rfl rfl) (by decide +kernel) (by decide +kernel) (by decide +kernel)
set_option maxRecDepth 100000 in
theorem md_X4_carryOut : cx_md (ev_TT.flatten.filter goodWord) (ev_TT.flatten.filter ev_isN) ev_AO0 ev_G0 ev_TY0 ra0 ev_pg mi_X4_carryOut := fun pc E hE => ⟨(ok_X4_carryOut.2.2.2.2.2.2.2 pc E hE).1, (ok_X4_carryOut.2.2.2.2.2.2.2 pc E hE).2, cx_schk_ok (M := mi_X4_carryOut) (by decide +kernel) hE⟩
set_option maxRecDepth 100000 in
theorem ok_X4_countSteps : ev_mok (ev_TT.flatten.filter goodWord) (ev_TT.flatten.filter ev_isN) ev_AO0 ev_G0 ev_TY0 ev_pg mi_X4_countSteps := ev_mchk_ok nd_X4_countSteps (ev_cin (l := tables_1_4) 4 13 rfl rfl rfl) (by decide +kernel) (by decide +kernel) (by decide +kernel)
set_option maxRecDepth 100000 in
theorem md_X4_countSteps : cx_md (ev_TT.flatten.filter goodWord) (ev_TT.flatten.filter ev_isN) ev_AO0 ev_G0 ev_TY0 ra0 ev_pg mi_X4_countSteps := fun pc E hE => ⟨(ok_X4_countSteps.2.2.2.2.2.2.2 pc E hE).1, (ok_X4_countSteps.2.2.2.2.2.2.2 pc E hE).2, cx_schk_ok (M := mi_X4_countSteps) (by decide +kernel) hE⟩
set_option maxRecDepth 100000 in
theorem ok_X4_init : ev_mok (ev_TT.flatten.filter goodWord) (ev_TT.flatten.filter ev_isN) ev_AO0 ev_G0 ev_TY0 ev_pg mi_X4_init := ev_mchk_ok nd_X4_init (ev_cin (l := tables_1_1) 1 96 rfl rfl rfl) (by decide +kernel) (by decide +kernel) (by decide +kernel)
set_option maxRecDepth 100000 in
theorem md_X4_init : cx_md (ev_TT.flatten.filter goodWord) (ev_TT.flatten.filter ev_isN) ev_AO0 ev_G0 ev_TY0 ra0 ev_pg mi_X4_init := fun pc E hE => ⟨(ok_X4_init.2.2.2.2.2.2.2 pc E hE).1, (ok_X4_init.2.2.2.2.2.2.2 pc E hE).2, cx_schk_ok (M := mi_X4_init) (by decide +kernel) hE⟩
