set_option maxRecDepth 100000 in
theorem ok_X7_init : ev_mok (ev_TT.flatten.filter goodWord) (ev_TT.flatten.filter ev_isN) ev_AO0 ev_G0 ev_TY0 ev_pg mi_X7_init := ev_mchk_ok nd_X7_init (ev_cin (l := tables_1_1) 1 185 rfl rfl rfl) (by decide +kernel) (by decide +kernel) (by decide +kernel)
set_option maxRecDepth 100000 in
theorem ok_X7_retireAll : ev_mok (ev_TT.flatten.filter goodWord) (ev_TT.flatten.filter ev_isN) ev_AO0 ev_G0 ev_TY0 ev_pg mi_X7_retireAll := ev_mchk_ok nd_X7_retireAll (ev_cin (l := tables_1_3) 3 202 rfl rfl rfl) (by decide +kernel) (by decide +kernel) (by decide +kernel)
set_option maxRecDepth 100000 in
theorem ok_X8_init : ev_mok (ev_TT.flatten.filter goodWord) (ev_TT.flatten.filter ev_isN) ev_AO0 ev_G0 ev_TY0 ev_pg mi_X8_init := ev_mchk_ok nd_X8_init (ev_cin (l := tables_1_2) 2 130 rfl rfl rfl) (by decide +kernel) (by decide +kernel) (by decide +kernel)
set_option maxRecDepth 100000 in
theorem okd_L_law : ∀ (pc : Nat) (E : ev_E), ev_at mi_L_law pc = some E → decode (ev_mB mi_L_law) pc = .ok (E.1, E.2.1) ∧ ev_lok (ev_TT.flatten.filter goodWord) (ev_TT.flatten.filter ev_isN) ev_AO0 ev_G0 ev_TY0 ev_pg (ev_mN mi_L_law).cls (ev_mK mi_L_law) E := ev_dchk_ok nd_L_law (by decide +kernel) (by decide +kernel)
