/-! the walk runs: 0 -/
set_option maxRecDepth 100000 in
theorem w_g0 : w_g (nat_lit 0) = true := by decide +kernel
theorem w_r1 : w_rg 1 := w_rg_s (n := 0) w_rg_0 w_g0
set_option maxRecDepth 100000 in
theorem w_g1 : w_g (nat_lit 1) = true := by decide +kernel
theorem w_r2 : w_rg 2 := w_rg_s (n := 1) w_r1 w_g1
set_option maxRecDepth 100000 in
theorem w_g2 : w_g (nat_lit 2) = true := by decide +kernel
theorem w_r3 : w_rg 3 := w_rg_s (n := 2) w_r2 w_g2
set_option maxRecDepth 100000 in
theorem w_g3 : w_g (nat_lit 3) = true := by decide +kernel
theorem w_r4 : w_rg 4 := w_rg_s (n := 3) w_r3 w_g3
set_option maxRecDepth 100000 in
theorem w_g4 : w_g (nat_lit 4) = true := by decide +kernel
theorem w_r5 : w_rg 5 := w_rg_s (n := 4) w_r4 w_g4
set_option maxRecDepth 100000 in
theorem w_g5 : w_g (nat_lit 5) = true := by decide +kernel
theorem w_r6 : w_rg 6 := w_rg_s (n := 5) w_r5 w_g5
set_option maxRecDepth 100000 in
theorem w_g6 : w_g (nat_lit 6) = true := by decide +kernel
theorem w_r7 : w_rg 7 := w_rg_s (n := 6) w_r6 w_g6
set_option maxRecDepth 100000 in
theorem w_g7 : w_g (nat_lit 7) = true := by decide +kernel
theorem w_r8 : w_rg 8 := w_rg_s (n := 7) w_r7 w_g7
set_option maxRecDepth 100000 in
theorem w_g8 : w_g (nat_lit 8) = true := by decide +kernel
theorem w_r9 : w_rg 9 := w_rg_s (n := 8) w_r8 w_g8
set_option maxRecDepth 100000 in
theorem w_g9 : w_g (nat_lit 9) = true := by decide +kernel
theorem w_r10 : w_rg 10 := w_rg_s (n := 9) w_r9 w_g9
set_option maxRecDepth 100000 in
theorem w_g10 : w_g (nat_lit 10) = true := by decide +kernel
theorem w_r11 : w_rg 11 := w_rg_s (n := 10) w_r10 w_g10
set_option maxRecDepth 100000 in
theorem w_g11 : w_g (nat_lit 11) = true := by decide +kernel
theorem w_r12 : w_rg 12 := w_rg_s (n := 11) w_r11 w_g11
set_option maxRecDepth 100000 in
theorem w_g12 : w_g (nat_lit 12) = true := by decide +kernel
theorem w_r13 : w_rg 13 := w_rg_s (n := 12) w_r12 w_g12
set_option maxRecDepth 100000 in
theorem w_g13 : w_g (nat_lit 13) = true := by decide +kernel
