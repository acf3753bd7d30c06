def sg_z0 : List ev_A := [(0, 0, 0)]
set_option maxRecDepth 1000000 in
theorem rn_z0 : fx_run ev_G0 ev_pg ev_fin1 ev_nostop 3000 ([(mi_L_law, 0, [(0, (4, 0, 0))], [], 600000, 7302249)], (0, []), sg_z0) = true := by decide +kernel
def sg_z1 : List ev_A := [(0, 1, 1), (0, -2147483648, 2147483647)]
set_option maxRecDepth 1000000 in
theorem rn_z1 : fx_run ev_G0 ev_pg ev_fin1 ev_nostop 3000 ([(mi_L_law, 0, [(0, (4, 0, 0))], [], 600000, 7302249)], (0, []), sg_z1) = true := by decide +kernel
def sg_z2 : List ev_A := [(0, 2, 7), (0, -2147483648, 2147483647), (0, -2147483648, 2147483647)]
set_option maxRecDepth 1000000 in
theorem rn_z2 : fx_run ev_G0 ev_pg ev_fin1 ev_nostop 3000 ([(mi_L_law, 0, [(0, (4, 0, 0))], [], 600000, 7302249)], (0, []), sg_z2) = true := by decide +kernel
