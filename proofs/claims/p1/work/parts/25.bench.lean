def ev_fin1 (a : Option ev_A) (_ : ev_Q) : Bool := match a with
  | some x => x.1 == 0 && x.2.1 == 1 && x.2.2 == 1
  | none => false
set_option maxRecDepth 1000000 in
theorem tst_0 : fx_run ev_G0 ev_pg ev_fin1 ev_nostop 3000 ([(mi_L_law, 0, [(0, (4, 0, 0))], [], 600000, 7302250)], (0, []), [(0, 8, 8), (0, 6, 6), ev_tI, ev_tI, ev_tI, ev_tI, ev_tI, ev_tI, ev_tI]) = true := by decide +kernel
