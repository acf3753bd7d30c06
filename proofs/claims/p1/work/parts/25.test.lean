def ev_fin1 (a : Option ev_A) (_ : List ev_C) : Bool := match a with
  | some x => x.1 == 0 && x.2.1 == 1 && x.2.2 == 1
  | none => false
set_option maxRecDepth 1000000 in
theorem tst_0 : ev_run ev_G0 ev_pg ev_fin1 ev_nostop 800 ([(mi_L_law, 0, [(0, (4, 0, 0))], [], 600000, 7302250)], [], [(0, 0, 0)]) = true := by decide +kernel
