/-! stub -/
theorem w_r3178 : w_rg 3178 := by sorry
