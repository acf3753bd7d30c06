/-- the answer is 1 -/
def ev_fin1 (a : Option ev_A) (_ : ev_Q) : Bool := match a with
  | some x => x.1 == 0 && x.2.1 == 1 && x.2.2 == 1
  | none => false
