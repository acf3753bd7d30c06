def pt_look : List (Nat × ev_A) → Nat → Option ev_A
  | [], _ => none
  | q :: r, i => bif Nat.beq q.1 i then some q.2 else pt_look r i
def pt_ldI (n i : Nat) (lv : List (Nat × ev_A)) (st : List ev_A) : ev_Z := match pt_look lv i with
  | some a => bif Nat.beq a.1 0 then some (n, lv, a :: st) else none
  | none => none
def pt_hnd (nL : Nat) (ins : Instr) : Option (List (Nat × ev_A) → List ev_A → ev_Z) := match ins with
  | .iload_n k => some (fun lv st => pt_ldI 1 (k : Nat) lv st)
  | .iload k => some (fun lv st => pt_ldI 2 k lv st)
  | .istore_n k => some (fun lv st => ev_stI nL 1 (k : Nat) lv st)
  | .istore k => some (fun lv st => ev_stI nL 2 k lv st)
  | .iadd => some (fun lv st => ev_op2 0 0 ev_add lv st)
  | .isub => some (fun lv st => ev_op2 0 0 ev_sub lv st)
  | .dup => some (fun lv st => ev_dup lv st)
  | .dup2 => some (fun lv st => ev_dup2 lv st)
  | .pop => some (fun lv st => ev_pop lv st)
  | _ => none
def pt_go (nL : Nat) (ins : Instr) (lv : List (Nat × ev_A)) (st : List ev_A) : ev_Z := match pt_hnd nL ins with
  | some f => f lv st
  | none => none
set_option maxRecDepth 1000000 in
theorem bt_0 :  (List.range 20000).all (fun i => (ev_pure 9 (.iload 8) [(3, (0, 1, 1)), (8, (0, (i : Int), (i : Int))), (2, ev_tL)] []).isSome) = true := by decide +kernel
