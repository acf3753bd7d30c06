/-! the program as tables: an instruction with its length and what its pool number stands for; a method: name, bytes, locals, answer, instructions, sort (0 static, 1 of an object, 2 a constructor; 10 and more: any long is its answer), parameters, its room -/
abbrev ev_E : Type := Instr × Nat × Nat × Nat × Int
abbrev ev_M : Type := MethodName × ByteArray × Nat × Option FieldType × List (List ev_E) × Nat × Nat × Nat × Nat × Nat × Nat
def ev_mN (M : ev_M) : MethodName := M.1
def ev_mB (M : ev_M) : ByteArray := M.2.1
def ev_mL (M : ev_M) : Nat := M.2.2.1
def ev_mR (M : ev_M) : Option FieldType := M.2.2.2.1
def ev_mC (M : ev_M) : List (List ev_E) := M.2.2.2.2.1
def ev_mK (M : ev_M) : Nat := M.2.2.2.2.2.1
def ev_mP (M : ev_M) : Nat := M.2.2.2.2.2.2.1
def ev_mF (M : ev_M) : Nat := M.2.2.2.2.2.2.2.1
def ev_mO (M : ev_M) : Nat := M.2.2.2.2.2.2.2.2.1
def ev_mY (M : ev_M) : Nat := M.2.2.2.2.2.2.2.2.2.1
def ev_mS (M : ev_M) : Nat := M.2.2.2.2.2.2.2.2.2.2
def ev_at (M : ev_M) (pc : Nat) : Option ev_E := match ev_nth (ev_mC M) (pc / 32) with
  | some ch => (match ev_nth ch (pc % 32) with
    | some E => if E.2.1 == 0 then none else some E
    | none => none)
  | none => none
abbrev ev_F : Type := ev_M × Nat × List (Nat × ev_A) × List ev_A × Nat × Nat
abbrev ev_S : Type := List ev_F × ev_Q × List ev_A
abbrev ev_H : Type := Option (List (ev_Q × List ev_A × List ev_A × Nat × Nat))
/-- how many users an object has, by the script's first int as far as it is known -/
def ev_us (sg : List ev_A) : Nat := match ev_nth sg 1 with
  | some a => if a.2.2 ≤ 2 then 2 else if 6 ≤ a.2.1 then 6 else a.2.1.toNat
  | none => 0
def ev_okU (sg : List ev_A) (j : Nat) : Bool := match ev_nth sg (j + 1) with
  | some a => decide (0 ≤ a.2.1) && decide (a.2.2 < (ev_us sg : Int))
  | none => false
def ev_okP (sg : List ev_A) : Bool := ev_okU sg 3 && ev_okU sg 4 && !decide (ev_nth sg 4 = ev_nth sg 5)
def ev_rg (n : Nat) : List Int := match n with
  | 2 => [0, 1, 2]
  | 3 => [0, 1, 2, 3]
  | 4 => [0, 1, 2, 3, 4]
  | 5 => [0, 1, 2, 3, 4, 5]
  | _ => [0, 1, 2, 3, 4, 5, 6]
/-- where an int of the script is cut, when it is read: by the number that the reading instruction has, by its place, by what is known -/
def ev_cuts (v j : Nat) (sg : List ev_A) : List Int := match v with
  | 1 => if j == 0 then [2, 3, 4, 5, 6, 7] else []
  | 2 => ev_rg (ev_us sg)
  | 8 => if ev_okU sg 3 then ev_rg (ev_us sg) else []
  | 3 => if ev_okU sg 3 then [0, 1, 2, 3, 4, 5, 6, 7, 8] else []
  | 9 => [0, 1, 2, 3, 4, 5]
  | 6 => if ev_okU sg 3 then [1, 13] else []
  | 4 => if ev_okP sg then [-1, 0] else []
  | 5 => if ev_okP sg && decide (ev_nth sg 6 = some (0, -1, -1)) then [0, 1] else []
  | 7 => [0]
  | 10 => if ev_okP sg then [0] else []
  | _ => []
/-- what the program's tables are made of: classes, array sorts, blank objects -/
abbrev ev_G : Type := List vw_C × List FieldType × List ev_C
def ev_hget (E : ev_E) (h : ev_Q) (sg st : List ev_A) (bc bs : Nat) : ev_H := match st with
  | (t, z, _) :: r => if t == 2 then (match ev_hg h z.toNat with
    | some c => if c.1 == E.2.2.1 then some [(h, sg, ev_cg c E.2.2.2.1 :: r, bc, bs)] else none
    | none => none) else none
  | [] => none
def ev_hput (E : ev_E) (h : ev_Q) (sg st : List ev_A) (bc bs : Nat) : ev_H := match st with
  | a :: (t, z, _) :: r => if t == 2 && ev_fit E.2.2.2.2.toNat a then (match ev_hg h z.toNat with
    | some c => if c.1 == E.2.2.1 then some [(ev_hs h z.toNat (ev_cs c E.2.2.2.1 a), sg, r, bc, bs)] else none
    | none => none) else none
  | _ => none
def ev_hnew (G : ev_G) (E : ev_E) (h : ev_Q) (sg st : List ev_A) (bc bs : Nat) : ev_H := match ev_nth G.2.2 E.2.2.1 with
  | some c => if 1 ≤ bc ∧ c.2.1 ≤ bs then (match ev_ha h c with
    | some h' => some [(h', sg, (2, (h.1 : Int), 0) :: st, bc - 1, bs - c.2.1)]
    | none => none) else none
  | none => none
def ev_hnwa (d : ev_A) (E : ev_E) (h : ev_Q) (sg st : List ev_A) (bc bs : Nat) : ev_H := match st with
  | a :: r => (match ev_idx a with
    | some n => if 1 ≤ bc ∧ n ≤ bs ∧ n ≤ 60000 then (match ev_ha h (100 + E.2.2.1, n, d, []) with
      | some h' => some [(h', sg, (2, (h.1 : Int), 0) :: r, bc - 1, bs - n)]
      | none => none) else none
    | none => none)
  | [] => none
def ev_hlen (h : ev_Q) (sg st : List ev_A) (bc bs : Nat) : ev_H := match st with
  | (t, z, _) :: r => if t == 2 then (match ev_hg h z.toNat with
    | some c => if 100 ≤ c.1 ∧ c.2.1 ≤ 60000 then some [(h, sg, ev_I c.2.1 :: r, bc, bs)] else none
    | none => none) else if t == 4 then (match sg with
      | a :: _ => some [(h, sg, a :: r, bc, bs)]
      | [] => none) else none
  | [] => none
def ev_hald (G : ev_G) (ok : FieldType → Bool) (h : ev_Q) (sg st : List ev_A) (bc bs : Nat) : ev_H := match st with
  | a :: (t, z, _) :: r => (match ev_idx a with
    | some j => if t == 2 then (match ev_hg h z.toNat with
      | some c => if 100 ≤ c.1 ∧ j < c.2.1 ∧ (match ev_nth G.2.1 (c.1 - 100) with
          | some ty => ok ty
          | none => false) = true then some [(h, sg, ev_cg c j :: r, bc, bs)] else none
      | none => none) else none
    | none => none)
  | _ => none
/-- an int of the script -/
def ev_hsld (E : ev_E) (h : ev_Q) (sg st : List ev_A) (bc bs : Nat) : ev_H := match st with
  | a :: (t, _, _) :: r => (match ev_idx a with
    | some j => if t == 4 then (match sg with
      | (t0, l0, _) :: _ => if t0 == 0 && decide ((j : Int) < l0) then (match ev_nth sg (j + 1) with
        | some (t1, l1, h1) => if t1 == 0 then some ((ev_cut l1 h1 (ev_cuts E.2.2.2.1 j sg)).map fun a => (h, sg.set (j + 1) a, a :: r, bc, bs)) else none
        | none => none) else none
      | [] => none) else none
    | none => none)
  | _ => none
def ev_hast (G : ev_G) (ok : FieldType → Bool) (f : Nat) (h : ev_Q) (sg st : List ev_A) (bc bs : Nat) : ev_H := match st with
  | a :: x :: (t, z, _) :: r => (match ev_idx x with
    | some j => if t == 2 && ev_fit f a then (match ev_hg h z.toNat with
      | some c => if 100 ≤ c.1 ∧ j < c.2.1 ∧ (match ev_nth G.2.1 (c.1 - 100) with
          | some ty => ok ty
          | none => false) = true then some [(ev_hs h z.toNat (ev_cs c j a), sg, r, bc, bs)] else none
      | none => none) else none
    | none => none)
  | _ => none
/-- null, or an object of this class -/
def ev_isO (G : ev_G) (h : ev_Q) (a : ev_A) (n : String) : Bool := a.1 == 3 || (a.1 == 2 && (match ev_hg h a.2.1.toNat with
  | some c => (match ev_nth G.1 c.1 with
    | some r => r.1 == n
    | none => false)
  | none => false))
def ev_haas (G : ev_G) (h : ev_Q) (sg st : List ev_A) (bc bs : Nat) : ev_H := match st with
  | a :: x :: (t, z, _) :: r => (match ev_idx x with
    | some j => if t == 2 then (match ev_hg h z.toNat with
      | some c => if 100 ≤ c.1 ∧ j < c.2.1 ∧ (match ev_nth G.2.1 (c.1 - 100) with
          | some (.object n) => ev_isO G h a n
          | _ => false) = true then some [(ev_hs h z.toNat (ev_cs c j a), sg, r, bc, bs)] else none
      | none => none) else none
    | none => none)
  | _ => none
def ev_sz (st : List ev_A) : Nat := (st.map fun a => if a.1 == 1 then 2 else 1).sum
def ev_hobj (M : ev_M) (h : ev_Q) (sg st : List ev_A) (bc bs : Nat) : ev_H := match st with
  | (t, _, _) :: r => if t == 2 && decide (1 ≤ ev_mF M) && decide (ev_sz r + 12 ≤ ev_mO M) then some [(h, sg, r, bc, bs)] else none
  | [] => none
/-- the greater, the lesser of two ints, by the JDK's own methods -/
def ev_mx (l1 h1 l2 h2 : Int) : ev_A := (0, if l1 < l2 then l2 else l1, if h1 < h2 then h2 else h1)
def ev_mn (l1 h1 l2 h2 : Int) : ev_A := (0, if l2 < l1 then l2 else l1, if h2 < h1 then h2 else h1)
def ev_hmm (f : Int → Int → Int → Int → ev_A) (M : ev_M) (h : ev_Q) (sg st : List ev_A) (bc bs : Nat) : ev_H := match st with
  | (t2, l2, h2) :: (t1, l1, h1) :: r => if t1 == 0 && t2 == 0 && decide (1 ≤ ev_mF M) && decide (ev_sz r + 13 ≤ ev_mO M) then some [(h, sg, f l1 h1 l2 h2 :: r, bc, bs)] else none
  | _ => none
def ev_tyI (ty : FieldType) : Bool := match ty with
  | .int => true
  | _ => false
def ev_tyJ (ty : FieldType) : Bool := match ty with
  | .long => true
  | _ => false
def ev_tyZ (ty : FieldType) : Bool := match ty with
  | .boolean => true
  | _ => false
def ev_tyO (ty : FieldType) : Bool := match ty with
  | .object _ => true
  | _ => false
def ev_or (x y : ev_H) : ev_H := match x with
  | some r => some r
  | none => y
/-- steps that look into the heap, or change it -/
def ev_hp (G : ev_G) (M : ev_M) (E : ev_E) (h : ev_Q) (sg st : List ev_A) (bc bs : Nat) : ev_H := match E.1 with
  | .getfield _ => if E.2.1 == 3 then ev_hget E h sg st bc bs else none
  | .putfield _ => if E.2.1 == 3 then ev_hput E h sg st bc bs else none
  | .new _ => if E.2.1 == 3 then ev_hnew G E h sg st bc bs else none
  | .newarray at_ => if E.2.1 == 2 then ev_hnwa (ev_df (newarray.typeOf at_)) E h sg st bc bs else none
  | .anewarray _ => if E.2.1 == 3 then ev_hnwa (3, 0, 0) E h sg st bc bs else none
  | .arraylength => if E.2.1 == 1 then ev_hlen h sg st bc bs else none
  | .iaload => if E.2.1 == 1 then ev_or (ev_hald G ev_tyI h sg st bc bs) (ev_hsld E h sg st bc bs) else none
  | .laload => if E.2.1 == 1 then ev_hald G ev_tyJ h sg st bc bs else none
  | .baload => if E.2.1 == 1 then ev_hald G ev_tyZ h sg st bc bs else none
  | .aaload => if E.2.1 == 1 then ev_hald G ev_tyO h sg st bc bs else none
  | .iastore => if E.2.1 == 1 then ev_hast G ev_tyI 0 h sg st bc bs else none
  | .lastore => if E.2.1 == 1 then ev_hast G ev_tyJ 1 h sg st bc bs else none
  | .bastore => if E.2.1 == 1 then ev_hast G ev_tyZ 2 h sg st bc bs else none
  | .aastore => if E.2.1 == 1 then ev_haas G h sg st bc bs else none
  | .ldc _ => if E.2.1 == 2 then some [(h, sg, ev_I (Int32.ofInt E.2.2.2.2).toInt :: st, bc, bs)] else none
  | .ldc2_w _ => if E.2.1 == 3 then some [(h, sg, ev_J (Int64.ofInt E.2.2.2.2).toInt :: st, bc, bs)] else none
  | .invokestatic _ => if E.2.1 == 3 && E.2.2.1 == 998 then ev_hmm ev_mx M h sg st bc bs else if E.2.1 == 3 && E.2.2.1 == 997 then ev_hmm ev_mn M h sg st bc bs else none
  | .invokespecial _ => if E.2.1 == 3 && E.2.2.1 == 999 then ev_hobj M h sg st bc bs else none
  | _ => none
/-- the locals that a method begins with -/
def ev_args : Nat → List ev_A → List (Nat × ev_A)
  | _, [] => []
  | i, a :: as => (i, a) :: ev_args (if a.1 == 1 then i + 2 else i + 1) as
def ev_recv (h : ev_Q) (ci : Nat) (as : List ev_A) : Bool := match as with
  | (t, z, _) :: _ => t == 2 && (match ev_hg h z.toNat with
    | some c => c.1 == ci
    | none => false)
  | [] => false
def ev_isR (as : List ev_A) : Bool := match as with
  | (t, _, _) :: _ => t == 2
  | [] => false
def ev_cok (sort : Nat) (E : ev_E) (M M' : ev_M) (h : ev_Q) (as r : List ev_A) (bc bs : Nat) : Bool :=
  E.2.1 == 3 && ev_mK M' % 10 == sort && as.length == (if sort == 0 then ev_mP M' else ev_mP M' + 1) && (match sort with
    | 0 => true
    | 1 => ev_recv h E.2.2.2.1 as
    | _ => ev_isR as) && decide (ev_sz as ≤ ev_mL M') && decide (ev_sz r ≤ 8) && decide (ev_mF M' + 1 ≤ ev_mF M) && decide (8 + (ev_mL M' + 11) + ev_mO M' ≤ ev_mO M) && decide (ev_mY M' ≤ bc) && decide (ev_mS M' ≤ bs)
def ev_cl (PG : List ev_M) (sort : Nat) (E : ev_E) (M : ev_M) (pc : Nat) (lv : List (Nat × ev_A)) (st : List ev_A) (bc bs : Nat) (fs : List ev_F) (h : ev_Q) (sg : List ev_A) : Option (List ev_S) := match ev_nth PG E.2.2.1 with
  | some M' => if ev_cok sort E M M' h (st.take (if sort == 0 then ev_mP M' else ev_mP M' + 1)).reverse (st.drop (if sort == 0 then ev_mP M' else ev_mP M' + 1)) bc bs then
      (if ev_mK M' < 10 then some [((M', 0, ev_args 0 (st.take (if sort == 0 then ev_mP M' else ev_mP M' + 1)).reverse, [], ev_mY M', ev_mS M') :: (M, pc + 3, lv, st.drop (if sort == 0 then ev_mP M' else ev_mP M' + 1), bc - ev_mY M', bs - ev_mS M') :: fs, h, sg)]
       else if (st.take (if sort == 0 then ev_mP M' else ev_mP M' + 1)).all (fun a => a.1 == 1) then some [((M, pc + 3, lv, ev_tL :: st.drop (if sort == 0 then ev_mP M' else ev_mP M' + 1), bc - ev_mY M', bs - ev_mS M') :: fs, h, sg)] else none) else none
  | none => none
/-- behind a return -/
def ev_back (fin : Option ev_A → ev_Q → Bool) (a : Option ev_A) (fs : List ev_F) (h : ev_Q) (sg : List ev_A) : Option (List ev_S) := match fs with
  | [] => if fin a h then some [] else none
  | (M, pc, lv, st, bc, bs) :: fs' => some [((M, pc, lv, a.toList ++ st, bc, bs) :: fs', h, sg)]
/-- may a method of this answer return this? -/
def ev_rok (E : ev_E) (M : ev_M) (st : List ev_A) : Option (Option ev_A) := match E.1 with
  | .return_ => (match st, ev_mR M with
    | [], none => some none
    | _, _ => none)
  | .ireturn => (match st, ev_mR M with
    | [a], some ty => if a.1 == 0 && decide (ev_fs ty < 3) && ev_fit (ev_fs ty) a then some (some a) else none
    | _, _ => none)
  | .lreturn => (match st, ev_mR M with
    | [a], some ty => if ev_tyJ ty && a.1 == 1 then some (some a) else none
    | _, _ => none)
  | .areturn => (match st, ev_mR M with
    | [a], some ty => if ev_fs ty == 3 && !(a.1 == 0 || a.1 == 1) then some (some a) else none
    | _, _ => none)
  | _ => none
def ev_next (G : ev_G) (PG : List ev_M) (fin : Option ev_A → ev_Q → Bool) (S : ev_S) : Option (List ev_S) := match S with
  | ([], _, _) => none
  | ((M, pc, lv, st, bc, bs) :: fs, h, sg) => match ev_at M pc with
    | none => none
    | some E => match ev_pure (ev_mL M) E.1 lv st with
      | some (len, lv', st') => if len == E.2.1 then some [((M, pc + len, lv', st', bc, bs) :: fs, h, sg)] else none
      | none => match ev_br pc E.2.1 E.1 st with
        | some L => some (L.map fun q => ((M, q.1, lv, q.2, bc, bs) :: fs, h, sg))
        | none => match ev_hp G M E h sg st bc bs with
          | some L => some (L.map fun q => ((M, pc + E.2.1, lv, q.2.2.1, q.2.2.2.1, q.2.2.2.2) :: fs, q.1, q.2.1))
          | none => match ev_rok E M st with
            | some a => if E.2.1 == 1 then ev_back fin a fs h sg else none
            | none => match E.1 with
              | .invokevirtual _ => ev_cl PG 1 E M pc lv st bc bs fs h sg
              | .invokestatic _ => ev_cl PG 0 E M pc lv st bc bs fs h sg
              | .invokespecial _ => ev_cl PG 2 E M pc lv st bc bs fs h sg
              | _ => none
def ev_run (G : ev_G) (PG : List ev_M) (fin : Option ev_A → ev_Q → Bool) (stop : ev_S → Bool) : Nat → ev_S → Bool
  | 0, _ => false
  | n + 1, S => if stop S then true else match ev_next G PG fin S with
    | none => false
    | some L => L.all (ev_run G PG fin stop n)
