section
/-! An abstract machine over intervals: numbers as intervals, references as places in a list of cells. Values. -/
abbrev ev_A : Type := Nat × Int × Int
/-- what a value may be: 0 an int, 1 a long (between two bounds), 2 the cell at a place, 3 null, else the script -/
def ev_g (B b : Nat) (v : Value) (a : ev_A) : Prop := match a.1 with
  | 0 => ∃ x : Int32, v = .int x ∧ a.2.1 ≤ x.toInt ∧ x.toInt ≤ a.2.2
  | 1 => ∃ x : Int64, v = .long x ∧ a.2.1 ≤ x.toInt ∧ x.toInt ≤ a.2.2
  | 2 => v = .ref (B + a.2.1.toNat)
  | 3 => v = .null
  | _ => v = .ref b
def ev_g1 (B b : Nat) : List Value → List ev_A → Prop
  | [], [] => True
  | v :: vs, a :: as => ev_g B b v a ∧ ev_g1 B b vs as
  | _, _ => False
def ev_g2 (B b : Nat) : List (Nat × Value) → List (Nat × ev_A) → Prop
  | [], [] => True
  | v :: vs, a :: as => (v.1 = a.1 ∧ ev_g B b v.2 a.2) ∧ ev_g2 B b vs as
  | _, _ => False
def ev_look : List (Nat × ev_A) → Nat → Option ev_A
  | [], _ => none
  | q :: r, i => if q.1 == i then some q.2 else ev_look r i
theorem ev_look_ok {B b : Nat} : ∀ {clv : List (Nat × Value)} {lv : List (Nat × ev_A)} {i : Nat} {a : ev_A}, ev_g2 B b clv lv → ev_look lv i = some a → ∃ (k : Nat) (v : Value), clv[k]? = some (i, v) ∧ ev_g B b v a
  | [], [], _, _, _, h => by simp [ev_look] at h
  | [], _ :: _, _, _, h, _ => h.elim
  | _ :: _, [], _, _, h, _ => h.elim
  | (j, v) :: vs, (j', a') :: as, i, a, h, hl => by
    obtain ⟨⟨h1, h2⟩, h3⟩ := h
    dsimp only at h1 h2
    simp only [ev_look] at hl
    split at hl
    · rename_i hj
      have hj' : j' = i := by simpa using hj
      cases hl
      exact ⟨0, v, by simp [h1, hj'], h2⟩
    · obtain ⟨k, w, e1, e2⟩ := ev_look_ok h3 hl
      exact ⟨k + 1, w, by simpa using e1, e2⟩
theorem ev_cat {B b : Nat} {v : Value} {a : ev_A} (h : ev_g B b v a) : (v.category == 2) = (a.1 == 1) := by
  obtain ⟨t, lo, hi⟩ := a
  unfold ev_g at h
  split at h
  · obtain ⟨x, rfl, -⟩ := h; simp_all [Value.category]
  · obtain ⟨x, rfl, -⟩ := h; simp_all [Value.category]
  · subst h; simp_all [Value.category]
  · subst h; simp_all [Value.category]
  · rename_i h0 h1 h2 h3
    subst h
    simp_all [Value.category]
theorem ev_cat1 {B b : Nat} {v : Value} {a : ev_A} (h : ev_g B b v a) (ha : (a.1 == 1) = false) : v.category = 1 := by
  have := ev_cat h
  rw [ha] at this
  rcases lv_cat v with q | q
  · exact q
  · rw [q] at this; simp at this
theorem ev_cat2 {B b : Nat} {v : Value} {a : ev_A} (h : ev_g B b v a) (ha : (a.1 == 1) = true) : v.category = 2 := by
  have := ev_cat h
  rw [ha] at this
  simpa using this
theorem ev_filter {B b : Nat} {P : Nat × Value → Bool} {P' : Nat × ev_A → Bool} (hP : ∀ c a, c.1 = a.1 → ev_g B b c.2 a.2 → P c = P' a) :
    ∀ {clv : List (Nat × Value)} {lv : List (Nat × ev_A)}, ev_g2 B b clv lv → ev_g2 B b (clv.filter P) (lv.filter P')
  | [], [], _ => trivial
  | [], _ :: _, h => h.elim
  | _ :: _, [], h => h.elim
  | c :: cs, a :: as, h => by
    have ih := ev_filter hP h.2
    have e := hP c a h.1.1 h.1.2
    rw [List.filter_cons, List.filter_cons, e]
    split
    · exact ⟨h.1, ih⟩
    · exact ih
def ev_put1 (lv : List (Nat × ev_A)) (i : Nat) (a : ev_A) : List (Nat × ev_A) := (i, a) :: lv.filter (fun q => !(q.1 == i) && !(q.1 + 1 == i && q.2.1 == 1))
def ev_put2 (lv : List (Nat × ev_A)) (i : Nat) (a : ev_A) : List (Nat × ev_A) := (i, a) :: lv.filter (fun q => !(q.1 == i) && (!(q.1 == i + 1) && !(q.1 + 1 == i && q.2.1 == 1)))
theorem ev_put1_ok {B b : Nat} {clv : List (Nat × Value)} {lv : List (Nat × ev_A)} {i : Nat} {v : Value} {a : ev_A} (h : ev_g2 B b clv lv) (hv : ev_g B b v a) : ev_g2 B b ((i, v) :: clv.filter (fun q => !(q.1 == i) && !(q.1 + 1 == i && q.2.category == 2))) (ev_put1 lv i a) :=
  ⟨⟨rfl, hv⟩, ev_filter (fun c a e1 e2 => by rw [e1, ev_cat e2]) h⟩
theorem ev_put2_ok {B b : Nat} {clv : List (Nat × Value)} {lv : List (Nat × ev_A)} {i : Nat} {v : Value} {a : ev_A} (h : ev_g2 B b clv lv) (hv : ev_g B b v a) : ev_g2 B b ((i, v) :: clv.filter (fun q => !(q.1 == i) && (!(q.1 == i + 1) && !(q.1 + 1 == i && q.2.category == 2)))) (ev_put2 lv i a) :=
  ⟨⟨rfl, hv⟩, ev_filter (fun c a e1 e2 => by rw [e1, ev_cat e2]) h⟩
theorem ev_cons {B b : Nat} {cst : List Value} {a : ev_A} {st : List ev_A} (h : ev_g1 B b cst (a :: st)) : ∃ v vs, cst = v :: vs ∧ ev_g B b v a ∧ ev_g1 B b vs st := by
  cases cst with
  | nil => exact h.elim
  | cons v vs => exact ⟨v, vs, rfl, h.1, h.2⟩
theorem ev_nil {B b : Nat} {cst : List Value} (h : ev_g1 B b cst []) : cst = [] := by
  cases cst with
  | nil => rfl
  | cons v vs => exact h.elim
theorem ev_int {B b : Nat} {v : Value} {l h : Int} (q : ev_g B b v (0, l, h)) : ∃ x : Int32, v = .int x ∧ l ≤ x.toInt ∧ x.toInt ≤ h := q
theorem ev_long {B b : Nat} {v : Value} {l h : Int} (q : ev_g B b v (1, l, h)) : ∃ x : Int64, v = .long x ∧ l ≤ x.toInt ∧ x.toInt ≤ h := q
/-! arithmetic -/
def ev_tI : ev_A := (0, -2147483648, 2147483647)
def ev_tL : ev_A := (1, -9223372036854775808, 9223372036854775807)
def ev_I (n : Int) : ev_A := (0, n, n)
def ev_J (n : Int) : ev_A := (1, n, n)
theorem ev_tI_ok {B b : Nat} (x : Int32) : ev_g B b (.int x) ev_tI := ⟨x, rfl, Int32.minValue_le_toInt x, Int32.toInt_le x⟩
theorem ev_tL_ok {B b : Nat} (x : Int64) : ev_g B b (.long x) ev_tL := ⟨x, rfl, Int64.minValue_le_toInt x, Int64.toInt_le x⟩
theorem ev_I_ok {B b : Nat} (x : Int32) : ev_g B b (.int x) (ev_I x.toInt) := ⟨x, rfl, Int.le_refl _, Int.le_refl _⟩
theorem ev_J_ok {B b : Nat} (x : Int64) : ev_g B b (.long x) (ev_J x.toInt) := ⟨x, rfl, Int.le_refl _, Int.le_refl _⟩
def ev_ib (f : Int32 → Int32 → Int32) (l1 h1 l2 h2 : Int) : ev_A := if l1 = h1 ∧ l2 = h2 then ev_I (f (Int32.ofInt l1) (Int32.ofInt l2)).toInt else ev_tI
theorem ev_one32 {x : Int32} {l h : Int} (h1 : l ≤ x.toInt) (h2 : x.toInt ≤ h) (e : l = h) : x = Int32.ofInt l := by
  have : x.toInt = l := by omega
  rw [← this, Int32.ofInt_toInt]
theorem ev_one64 {x : Int64} {l h : Int} (h1 : l ≤ x.toInt) (h2 : x.toInt ≤ h) (e : l = h) : x = Int64.ofInt l := by
  have : x.toInt = l := by omega
  rw [← this, Int64.ofInt_toInt]
theorem ev_ib_ok {B b : Nat} (f : Int32 → Int32 → Int32) {x y : Int32} {l1 h1 l2 h2 : Int} (a1 : l1 ≤ x.toInt) (a2 : x.toInt ≤ h1) (b1 : l2 ≤ y.toInt) (b2 : y.toInt ≤ h2) : ev_g B b (.int (f x y)) (ev_ib f l1 h1 l2 h2) := by
  unfold ev_ib
  split
  · rename_i h
    rw [ev_one32 a1 a2 h.1, ev_one32 b1 b2 h.2]
    exact ev_I_ok _
  · exact ev_tI_ok _
def ev_lb (f : Int64 → Int64 → Int64) (l1 h1 l2 h2 : Int) : ev_A := if l1 = h1 ∧ l2 = h2 then ev_J (f (Int64.ofInt l1) (Int64.ofInt l2)).toInt else ev_tL
theorem ev_lb_ok {B b : Nat} (f : Int64 → Int64 → Int64) {x y : Int64} {l1 h1 l2 h2 : Int} (a1 : l1 ≤ x.toInt) (a2 : x.toInt ≤ h1) (b1 : l2 ≤ y.toInt) (b2 : y.toInt ≤ h2) : ev_g B b (.long (f x y)) (ev_lb f l1 h1 l2 h2) := by
  unfold ev_lb
  split
  · rename_i h
    rw [ev_one64 a1 a2 h.1, ev_one64 b1 b2 h.2]
    exact ev_J_ok _
  · exact ev_tL_ok _
def ev_ls (f : Int64 → Int32 → Int64) (l1 h1 l2 h2 : Int) : ev_A := if l1 = h1 ∧ l2 = h2 then ev_J (f (Int64.ofInt l1) (Int32.ofInt l2)).toInt else ev_tL
theorem ev_ls_ok {B b : Nat} (f : Int64 → Int32 → Int64) {x : Int64} {y : Int32} {l1 h1 l2 h2 : Int} (a1 : l1 ≤ x.toInt) (a2 : x.toInt ≤ h1) (b1 : l2 ≤ y.toInt) (b2 : y.toInt ≤ h2) : ev_g B b (.long (f x y)) (ev_ls f l1 h1 l2 h2) := by
  unfold ev_ls
  split
  · rename_i h
    rw [ev_one64 a1 a2 h.1, ev_one32 b1 b2 h.2]
    exact ev_J_ok _
  · exact ev_tL_ok _
def ev_add (l1 h1 l2 h2 : Int) : ev_A := if -2147483648 ≤ l1 + l2 ∧ h1 + h2 ≤ 2147483647 then (0, l1 + l2, h1 + h2) else ev_tI
theorem ev_add_ok {B b : Nat} {x y : Int32} {l1 h1 l2 h2 : Int} (a1 : l1 ≤ x.toInt) (a2 : x.toInt ≤ h1) (b1 : l2 ≤ y.toInt) (b2 : y.toInt ≤ h2) : ev_g B b (.int (x + y)) (ev_add l1 h1 l2 h2) := by
  unfold ev_add
  split
  · rename_i h
    have e : (x + y).toInt = x.toInt + y.toInt := by
      rw [Int32.toInt_add, Int.bmod_def]
      split <;> omega
    exact ⟨_, rfl, by dsimp only; rw [e]; omega, by dsimp only; rw [e]; omega⟩
  · exact ev_tI_ok _
def ev_sub (l1 h1 l2 h2 : Int) : ev_A := if -2147483648 ≤ l1 - h2 ∧ h1 - l2 ≤ 2147483647 then (0, l1 - h2, h1 - l2) else ev_tI
theorem ev_sub_ok {B b : Nat} {x y : Int32} {l1 h1 l2 h2 : Int} (a1 : l1 ≤ x.toInt) (a2 : x.toInt ≤ h1) (b1 : l2 ≤ y.toInt) (b2 : y.toInt ≤ h2) : ev_g B b (.int (x - y)) (ev_sub l1 h1 l2 h2) := by
  unfold ev_sub
  split
  · rename_i h
    have e : (x - y).toInt = x.toInt - y.toInt := by
      rw [Int32.toInt_sub, Int.bmod_def]
      split <;> omega
    exact ⟨_, rfl, by dsimp only; rw [e]; omega, by dsimp only; rw [e]; omega⟩
  · exact ev_tI_ok _
/-- which sign a comparison of two longs has -/
def ev_cmp (l1 h1 l2 h2 : Int) : ev_A := if h1 < l2 then ev_I (-1) else if h2 < l1 then ev_I 1 else if l1 = h1 ∧ l2 = h2 ∧ l1 = l2 then ev_I 0 else (0, -1, 1)
theorem ev_cmp_ok {B b : Nat} {x y : Int64} {l1 h1 l2 h2 : Int} (a1 : l1 ≤ x.toInt) (a2 : x.toInt ≤ h1) (b1 : l2 ≤ y.toInt) (b2 : y.toInt ≤ h2) : ev_g B b (.int (lg_cmp x y)) (ev_cmp l1 h1 l2 h2) := by
  have gt : (x > y) ↔ y.toInt < x.toInt := Int64.lt_iff_toInt_lt
  have eq : (x = y) ↔ x.toInt = y.toInt := Int64.toInt_inj.symm
  unfold lg_cmp
  by_cases q1 : x > y
  · rw [if_pos q1]
    have q := gt.mp q1
    unfold ev_cmp
    rw [if_neg (by omega)]
    split
    · exact ⟨1, rfl, by decide, by decide⟩
    · rw [if_neg (by omega)]
      exact ⟨1, rfl, by decide, by decide⟩
  · rw [if_neg q1]
    have q := mt gt.mpr q1
    by_cases q2 : x = y
    · rw [if_pos q2]
      have q' := eq.mp q2
      unfold ev_cmp
      rw [if_neg (by omega), if_neg (by omega)]
      split
      · exact ⟨0, rfl, by decide, by decide⟩
      · exact ⟨0, rfl, by decide, by decide⟩
    · rw [if_neg q2]
      have q' := mt eq.mpr q2
      unfold ev_cmp
      split
      · exact ⟨-1, rfl, by decide, by decide⟩
      · rw [if_neg (by omega), if_neg (by omega)]
        exact ⟨-1, rfl, by decide, by decide⟩
def ev_i2l (l h : Int) : ev_A := (1, l, h)
theorem ev_i2l_ok {B b : Nat} {x : Int32} {l h : Int} (a1 : l ≤ x.toInt) (a2 : x.toInt ≤ h) : ev_g B b (.long x.toInt64) (ev_i2l l h) := ⟨_, rfl, by rw [Int32.toInt_toInt64]; exact a1, by rw [Int32.toInt_toInt64]; exact a2⟩
def ev_l2i (l h : Int) : ev_A := if l = h then ev_I (Int64.ofInt l).toInt32.toInt else ev_tI
theorem ev_l2i_ok {B b : Nat} {x : Int64} {l h : Int} (a1 : l ≤ x.toInt) (a2 : x.toInt ≤ h) : ev_g B b (.int x.toInt32) (ev_l2i l h) := by
  unfold ev_l2i
  split
  · rename_i e
    rw [ev_one64 a1 a2 e]
    exact ev_I_ok _
  · exact ev_tI_ok _
end
section
/-! steps that touch locals and stack alone -/
abbrev ev_Z : Type := Option (Nat × List (Nat × ev_A) × List ev_A)
def ev_ldI (n i : Nat) (lv : List (Nat × ev_A)) (st : List ev_A) : ev_Z := match ev_look lv i with
  | some a => if a.1 == 0 then some (n, lv, a :: st) else none
  | none => none
def ev_ldL (n i : Nat) (lv : List (Nat × ev_A)) (st : List ev_A) : ev_Z := match ev_look lv i with
  | some a => if a.1 == 1 then some (n, lv, a :: st) else none
  | none => none
def ev_ldA (n i : Nat) (lv : List (Nat × ev_A)) (st : List ev_A) : ev_Z := match ev_look lv i with
  | some a => if a.1 == 0 || a.1 == 1 then none else some (n, lv, a :: st)
  | none => none
def ev_stI (nL n i : Nat) (lv : List (Nat × ev_A)) (st : List ev_A) : ev_Z := match st with
  | a :: r => if a.1 == 0 && decide (i < nL) then some (n, ev_put1 lv i a, r) else none
  | [] => none
def ev_stL (nL n i : Nat) (lv : List (Nat × ev_A)) (st : List ev_A) : ev_Z := match st with
  | a :: r => if a.1 == 1 && decide (i + 1 < nL) then some (n, ev_put2 lv i a, r) else none
  | [] => none
def ev_stA (nL n i : Nat) (lv : List (Nat × ev_A)) (st : List ev_A) : ev_Z := match st with
  | a :: r => if !(a.1 == 0 || a.1 == 1) && decide (i < nL) then some (n, ev_put1 lv i a, r) else none
  | [] => none
def ev_op1 (t : Nat) (f : Int → Int → ev_A) (lv : List (Nat × ev_A)) (st : List ev_A) : ev_Z := match st with
  | (t1, l1, h1) :: r => if t1 == t then some (1, lv, f l1 h1 :: r) else none
  | _ => none
def ev_op2 (t u : Nat) (f : Int → Int → Int → Int → ev_A) (lv : List (Nat × ev_A)) (st : List ev_A) : ev_Z := match st with
  | (t2, l2, h2) :: (t1, l1, h1) :: r => if t1 == t && t2 == u then some (1, lv, f l1 h1 l2 h2 :: r) else none
  | _ => none
/-- a divisor that is not 0 -/
def ev_opd (t : Nat) (f : Int → Int → Int → Int → ev_A) (lv : List (Nat × ev_A)) (st : List ev_A) : ev_Z := match st with
  | (t2, l2, h2) :: (t1, l1, h1) :: r => if t1 == t && t2 == t && (decide (0 < l2) || decide (h2 < 0)) then some (1, lv, f l1 h1 l2 h2 :: r) else none
  | _ => none
def ev_dup (lv : List (Nat × ev_A)) (st : List ev_A) : ev_Z := match st with
  | a :: r => if a.1 == 1 then none else some (1, lv, a :: a :: r)
  | _ => none
def ev_dup2 (lv : List (Nat × ev_A)) (st : List ev_A) : ev_Z := match st with
  | a :: r => if a.1 == 1 then some (1, lv, a :: a :: r) else match r with
    | a' :: r' => if a'.1 == 1 then none else some (1, lv, a :: a' :: a :: a' :: r')
    | [] => none
  | [] => none
def ev_inc (nL i : Nat) (n : Int) (lv : List (Nat × ev_A)) (st : List ev_A) : ev_Z := match ev_look lv i with
  | some (t, l, h) => if t == 0 && decide (i < nL) then some (3, ev_put1 lv i (ev_add l h (Int32.ofInt n).toInt (Int32.ofInt n).toInt), st) else none
  | none => none
def ev_pop (lv : List (Nat × ev_A)) (st : List ev_A) : ev_Z := match st with
  | a :: r => if a.1 == 1 then none else some (1, lv, r)
  | _ => none
def ev_pure (nL : Nat) (ins : Instr) (lv : List (Nat × ev_A)) (st : List ev_A) : ev_Z := match ins with
  | .iconst n => some (1, lv, ev_I (Int32.ofInt n).toInt :: st)
  | .bipush n => some (2, lv, ev_I (Int8.ofInt n).toInt32.toInt :: st)
  | .sipush n => some (3, lv, ev_I (Int16.ofInt n).toInt32.toInt :: st)
  | .lconst n => some (1, lv, ev_J (Int64.ofNat (n : Nat)).toInt :: st)
  | .aconst_null => some (1, lv, (3, 0, 0) :: st)
  | .iload_n k => ev_ldI 1 (k : Nat) lv st
  | .iload i => ev_ldI 2 i lv st
  | .istore_n k => ev_stI nL 1 (k : Nat) lv st
  | .istore i => ev_stI nL 2 i lv st
  | .lload_n k => ev_ldL 1 (k : Nat) lv st
  | .lload i => ev_ldL 2 i lv st
  | .lstore_n k => ev_stL nL 1 (k : Nat) lv st
  | .lstore i => ev_stL nL 2 i lv st
  | .aload_n k => ev_ldA 1 (k : Nat) lv st
  | .aload i => ev_ldA 2 i lv st
  | .astore_n k => ev_stA nL 1 (k : Nat) lv st
  | .astore i => ev_stA nL 2 i lv st
  | .iinc i n => ev_inc nL i n lv st
  | .iadd => ev_op2 0 0 ev_add lv st
  | .isub => ev_op2 0 0 ev_sub lv st
  | .imul => ev_op2 0 0 (ev_ib (fun x y => x * y)) lv st
  | .iand => ev_op2 0 0 (ev_ib (fun x y => x &&& y)) lv st
  | .ior => ev_op2 0 0 (ev_ib (fun x y => x ||| y)) lv st
  | .ixor => ev_op2 0 0 (ev_ib (fun x y => x ^^^ y)) lv st
  | .ishl => ev_op2 0 0 (ev_ib (fun x y => x <<< (y &&& 31))) lv st
  | .ishr => ev_op2 0 0 (ev_ib (fun x y => x >>> (y &&& 31))) lv st
  | .iushr => ev_op2 0 0 (ev_ib (fun x y => (x.toUInt32 >>> (y.toUInt32 &&& Int32.toUInt32 31)).toInt32)) lv st
  | .ladd => ev_op2 1 1 (ev_lb (fun x y => x + y)) lv st
  | .lsub => ev_op2 1 1 (ev_lb (fun x y => x - y)) lv st
  | .lmul => ev_op2 1 1 (ev_lb (fun x y => x * y)) lv st
  | .land => ev_op2 1 1 (ev_lb (fun x y => x &&& y)) lv st
  | .lor => ev_op2 1 1 (ev_lb (fun x y => x ||| y)) lv st
  | .lxor => ev_op2 1 1 (ev_lb (fun x y => x ^^^ y)) lv st
  | .lshl => ev_op2 1 0 (ev_ls (fun x y => x <<< (y.toInt64 &&& 63))) lv st
  | .lshr => ev_op2 1 0 (ev_ls (fun x y => x >>> (y.toInt64 &&& 63))) lv st
  | .lushr => ev_op2 1 0 (ev_ls (fun x y => (x.toUInt64 >>> (y.toInt64.toUInt64 &&& Int64.toUInt64 63)).toInt64)) lv st
  | .idiv => ev_opd 0 (ev_ib (fun x y => x / y)) lv st
  | .irem => ev_opd 0 (ev_ib (fun x y => x - x / y * y)) lv st
  | .ldiv => ev_opd 1 (ev_lb (fun x y => x / y)) lv st
  | .lrem => ev_opd 1 (ev_lb (fun x y => x - x / y * y)) lv st
  | .lcmp => ev_op2 1 1 ev_cmp lv st
  | .i2l => ev_op1 0 ev_i2l lv st
  | .l2i => ev_op1 1 ev_l2i lv st
  | .dup => ev_dup lv st
  | .dup2 => ev_dup2 lv st
  | .pop => ev_pop lv st
  | _ => none
theorem ev_op1_inv {t : Nat} {f : Int → Int → ev_A} {lv lv' : List (Nat × ev_A)} {st st' : List ev_A} {len : Nat} (h : ev_op1 t f lv st = some (len, lv', st')) : ∃ l1 h1 r, st = (t, l1, h1) :: r ∧ len = 1 ∧ lv' = lv ∧ st' = f l1 h1 :: r := by
  unfold ev_op1 at h
  split at h
  · split at h
    · rename_i l1 h1 r ht
      cases h
      exact ⟨l1, h1, r, by simp at ht; rw [ht], rfl, rfl, rfl⟩
    · cases h
  · cases h
theorem ev_op2_inv {t u : Nat} {f : Int → Int → Int → Int → ev_A} {lv lv' : List (Nat × ev_A)} {st st' : List ev_A} {len : Nat} (h : ev_op2 t u f lv st = some (len, lv', st')) : ∃ l1 h1 l2 h2 r, st = (u, l2, h2) :: (t, l1, h1) :: r ∧ len = 1 ∧ lv' = lv ∧ st' = f l1 h1 l2 h2 :: r := by
  unfold ev_op2 at h
  split at h
  · split at h
    · rename_i l2 h2 t1 l1 h1 r ht
      cases h
      exact ⟨l1, h1, l2, h2, r, by simp at ht; rw [ht.1, ht.2], rfl, rfl, rfl⟩
    · cases h
  · cases h
theorem ev_opd_inv {t : Nat} {f : Int → Int → Int → Int → ev_A} {lv lv' : List (Nat × ev_A)} {st st' : List ev_A} {len : Nat} (h : ev_opd t f lv st = some (len, lv', st')) : ∃ l1 h1 l2 h2 r, st = (t, l2, h2) :: (t, l1, h1) :: r ∧ (0 < l2 ∨ h2 < 0) ∧ len = 1 ∧ lv' = lv ∧ st' = f l1 h1 l2 h2 :: r := by
  unfold ev_opd at h
  split at h
  · split at h
    · rename_i l2 h2 t1 l1 h1 r ht
      cases h
      simp at ht
      exact ⟨l1, h1, l2, h2, r, by rw [ht.1.1, ht.1.2], ht.2, rfl, rfl, rfl⟩
    · cases h
  · cases h
theorem ev_n0 {y : Int32} {l h : Int} (a1 : l ≤ y.toInt) (a2 : y.toInt ≤ h) (q : 0 < l ∨ h < 0) : ¬ y = 0 := by
  intro e
  subst e
  have : (0 : Int32).toInt = 0 := rfl
  omega
theorem ev_n0L {y : Int64} {l h : Int} (a1 : l ≤ y.toInt) (a2 : y.toInt ≤ h) (q : 0 < l ∨ h < 0) : ¬ y = 0 := by
  intro e
  subst e
  have : (0 : Int64).toInt = 0 := rfl
  omega
theorem ev_isI {B b : Nat} {v : Value} {a : ev_A} (h : ev_g B b v a) (ha : (a.1 == 0) = true) : ∃ x : Int32, v = .int x ∧ a.2.1 ≤ x.toInt ∧ x.toInt ≤ a.2.2 := by
  obtain ⟨t, l, h'⟩ := a
  have : t = 0 := by simpa using ha
  subst this
  exact h
theorem ev_isL {B b : Nat} {v : Value} {a : ev_A} (h : ev_g B b v a) (ha : (a.1 == 1) = true) : ∃ x : Int64, v = .long x ∧ a.2.1 ≤ x.toInt ∧ x.toInt ≤ a.2.2 := by
  obtain ⟨t, l, h'⟩ := a
  have : t = 1 := by simpa using ha
  subst this
  exact h
theorem ev_isA {B b : Nat} {v : Value} {a : ev_A} (h : ev_g B b v a) (ha : (a.1 == 0 || a.1 == 1) = false) : v = .null ∨ ∃ q, v = .ref q := by
  obtain ⟨t, l, h'⟩ := a
  simp at ha
  unfold ev_g at h
  split at h
  · exact absurd (by assumption) ha.1
  · exact absurd (by assumption) ha.2
  · exact Or.inr ⟨_, h⟩
  · exact Or.inl h
  · exact Or.inr ⟨_, h⟩
section EVP
variable {p : Program} {l : Launch} {e : Env} {R : Room} {s : State} {m : MethodId} {args : Array Value} {below : List Frame} {meth : Method} {c : Code} {H : Heap} {locs : List Loc} {cells slots : Nat} {Q : State → Prop}
variable {cc : ByteArray} {pc : Nat} {ls : Array Slot} {B b nL len : Nat} {lv lv' : List (Nat × ev_A)} {st st' : List ev_A} {clv : List (Nat × Value)} {cst : List Value}
theorem ev_r_iload_n {k : Fin 4} (hx : p.tables.exec = Jvm.exec) (hb : c.code = cc) (hd : decode cc pc = .ok (.iload_n k, len)) (hp : ev_ldI 1 (k : Nat) lv st = some (len, lv', st')) (hl : lv_has ls nL clv) (h2 : ev_g2 B b clv lv) (h1 : ev_g1 B b cst st) (kk : ∀ (ls' : Array Slot) (clv' : List (Nat × Value)) (cst' : List Value), lv_has ls' nL clv' → ev_g2 B b clv' lv' → ev_g1 B b cst' st' → W p l e R s m args below meth c H locs cells slots Q (F0 m (pc + len) ls' cst')) : W p l e R s m args below meth c H locs cells slots Q (F0 m pc ls cst) := by
  unfold ev_ldI at hp
  split at hp
  · split at hp
    · rename_i a ha ht
      cases hp
      obtain ⟨z, v, e1, e2⟩ := ev_look_ok h2 ha
      obtain ⟨x, rfl, -⟩ := ev_isI e2 ht
      exact lv_iload_n hx hb hd rfl (lv_at hl z e1) (kk _ _ _ hl h2 ⟨e2, h1⟩)
    · cases hp
  · cases hp
theorem ev_r_iload {i : Nat} (hx : p.tables.exec = Jvm.exec) (hb : c.code = cc) (hd : decode cc pc = .ok (.iload i, len)) (hp : ev_ldI 2 i lv st = some (len, lv', st')) (hl : lv_has ls nL clv) (h2 : ev_g2 B b clv lv) (h1 : ev_g1 B b cst st) (kk : ∀ (ls' : Array Slot) (clv' : List (Nat × Value)) (cst' : List Value), lv_has ls' nL clv' → ev_g2 B b clv' lv' → ev_g1 B b cst' st' → W p l e R s m args below meth c H locs cells slots Q (F0 m (pc + len) ls' cst')) : W p l e R s m args below meth c H locs cells slots Q (F0 m pc ls cst) := by
  unfold ev_ldI at hp
  split at hp
  · split at hp
    · rename_i a ha ht
      cases hp
      obtain ⟨z, v, e1, e2⟩ := ev_look_ok h2 ha
      obtain ⟨x, rfl, -⟩ := ev_isI e2 ht
      exact lv_iload hx hb hd (lv_at hl z e1) (kk _ _ _ hl h2 ⟨e2, h1⟩)
    · cases hp
  · cases hp
theorem ev_r_lload_n {k : Fin 4} (hx : p.tables.exec = Jvm.exec) (hb : c.code = cc) (hd : decode cc pc = .ok (.lload_n k, len)) (hp : ev_ldL 1 (k : Nat) lv st = some (len, lv', st')) (hl : lv_has ls nL clv) (h2 : ev_g2 B b clv lv) (h1 : ev_g1 B b cst st) (kk : ∀ (ls' : Array Slot) (clv' : List (Nat × Value)) (cst' : List Value), lv_has ls' nL clv' → ev_g2 B b clv' lv' → ev_g1 B b cst' st' → W p l e R s m args below meth c H locs cells slots Q (F0 m (pc + len) ls' cst')) : W p l e R s m args below meth c H locs cells slots Q (F0 m pc ls cst) := by
  unfold ev_ldL at hp
  split at hp
  · split at hp
    · rename_i a ha ht
      cases hp
      obtain ⟨z, v, e1, e2⟩ := ev_look_ok h2 ha
      obtain ⟨x, rfl, -⟩ := ev_isL e2 ht
      exact lv_lload_n hx hb hd rfl (lv_at hl z e1) (kk _ _ _ hl h2 ⟨e2, h1⟩)
    · cases hp
  · cases hp
theorem ev_r_lload {i : Nat} (hx : p.tables.exec = Jvm.exec) (hb : c.code = cc) (hd : decode cc pc = .ok (.lload i, len)) (hp : ev_ldL 2 i lv st = some (len, lv', st')) (hl : lv_has ls nL clv) (h2 : ev_g2 B b clv lv) (h1 : ev_g1 B b cst st) (kk : ∀ (ls' : Array Slot) (clv' : List (Nat × Value)) (cst' : List Value), lv_has ls' nL clv' → ev_g2 B b clv' lv' → ev_g1 B b cst' st' → W p l e R s m args below meth c H locs cells slots Q (F0 m (pc + len) ls' cst')) : W p l e R s m args below meth c H locs cells slots Q (F0 m pc ls cst) := by
  unfold ev_ldL at hp
  split at hp
  · split at hp
    · rename_i a ha ht
      cases hp
      obtain ⟨z, v, e1, e2⟩ := ev_look_ok h2 ha
      obtain ⟨x, rfl, -⟩ := ev_isL e2 ht
      exact lv_lload hx hb hd (lv_at hl z e1) (kk _ _ _ hl h2 ⟨e2, h1⟩)
    · cases hp
  · cases hp
theorem ev_r_aload_n {k : Fin 4} (hx : p.tables.exec = Jvm.exec) (hb : c.code = cc) (hd : decode cc pc = .ok (.aload_n k, len)) (hp : ev_ldA 1 (k : Nat) lv st = some (len, lv', st')) (hl : lv_has ls nL clv) (h2 : ev_g2 B b clv lv) (h1 : ev_g1 B b cst st) (kk : ∀ (ls' : Array Slot) (clv' : List (Nat × Value)) (cst' : List Value), lv_has ls' nL clv' → ev_g2 B b clv' lv' → ev_g1 B b cst' st' → W p l e R s m args below meth c H locs cells slots Q (F0 m (pc + len) ls' cst')) : W p l e R s m args below meth c H locs cells slots Q (F0 m pc ls cst) := by
  unfold ev_ldA at hp
  split at hp
  · split at hp
    · cases hp
    · rename_i a ha ht
      cases hp
      obtain ⟨z, v, e1, e2⟩ := ev_look_ok h2 ha
      rcases ev_isA e2 (by simpa using ht) with rfl | ⟨q, rfl⟩
      · exact lv_aload_nN hx hb hd rfl (lv_at hl z e1) (kk _ _ _ hl h2 ⟨e2, h1⟩)
      · exact lv_aload_n hx hb hd rfl (lv_at hl z e1) (kk _ _ _ hl h2 ⟨e2, h1⟩)
  · cases hp
theorem ev_r_aload {i : Nat} (hx : p.tables.exec = Jvm.exec) (hb : c.code = cc) (hd : decode cc pc = .ok (.aload i, len)) (hp : ev_ldA 2 i lv st = some (len, lv', st')) (hl : lv_has ls nL clv) (h2 : ev_g2 B b clv lv) (h1 : ev_g1 B b cst st) (kk : ∀ (ls' : Array Slot) (clv' : List (Nat × Value)) (cst' : List Value), lv_has ls' nL clv' → ev_g2 B b clv' lv' → ev_g1 B b cst' st' → W p l e R s m args below meth c H locs cells slots Q (F0 m (pc + len) ls' cst')) : W p l e R s m args below meth c H locs cells slots Q (F0 m pc ls cst) := by
  unfold ev_ldA at hp
  split at hp
  · split at hp
    · cases hp
    · rename_i a ha ht
      cases hp
      obtain ⟨z, v, e1, e2⟩ := ev_look_ok h2 ha
      rcases ev_isA e2 (by simpa using ht) with rfl | ⟨q, rfl⟩
      · exact lv_aloadN hx hb hd (lv_at hl z e1) (kk _ _ _ hl h2 ⟨e2, h1⟩)
      · exact lv_aload hx hb hd (lv_at hl z e1) (kk _ _ _ hl h2 ⟨e2, h1⟩)
  · cases hp
theorem ev_r_istore_n {k : Fin 4} (hx : p.tables.exec = Jvm.exec) (hb : c.code = cc) (hd : decode cc pc = .ok (.istore_n k, len)) (hp : ev_stI nL 1 (k : Nat) lv st = some (len, lv', st')) (hl : lv_has ls nL clv) (h2 : ev_g2 B b clv lv) (h1 : ev_g1 B b cst st) (kk : ∀ (ls' : Array Slot) (clv' : List (Nat × Value)) (cst' : List Value), lv_has ls' nL clv' → ev_g2 B b clv' lv' → ev_g1 B b cst' st' → W p l e R s m args below meth c H locs cells slots Q (F0 m (pc + len) ls' cst')) : W p l e R s m args below meth c H locs cells slots Q (F0 m pc ls cst) := by
  unfold ev_stI at hp
  split at hp
  · split at hp
    · rename_i a r ht
      cases hp
      simp only [Bool.and_eq_true, decide_eq_true_eq] at ht
      obtain ⟨v, vs, rfl, e2, h1b⟩ := ev_cons h1
      obtain ⟨x, rfl, -⟩ := ev_isI e2 ht.1
      exact lv_istore_n hx hb hd rfl hl ht.2 rfl (fun ls' hl' => kk _ _ _ hl' (ev_put1_ok h2 e2) h1b)
    · cases hp
  · cases hp
theorem ev_r_istore {i : Nat} (hx : p.tables.exec = Jvm.exec) (hb : c.code = cc) (hd : decode cc pc = .ok (.istore i, len)) (hp : ev_stI nL 2 i lv st = some (len, lv', st')) (hl : lv_has ls nL clv) (h2 : ev_g2 B b clv lv) (h1 : ev_g1 B b cst st) (kk : ∀ (ls' : Array Slot) (clv' : List (Nat × Value)) (cst' : List Value), lv_has ls' nL clv' → ev_g2 B b clv' lv' → ev_g1 B b cst' st' → W p l e R s m args below meth c H locs cells slots Q (F0 m (pc + len) ls' cst')) : W p l e R s m args below meth c H locs cells slots Q (F0 m pc ls cst) := by
  unfold ev_stI at hp
  split at hp
  · split at hp
    · rename_i a r ht
      cases hp
      simp only [Bool.and_eq_true, decide_eq_true_eq] at ht
      obtain ⟨v, vs, rfl, e2, h1c⟩ := ev_cons h1
      obtain ⟨x, rfl, -⟩ := ev_isI e2 ht.1
      exact lv_istore hx hb hd hl ht.2 rfl (fun ls' hl' => kk _ _ _ hl' (ev_put1_ok h2 e2) h1c)
    · cases hp
  · cases hp
theorem ev_r_lstore_n {k : Fin 4} (hx : p.tables.exec = Jvm.exec) (hb : c.code = cc) (hd : decode cc pc = .ok (.lstore_n k, len)) (hp : ev_stL nL 1 (k : Nat) lv st = some (len, lv', st')) (hl : lv_has ls nL clv) (h2 : ev_g2 B b clv lv) (h1 : ev_g1 B b cst st) (kk : ∀ (ls' : Array Slot) (clv' : List (Nat × Value)) (cst' : List Value), lv_has ls' nL clv' → ev_g2 B b clv' lv' → ev_g1 B b cst' st' → W p l e R s m args below meth c H locs cells slots Q (F0 m (pc + len) ls' cst')) : W p l e R s m args below meth c H locs cells slots Q (F0 m pc ls cst) := by
  unfold ev_stL at hp
  split at hp
  · split at hp
    · rename_i a r ht
      cases hp
      simp only [Bool.and_eq_true, decide_eq_true_eq] at ht
      obtain ⟨v, vs, rfl, e2, h1d⟩ := ev_cons h1
      obtain ⟨x, rfl, -⟩ := ev_isL e2 ht.1
      exact lv_lstore_n hx hb hd rfl hl ht.2 rfl (fun ls' hl' => kk _ _ _ hl' (ev_put2_ok h2 e2) h1d)
    · cases hp
  · cases hp
theorem ev_r_lstore {i : Nat} (hx : p.tables.exec = Jvm.exec) (hb : c.code = cc) (hd : decode cc pc = .ok (.lstore i, len)) (hp : ev_stL nL 2 i lv st = some (len, lv', st')) (hl : lv_has ls nL clv) (h2 : ev_g2 B b clv lv) (h1 : ev_g1 B b cst st) (kk : ∀ (ls' : Array Slot) (clv' : List (Nat × Value)) (cst' : List Value), lv_has ls' nL clv' → ev_g2 B b clv' lv' → ev_g1 B b cst' st' → W p l e R s m args below meth c H locs cells slots Q (F0 m (pc + len) ls' cst')) : W p l e R s m args below meth c H locs cells slots Q (F0 m pc ls cst) := by
  unfold ev_stL at hp
  split at hp
  · split at hp
    · rename_i a r ht
      cases hp
      simp only [Bool.and_eq_true, decide_eq_true_eq] at ht
      obtain ⟨v, vs, rfl, e2, h1e⟩ := ev_cons h1
      obtain ⟨x, rfl, -⟩ := ev_isL e2 ht.1
      exact lv_lstore hx hb hd hl ht.2 rfl (fun ls' hl' => kk _ _ _ hl' (ev_put2_ok h2 e2) h1e)
    · cases hp
  · cases hp
theorem ev_r_astore_n {k : Fin 4} (hx : p.tables.exec = Jvm.exec) (hb : c.code = cc) (hd : decode cc pc = .ok (.astore_n k, len)) (hp : ev_stA nL 1 (k : Nat) lv st = some (len, lv', st')) (hl : lv_has ls nL clv) (h2 : ev_g2 B b clv lv) (h1 : ev_g1 B b cst st) (kk : ∀ (ls' : Array Slot) (clv' : List (Nat × Value)) (cst' : List Value), lv_has ls' nL clv' → ev_g2 B b clv' lv' → ev_g1 B b cst' st' → W p l e R s m args below meth c H locs cells slots Q (F0 m (pc + len) ls' cst')) : W p l e R s m args below meth c H locs cells slots Q (F0 m pc ls cst) := by
  unfold ev_stA at hp
  split at hp
  · split at hp
    · rename_i a r ht
      cases hp
      rw [Bool.and_eq_true, decide_eq_true_eq] at ht
      obtain ⟨v, vs, rfl, e2, h1f⟩ := ev_cons h1
      rcases ev_isA e2 (by simpa using ht.1) with rfl | ⟨q, rfl⟩
      · exact lv_astore_nN hx hb hd rfl hl ht.2 rfl (fun ls' hl' => kk _ _ _ hl' (ev_put1_ok h2 e2) h1f)
      · exact lv_astore_n hx hb hd rfl hl ht.2 rfl (fun ls' hl' => kk _ _ _ hl' (ev_put1_ok h2 e2) h1f)
    · cases hp
  · cases hp
theorem ev_r_astore {i : Nat} (hx : p.tables.exec = Jvm.exec) (hb : c.code = cc) (hd : decode cc pc = .ok (.astore i, len)) (hp : ev_stA nL 2 i lv st = some (len, lv', st')) (hl : lv_has ls nL clv) (h2 : ev_g2 B b clv lv) (h1 : ev_g1 B b cst st) (kk : ∀ (ls' : Array Slot) (clv' : List (Nat × Value)) (cst' : List Value), lv_has ls' nL clv' → ev_g2 B b clv' lv' → ev_g1 B b cst' st' → W p l e R s m args below meth c H locs cells slots Q (F0 m (pc + len) ls' cst')) : W p l e R s m args below meth c H locs cells slots Q (F0 m pc ls cst) := by
  unfold ev_stA at hp
  split at hp
  · split at hp
    · rename_i a r ht
      cases hp
      rw [Bool.and_eq_true, decide_eq_true_eq] at ht
      obtain ⟨v, vs, rfl, e2, h1g⟩ := ev_cons h1
      rcases ev_isA e2 (by simpa using ht.1) with rfl | ⟨q, rfl⟩
      · exact lv_astoreN hx hb hd hl ht.2 rfl (fun ls' hl' => kk _ _ _ hl' (ev_put1_ok h2 e2) h1g)
      · exact lv_astore hx hb hd hl ht.2 rfl (fun ls' hl' => kk _ _ _ hl' (ev_put1_ok h2 e2) h1g)
    · cases hp
  · cases hp
theorem ev_r_iinc {i : Nat} {n : Int} (hx : p.tables.exec = Jvm.exec) (hb : c.code = cc) (hd : decode cc pc = .ok (.iinc i n, len)) (hp : ev_inc nL i n lv st = some (len, lv', st')) (hl : lv_has ls nL clv) (h2 : ev_g2 B b clv lv) (h1 : ev_g1 B b cst st) (kk : ∀ (ls' : Array Slot) (clv' : List (Nat × Value)) (cst' : List Value), lv_has ls' nL clv' → ev_g2 B b clv' lv' → ev_g1 B b cst' st' → W p l e R s m args below meth c H locs cells slots Q (F0 m (pc + len) ls' cst')) : W p l e R s m args below meth c H locs cells slots Q (F0 m pc ls cst) := by
  unfold ev_inc at hp
  split at hp
  · split at hp
    · rename_i t l' h' ha ht
      cases hp
      simp only [Bool.and_eq_true, decide_eq_true_eq] at ht
      obtain ⟨z, v, e1, e2⟩ := ev_look_ok h2 ha
      obtain ⟨x, rfl, a1, a2⟩ := ev_isI e2 ht.1
      exact lv_iinc hx hb hd hl e1 rfl ht.2 rfl (fun ls' hl' => kk _ _ _ hl' (ev_put1_ok h2 (ev_add_ok a1 a2 (Int.le_refl _) (Int.le_refl _))) h1)
    · cases hp
  · cases hp
theorem ev_r_iadd (hx : p.tables.exec = Jvm.exec) (hb : c.code = cc) (hd : decode cc pc = .ok (.iadd, len)) (hp : ev_op2 0 0 ev_add lv st = some (len, lv', st')) (hl : lv_has ls nL clv) (h2 : ev_g2 B b clv lv) (h1 : ev_g1 B b cst st) (kk : ∀ (ls' : Array Slot) (clv' : List (Nat × Value)) (cst' : List Value), lv_has ls' nL clv' → ev_g2 B b clv' lv' → ev_g1 B b cst' st' → W p l e R s m args below meth c H locs cells slots Q (F0 m (pc + len) ls' cst')) : W p l e R s m args below meth c H locs cells slots Q (F0 m pc ls cst) := by
  obtain ⟨l1, g1, l2, g2, r, rfl, rfl, rfl, rfl⟩ := ev_op2_inv hp
  obtain ⟨v2, vs, rfl, e2, h1h⟩ := ev_cons h1
  obtain ⟨v1, vs, rfl, e1, h1a⟩ := ev_cons h1h
  obtain ⟨y, rfl, b1, b2⟩ := ev_int e2
  obtain ⟨x, rfl, a1, a2⟩ := ev_int e1
  exact lv_iadd hx hb hd (kk _ _ _ hl h2 ⟨ev_add_ok a1 a2 b1 b2, h1a⟩)
theorem ev_r_isub (hx : p.tables.exec = Jvm.exec) (hb : c.code = cc) (hd : decode cc pc = .ok (.isub, len)) (hp : ev_op2 0 0 ev_sub lv st = some (len, lv', st')) (hl : lv_has ls nL clv) (h2 : ev_g2 B b clv lv) (h1 : ev_g1 B b cst st) (kk : ∀ (ls' : Array Slot) (clv' : List (Nat × Value)) (cst' : List Value), lv_has ls' nL clv' → ev_g2 B b clv' lv' → ev_g1 B b cst' st' → W p l e R s m args below meth c H locs cells slots Q (F0 m (pc + len) ls' cst')) : W p l e R s m args below meth c H locs cells slots Q (F0 m pc ls cst) := by
  obtain ⟨l1, g1, l2, g2, r, rfl, rfl, rfl, rfl⟩ := ev_op2_inv hp
  obtain ⟨v2, vs, rfl, e2, h1b⟩ := ev_cons h1
  obtain ⟨v1, vs, rfl, e1, h1c⟩ := ev_cons h1b
  obtain ⟨y, rfl, b1, b2⟩ := ev_int e2
  obtain ⟨x, rfl, a1, a2⟩ := ev_int e1
  exact lv_isub hx hb hd (kk _ _ _ hl h2 ⟨ev_sub_ok a1 a2 b1 b2, h1c⟩)
theorem ev_r_imul (hx : p.tables.exec = Jvm.exec) (hb : c.code = cc) (hd : decode cc pc = .ok (.imul, len)) (hp : ev_op2 0 0 (ev_ib (fun x y => x * y)) lv st = some (len, lv', st')) (hl : lv_has ls nL clv) (h2 : ev_g2 B b clv lv) (h1 : ev_g1 B b cst st) (kk : ∀ (ls' : Array Slot) (clv' : List (Nat × Value)) (cst' : List Value), lv_has ls' nL clv' → ev_g2 B b clv' lv' → ev_g1 B b cst' st' → W p l e R s m args below meth c H locs cells slots Q (F0 m (pc + len) ls' cst')) : W p l e R s m args below meth c H locs cells slots Q (F0 m pc ls cst) := by
  obtain ⟨l1, g1, l2, g2, r, rfl, rfl, rfl, rfl⟩ := ev_op2_inv hp
  obtain ⟨v2, vs, rfl, e2, h1d⟩ := ev_cons h1
  obtain ⟨v1, vs, rfl, e1, h1e⟩ := ev_cons h1d
  obtain ⟨y, rfl, b1, b2⟩ := ev_int e2
  obtain ⟨x, rfl, a1, a2⟩ := ev_int e1
  exact lv_imul hx hb hd (kk _ _ _ hl h2 ⟨ev_ib_ok (fun x y => x * y) a1 a2 b1 b2, h1e⟩)
theorem ev_r_iand (hx : p.tables.exec = Jvm.exec) (hb : c.code = cc) (hd : decode cc pc = .ok (.iand, len)) (hp : ev_op2 0 0 (ev_ib (fun x y => x &&& y)) lv st = some (len, lv', st')) (hl : lv_has ls nL clv) (h2 : ev_g2 B b clv lv) (h1 : ev_g1 B b cst st) (kk : ∀ (ls' : Array Slot) (clv' : List (Nat × Value)) (cst' : List Value), lv_has ls' nL clv' → ev_g2 B b clv' lv' → ev_g1 B b cst' st' → W p l e R s m args below meth c H locs cells slots Q (F0 m (pc + len) ls' cst')) : W p l e R s m args below meth c H locs cells slots Q (F0 m pc ls cst) := by
  obtain ⟨l1, g1, l2, g2, r, rfl, rfl, rfl, rfl⟩ := ev_op2_inv hp
  obtain ⟨v2, vs, rfl, e2, h1f⟩ := ev_cons h1
  obtain ⟨v1, vs, rfl, e1, h1g⟩ := ev_cons h1f
  obtain ⟨y, rfl, b1, b2⟩ := ev_int e2
  obtain ⟨x, rfl, a1, a2⟩ := ev_int e1
  exact lv_iand hx hb hd (kk _ _ _ hl h2 ⟨ev_ib_ok (fun x y => x &&& y) a1 a2 b1 b2, h1g⟩)
theorem ev_r_ior (hx : p.tables.exec = Jvm.exec) (hb : c.code = cc) (hd : decode cc pc = .ok (.ior, len)) (hp : ev_op2 0 0 (ev_ib (fun x y => x ||| y)) lv st = some (len, lv', st')) (hl : lv_has ls nL clv) (h2 : ev_g2 B b clv lv) (h1 : ev_g1 B b cst st) (kk : ∀ (ls' : Array Slot) (clv' : List (Nat × Value)) (cst' : List Value), lv_has ls' nL clv' → ev_g2 B b clv' lv' → ev_g1 B b cst' st' → W p l e R s m args below meth c H locs cells slots Q (F0 m (pc + len) ls' cst')) : W p l e R s m args below meth c H locs cells slots Q (F0 m pc ls cst) := by
  obtain ⟨l1, g1, l2, g2, r, rfl, rfl, rfl, rfl⟩ := ev_op2_inv hp
  obtain ⟨v2, vs, rfl, e2, h1h⟩ := ev_cons h1
  obtain ⟨v1, vs, rfl, e1, h1a⟩ := ev_cons h1h
  obtain ⟨y, rfl, b1, b2⟩ := ev_int e2
  obtain ⟨x, rfl, a1, a2⟩ := ev_int e1
  exact lv_ior hx hb hd (kk _ _ _ hl h2 ⟨ev_ib_ok (fun x y => x ||| y) a1 a2 b1 b2, h1a⟩)
theorem ev_r_ixor (hx : p.tables.exec = Jvm.exec) (hb : c.code = cc) (hd : decode cc pc = .ok (.ixor, len)) (hp : ev_op2 0 0 (ev_ib (fun x y => x ^^^ y)) lv st = some (len, lv', st')) (hl : lv_has ls nL clv) (h2 : ev_g2 B b clv lv) (h1 : ev_g1 B b cst st) (kk : ∀ (ls' : Array Slot) (clv' : List (Nat × Value)) (cst' : List Value), lv_has ls' nL clv' → ev_g2 B b clv' lv' → ev_g1 B b cst' st' → W p l e R s m args below meth c H locs cells slots Q (F0 m (pc + len) ls' cst')) : W p l e R s m args below meth c H locs cells slots Q (F0 m pc ls cst) := by
  obtain ⟨l1, g1, l2, g2, r, rfl, rfl, rfl, rfl⟩ := ev_op2_inv hp
  obtain ⟨v2, vs, rfl, e2, h1b⟩ := ev_cons h1
  obtain ⟨v1, vs, rfl, e1, h1c⟩ := ev_cons h1b
  obtain ⟨y, rfl, b1, b2⟩ := ev_int e2
  obtain ⟨x, rfl, a1, a2⟩ := ev_int e1
  exact lv_ixor hx hb hd (kk _ _ _ hl h2 ⟨ev_ib_ok (fun x y => x ^^^ y) a1 a2 b1 b2, h1c⟩)
theorem ev_r_ishl (hx : p.tables.exec = Jvm.exec) (hb : c.code = cc) (hd : decode cc pc = .ok (.ishl, len)) (hp : ev_op2 0 0 (ev_ib (fun x y => x <<< (y &&& 31))) lv st = some (len, lv', st')) (hl : lv_has ls nL clv) (h2 : ev_g2 B b clv lv) (h1 : ev_g1 B b cst st) (kk : ∀ (ls' : Array Slot) (clv' : List (Nat × Value)) (cst' : List Value), lv_has ls' nL clv' → ev_g2 B b clv' lv' → ev_g1 B b cst' st' → W p l e R s m args below meth c H locs cells slots Q (F0 m (pc + len) ls' cst')) : W p l e R s m args below meth c H locs cells slots Q (F0 m pc ls cst) := by
  obtain ⟨l1, g1, l2, g2, r, rfl, rfl, rfl, rfl⟩ := ev_op2_inv hp
  obtain ⟨v2, vs, rfl, e2, h1d⟩ := ev_cons h1
  obtain ⟨v1, vs, rfl, e1, h1e⟩ := ev_cons h1d
  obtain ⟨y, rfl, b1, b2⟩ := ev_int e2
  obtain ⟨x, rfl, a1, a2⟩ := ev_int e1
  exact lv_ishl hx hb hd (kk _ _ _ hl h2 ⟨ev_ib_ok (fun x y => x <<< (y &&& 31)) a1 a2 b1 b2, h1e⟩)
theorem ev_r_ishr (hx : p.tables.exec = Jvm.exec) (hb : c.code = cc) (hd : decode cc pc = .ok (.ishr, len)) (hp : ev_op2 0 0 (ev_ib (fun x y => x >>> (y &&& 31))) lv st = some (len, lv', st')) (hl : lv_has ls nL clv) (h2 : ev_g2 B b clv lv) (h1 : ev_g1 B b cst st) (kk : ∀ (ls' : Array Slot) (clv' : List (Nat × Value)) (cst' : List Value), lv_has ls' nL clv' → ev_g2 B b clv' lv' → ev_g1 B b cst' st' → W p l e R s m args below meth c H locs cells slots Q (F0 m (pc + len) ls' cst')) : W p l e R s m args below meth c H locs cells slots Q (F0 m pc ls cst) := by
  obtain ⟨l1, g1, l2, g2, r, rfl, rfl, rfl, rfl⟩ := ev_op2_inv hp
  obtain ⟨v2, vs, rfl, e2, h1f⟩ := ev_cons h1
  obtain ⟨v1, vs, rfl, e1, h1g⟩ := ev_cons h1f
  obtain ⟨y, rfl, b1, b2⟩ := ev_int e2
  obtain ⟨x, rfl, a1, a2⟩ := ev_int e1
  exact lv_ishr hx hb hd (kk _ _ _ hl h2 ⟨ev_ib_ok (fun x y => x >>> (y &&& 31)) a1 a2 b1 b2, h1g⟩)
theorem ev_r_iushr (hx : p.tables.exec = Jvm.exec) (hb : c.code = cc) (hd : decode cc pc = .ok (.iushr, len)) (hp : ev_op2 0 0 (ev_ib (fun x y => (x.toUInt32 >>> (y.toUInt32 &&& Int32.toUInt32 31)).toInt32)) lv st = some (len, lv', st')) (hl : lv_has ls nL clv) (h2 : ev_g2 B b clv lv) (h1 : ev_g1 B b cst st) (kk : ∀ (ls' : Array Slot) (clv' : List (Nat × Value)) (cst' : List Value), lv_has ls' nL clv' → ev_g2 B b clv' lv' → ev_g1 B b cst' st' → W p l e R s m args below meth c H locs cells slots Q (F0 m (pc + len) ls' cst')) : W p l e R s m args below meth c H locs cells slots Q (F0 m pc ls cst) := by
  obtain ⟨l1, g1, l2, g2, r, rfl, rfl, rfl, rfl⟩ := ev_op2_inv hp
  obtain ⟨v2, vs, rfl, e2, h1h⟩ := ev_cons h1
  obtain ⟨v1, vs, rfl, e1, h1a⟩ := ev_cons h1h
  obtain ⟨y, rfl, b1, b2⟩ := ev_int e2
  obtain ⟨x, rfl, a1, a2⟩ := ev_int e1
  exact lv_iushr hx hb hd rfl (kk _ _ _ hl h2 ⟨ev_ib_ok (fun x y => (x.toUInt32 >>> (y.toUInt32 &&& Int32.toUInt32 31)).toInt32) a1 a2 b1 b2, h1a⟩)
theorem ev_r_ladd (hx : p.tables.exec = Jvm.exec) (hb : c.code = cc) (hd : decode cc pc = .ok (.ladd, len)) (hp : ev_op2 1 1 (ev_lb (fun x y => x + y)) lv st = some (len, lv', st')) (hl : lv_has ls nL clv) (h2 : ev_g2 B b clv lv) (h1 : ev_g1 B b cst st) (kk : ∀ (ls' : Array Slot) (clv' : List (Nat × Value)) (cst' : List Value), lv_has ls' nL clv' → ev_g2 B b clv' lv' → ev_g1 B b cst' st' → W p l e R s m args below meth c H locs cells slots Q (F0 m (pc + len) ls' cst')) : W p l e R s m args below meth c H locs cells slots Q (F0 m pc ls cst) := by
  obtain ⟨l1, g1, l2, g2, r, rfl, rfl, rfl, rfl⟩ := ev_op2_inv hp
  obtain ⟨v2, vs, rfl, e2, h1b⟩ := ev_cons h1
  obtain ⟨v1, vs, rfl, e1, h1c⟩ := ev_cons h1b
  obtain ⟨y, rfl, b1, b2⟩ := ev_long e2
  obtain ⟨x, rfl, a1, a2⟩ := ev_long e1
  exact lv_ladd hx hb hd (kk _ _ _ hl h2 ⟨ev_lb_ok (fun x y => x + y) a1 a2 b1 b2, h1c⟩)
theorem ev_r_lsub (hx : p.tables.exec = Jvm.exec) (hb : c.code = cc) (hd : decode cc pc = .ok (.lsub, len)) (hp : ev_op2 1 1 (ev_lb (fun x y => x - y)) lv st = some (len, lv', st')) (hl : lv_has ls nL clv) (h2 : ev_g2 B b clv lv) (h1 : ev_g1 B b cst st) (kk : ∀ (ls' : Array Slot) (clv' : List (Nat × Value)) (cst' : List Value), lv_has ls' nL clv' → ev_g2 B b clv' lv' → ev_g1 B b cst' st' → W p l e R s m args below meth c H locs cells slots Q (F0 m (pc + len) ls' cst')) : W p l e R s m args below meth c H locs cells slots Q (F0 m pc ls cst) := by
  obtain ⟨l1, g1, l2, g2, r, rfl, rfl, rfl, rfl⟩ := ev_op2_inv hp
  obtain ⟨v2, vs, rfl, e2, h1d⟩ := ev_cons h1
  obtain ⟨v1, vs, rfl, e1, h1e⟩ := ev_cons h1d
  obtain ⟨y, rfl, b1, b2⟩ := ev_long e2
  obtain ⟨x, rfl, a1, a2⟩ := ev_long e1
  exact lv_lsub hx hb hd (kk _ _ _ hl h2 ⟨ev_lb_ok (fun x y => x - y) a1 a2 b1 b2, h1e⟩)
theorem ev_r_lmul (hx : p.tables.exec = Jvm.exec) (hb : c.code = cc) (hd : decode cc pc = .ok (.lmul, len)) (hp : ev_op2 1 1 (ev_lb (fun x y => x * y)) lv st = some (len, lv', st')) (hl : lv_has ls nL clv) (h2 : ev_g2 B b clv lv) (h1 : ev_g1 B b cst st) (kk : ∀ (ls' : Array Slot) (clv' : List (Nat × Value)) (cst' : List Value), lv_has ls' nL clv' → ev_g2 B b clv' lv' → ev_g1 B b cst' st' → W p l e R s m args below meth c H locs cells slots Q (F0 m (pc + len) ls' cst')) : W p l e R s m args below meth c H locs cells slots Q (F0 m pc ls cst) := by
  obtain ⟨l1, g1, l2, g2, r, rfl, rfl, rfl, rfl⟩ := ev_op2_inv hp
  obtain ⟨v2, vs, rfl, e2, h1f⟩ := ev_cons h1
  obtain ⟨v1, vs, rfl, e1, h1g⟩ := ev_cons h1f
  obtain ⟨y, rfl, b1, b2⟩ := ev_long e2
  obtain ⟨x, rfl, a1, a2⟩ := ev_long e1
  exact lv_lmul hx hb hd (kk _ _ _ hl h2 ⟨ev_lb_ok (fun x y => x * y) a1 a2 b1 b2, h1g⟩)
theorem ev_r_land (hx : p.tables.exec = Jvm.exec) (hb : c.code = cc) (hd : decode cc pc = .ok (.land, len)) (hp : ev_op2 1 1 (ev_lb (fun x y => x &&& y)) lv st = some (len, lv', st')) (hl : lv_has ls nL clv) (h2 : ev_g2 B b clv lv) (h1 : ev_g1 B b cst st) (kk : ∀ (ls' : Array Slot) (clv' : List (Nat × Value)) (cst' : List Value), lv_has ls' nL clv' → ev_g2 B b clv' lv' → ev_g1 B b cst' st' → W p l e R s m args below meth c H locs cells slots Q (F0 m (pc + len) ls' cst')) : W p l e R s m args below meth c H locs cells slots Q (F0 m pc ls cst) := by
  obtain ⟨l1, g1, l2, g2, r, rfl, rfl, rfl, rfl⟩ := ev_op2_inv hp
  obtain ⟨v2, vs, rfl, e2, h1h⟩ := ev_cons h1
  obtain ⟨v1, vs, rfl, e1, h1a⟩ := ev_cons h1h
  obtain ⟨y, rfl, b1, b2⟩ := ev_long e2
  obtain ⟨x, rfl, a1, a2⟩ := ev_long e1
  exact lv_land hx hb hd (kk _ _ _ hl h2 ⟨ev_lb_ok (fun x y => x &&& y) a1 a2 b1 b2, h1a⟩)
theorem ev_r_lor (hx : p.tables.exec = Jvm.exec) (hb : c.code = cc) (hd : decode cc pc = .ok (.lor, len)) (hp : ev_op2 1 1 (ev_lb (fun x y => x ||| y)) lv st = some (len, lv', st')) (hl : lv_has ls nL clv) (h2 : ev_g2 B b clv lv) (h1 : ev_g1 B b cst st) (kk : ∀ (ls' : Array Slot) (clv' : List (Nat × Value)) (cst' : List Value), lv_has ls' nL clv' → ev_g2 B b clv' lv' → ev_g1 B b cst' st' → W p l e R s m args below meth c H locs cells slots Q (F0 m (pc + len) ls' cst')) : W p l e R s m args below meth c H locs cells slots Q (F0 m pc ls cst) := by
  obtain ⟨l1, g1, l2, g2, r, rfl, rfl, rfl, rfl⟩ := ev_op2_inv hp
  obtain ⟨v2, vs, rfl, e2, h1b⟩ := ev_cons h1
  obtain ⟨v1, vs, rfl, e1, h1c⟩ := ev_cons h1b
  obtain ⟨y, rfl, b1, b2⟩ := ev_long e2
  obtain ⟨x, rfl, a1, a2⟩ := ev_long e1
  exact lv_lor hx hb hd (kk _ _ _ hl h2 ⟨ev_lb_ok (fun x y => x ||| y) a1 a2 b1 b2, h1c⟩)
theorem ev_r_lxor (hx : p.tables.exec = Jvm.exec) (hb : c.code = cc) (hd : decode cc pc = .ok (.lxor, len)) (hp : ev_op2 1 1 (ev_lb (fun x y => x ^^^ y)) lv st = some (len, lv', st')) (hl : lv_has ls nL clv) (h2 : ev_g2 B b clv lv) (h1 : ev_g1 B b cst st) (kk : ∀ (ls' : Array Slot) (clv' : List (Nat × Value)) (cst' : List Value), lv_has ls' nL clv' → ev_g2 B b clv' lv' → ev_g1 B b cst' st' → W p l e R s m args below meth c H locs cells slots Q (F0 m (pc + len) ls' cst')) : W p l e R s m args below meth c H locs cells slots Q (F0 m pc ls cst) := by
  obtain ⟨l1, g1, l2, g2, r, rfl, rfl, rfl, rfl⟩ := ev_op2_inv hp
  obtain ⟨v2, vs, rfl, e2, h1d⟩ := ev_cons h1
  obtain ⟨v1, vs, rfl, e1, h1e⟩ := ev_cons h1d
  obtain ⟨y, rfl, b1, b2⟩ := ev_long e2
  obtain ⟨x, rfl, a1, a2⟩ := ev_long e1
  exact lv_lxor hx hb hd (kk _ _ _ hl h2 ⟨ev_lb_ok (fun x y => x ^^^ y) a1 a2 b1 b2, h1e⟩)
theorem ev_r_lshl (hx : p.tables.exec = Jvm.exec) (hb : c.code = cc) (hd : decode cc pc = .ok (.lshl, len)) (hp : ev_op2 1 0 (ev_ls (fun x y => x <<< (y.toInt64 &&& 63))) lv st = some (len, lv', st')) (hl : lv_has ls nL clv) (h2 : ev_g2 B b clv lv) (h1 : ev_g1 B b cst st) (kk : ∀ (ls' : Array Slot) (clv' : List (Nat × Value)) (cst' : List Value), lv_has ls' nL clv' → ev_g2 B b clv' lv' → ev_g1 B b cst' st' → W p l e R s m args below meth c H locs cells slots Q (F0 m (pc + len) ls' cst')) : W p l e R s m args below meth c H locs cells slots Q (F0 m pc ls cst) := by
  obtain ⟨l1, g1, l2, g2, r, rfl, rfl, rfl, rfl⟩ := ev_op2_inv hp
  obtain ⟨v2, vs, rfl, e2, h1f⟩ := ev_cons h1
  obtain ⟨v1, vs, rfl, e1, h1g⟩ := ev_cons h1f
  obtain ⟨y, rfl, b1, b2⟩ := ev_int e2
  obtain ⟨x, rfl, a1, a2⟩ := ev_long e1
  exact lv_lshl hx hb hd rfl (kk _ _ _ hl h2 ⟨ev_ls_ok (fun x y => x <<< (y.toInt64 &&& 63)) a1 a2 b1 b2, h1g⟩)
theorem ev_r_lshr (hx : p.tables.exec = Jvm.exec) (hb : c.code = cc) (hd : decode cc pc = .ok (.lshr, len)) (hp : ev_op2 1 0 (ev_ls (fun x y => x >>> (y.toInt64 &&& 63))) lv st = some (len, lv', st')) (hl : lv_has ls nL clv) (h2 : ev_g2 B b clv lv) (h1 : ev_g1 B b cst st) (kk : ∀ (ls' : Array Slot) (clv' : List (Nat × Value)) (cst' : List Value), lv_has ls' nL clv' → ev_g2 B b clv' lv' → ev_g1 B b cst' st' → W p l e R s m args below meth c H locs cells slots Q (F0 m (pc + len) ls' cst')) : W p l e R s m args below meth c H locs cells slots Q (F0 m pc ls cst) := by
  obtain ⟨l1, g1, l2, g2, r, rfl, rfl, rfl, rfl⟩ := ev_op2_inv hp
  obtain ⟨v2, vs, rfl, e2, h1h⟩ := ev_cons h1
  obtain ⟨v1, vs, rfl, e1, h1a⟩ := ev_cons h1h
  obtain ⟨y, rfl, b1, b2⟩ := ev_int e2
  obtain ⟨x, rfl, a1, a2⟩ := ev_long e1
  exact lv_lshr hx hb hd rfl (kk _ _ _ hl h2 ⟨ev_ls_ok (fun x y => x >>> (y.toInt64 &&& 63)) a1 a2 b1 b2, h1a⟩)
theorem ev_r_lushr (hx : p.tables.exec = Jvm.exec) (hb : c.code = cc) (hd : decode cc pc = .ok (.lushr, len)) (hp : ev_op2 1 0 (ev_ls (fun x y => (x.toUInt64 >>> (y.toInt64.toUInt64 &&& Int64.toUInt64 63)).toInt64)) lv st = some (len, lv', st')) (hl : lv_has ls nL clv) (h2 : ev_g2 B b clv lv) (h1 : ev_g1 B b cst st) (kk : ∀ (ls' : Array Slot) (clv' : List (Nat × Value)) (cst' : List Value), lv_has ls' nL clv' → ev_g2 B b clv' lv' → ev_g1 B b cst' st' → W p l e R s m args below meth c H locs cells slots Q (F0 m (pc + len) ls' cst')) : W p l e R s m args below meth c H locs cells slots Q (F0 m pc ls cst) := by
  obtain ⟨l1, g1, l2, g2, r, rfl, rfl, rfl, rfl⟩ := ev_op2_inv hp
  obtain ⟨v2, vs, rfl, e2, h1b⟩ := ev_cons h1
  obtain ⟨v1, vs, rfl, e1, h1c⟩ := ev_cons h1b
  obtain ⟨y, rfl, b1, b2⟩ := ev_int e2
  obtain ⟨x, rfl, a1, a2⟩ := ev_long e1
  exact lv_lushr hx hb hd rfl (kk _ _ _ hl h2 ⟨ev_ls_ok (fun x y => (x.toUInt64 >>> (y.toInt64.toUInt64 &&& Int64.toUInt64 63)).toInt64) a1 a2 b1 b2, h1c⟩)
theorem ev_r_lcmp (hx : p.tables.exec = Jvm.exec) (hb : c.code = cc) (hd : decode cc pc = .ok (.lcmp, len)) (hp : ev_op2 1 1 ev_cmp lv st = some (len, lv', st')) (hl : lv_has ls nL clv) (h2 : ev_g2 B b clv lv) (h1 : ev_g1 B b cst st) (kk : ∀ (ls' : Array Slot) (clv' : List (Nat × Value)) (cst' : List Value), lv_has ls' nL clv' → ev_g2 B b clv' lv' → ev_g1 B b cst' st' → W p l e R s m args below meth c H locs cells slots Q (F0 m (pc + len) ls' cst')) : W p l e R s m args below meth c H locs cells slots Q (F0 m pc ls cst) := by
  obtain ⟨l1, g1, l2, g2, r, rfl, rfl, rfl, rfl⟩ := ev_op2_inv hp
  obtain ⟨v2, vs, rfl, e2, h1d⟩ := ev_cons h1
  obtain ⟨v1, vs, rfl, e1, h1e⟩ := ev_cons h1d
  obtain ⟨y, rfl, b1, b2⟩ := ev_long e2
  obtain ⟨x, rfl, a1, a2⟩ := ev_long e1
  exact W.lcmp hx hb hd (kk _ _ _ hl h2 ⟨ev_cmp_ok a1 a2 b1 b2, h1e⟩)
theorem ev_r_idiv (hx : p.tables.exec = Jvm.exec) (hb : c.code = cc) (hd : decode cc pc = .ok (.idiv, len)) (hp : ev_opd 0 (ev_ib (fun x y => x / y)) lv st = some (len, lv', st')) (hl : lv_has ls nL clv) (h2 : ev_g2 B b clv lv) (h1 : ev_g1 B b cst st) (kk : ∀ (ls' : Array Slot) (clv' : List (Nat × Value)) (cst' : List Value), lv_has ls' nL clv' → ev_g2 B b clv' lv' → ev_g1 B b cst' st' → W p l e R s m args below meth c H locs cells slots Q (F0 m (pc + len) ls' cst')) : W p l e R s m args below meth c H locs cells slots Q (F0 m pc ls cst) := by
  obtain ⟨l1, g1, l2, g2, r, rfl, hz, rfl, rfl, rfl⟩ := ev_opd_inv hp
  obtain ⟨v2, vs, rfl, e2, h1f⟩ := ev_cons h1
  obtain ⟨v1, vs, rfl, e1, h1g⟩ := ev_cons h1f
  obtain ⟨y, rfl, b1, b2⟩ := ev_int e2
  obtain ⟨x, rfl, a1, a2⟩ := ev_int e1
  exact lv_idiv hx hb hd (ev_n0 b1 b2 hz) (kk _ _ _ hl h2 ⟨ev_ib_ok (fun x y => x / y) a1 a2 b1 b2, h1g⟩)
theorem ev_r_irem (hx : p.tables.exec = Jvm.exec) (hb : c.code = cc) (hd : decode cc pc = .ok (.irem, len)) (hp : ev_opd 0 (ev_ib (fun x y => x - x / y * y)) lv st = some (len, lv', st')) (hl : lv_has ls nL clv) (h2 : ev_g2 B b clv lv) (h1 : ev_g1 B b cst st) (kk : ∀ (ls' : Array Slot) (clv' : List (Nat × Value)) (cst' : List Value), lv_has ls' nL clv' → ev_g2 B b clv' lv' → ev_g1 B b cst' st' → W p l e R s m args below meth c H locs cells slots Q (F0 m (pc + len) ls' cst')) : W p l e R s m args below meth c H locs cells slots Q (F0 m pc ls cst) := by
  obtain ⟨l1, g1, l2, g2, r, rfl, hz, rfl, rfl, rfl⟩ := ev_opd_inv hp
  obtain ⟨v2, vs, rfl, e2, h1h⟩ := ev_cons h1
  obtain ⟨v1, vs, rfl, e1, h1a⟩ := ev_cons h1h
  obtain ⟨y, rfl, b1, b2⟩ := ev_int e2
  obtain ⟨x, rfl, a1, a2⟩ := ev_int e1
  exact lv_irem hx hb hd (ev_n0 b1 b2 hz) (kk _ _ _ hl h2 ⟨ev_ib_ok (fun x y => x - x / y * y) a1 a2 b1 b2, h1a⟩)
theorem ev_r_ldiv (hx : p.tables.exec = Jvm.exec) (hb : c.code = cc) (hd : decode cc pc = .ok (.ldiv, len)) (hp : ev_opd 1 (ev_lb (fun x y => x / y)) lv st = some (len, lv', st')) (hl : lv_has ls nL clv) (h2 : ev_g2 B b clv lv) (h1 : ev_g1 B b cst st) (kk : ∀ (ls' : Array Slot) (clv' : List (Nat × Value)) (cst' : List Value), lv_has ls' nL clv' → ev_g2 B b clv' lv' → ev_g1 B b cst' st' → W p l e R s m args below meth c H locs cells slots Q (F0 m (pc + len) ls' cst')) : W p l e R s m args below meth c H locs cells slots Q (F0 m pc ls cst) := by
  obtain ⟨l1, g1, l2, g2, r, rfl, hz, rfl, rfl, rfl⟩ := ev_opd_inv hp
  obtain ⟨v2, vs, rfl, e2, h1b⟩ := ev_cons h1
  obtain ⟨v1, vs, rfl, e1, h1c⟩ := ev_cons h1b
  obtain ⟨y, rfl, b1, b2⟩ := ev_long e2
  obtain ⟨x, rfl, a1, a2⟩ := ev_long e1
  exact lv_ldiv hx hb hd (ev_n0L b1 b2 hz) (kk _ _ _ hl h2 ⟨ev_lb_ok (fun x y => x / y) a1 a2 b1 b2, h1c⟩)
theorem ev_r_lrem (hx : p.tables.exec = Jvm.exec) (hb : c.code = cc) (hd : decode cc pc = .ok (.lrem, len)) (hp : ev_opd 1 (ev_lb (fun x y => x - x / y * y)) lv st = some (len, lv', st')) (hl : lv_has ls nL clv) (h2 : ev_g2 B b clv lv) (h1 : ev_g1 B b cst st) (kk : ∀ (ls' : Array Slot) (clv' : List (Nat × Value)) (cst' : List Value), lv_has ls' nL clv' → ev_g2 B b clv' lv' → ev_g1 B b cst' st' → W p l e R s m args below meth c H locs cells slots Q (F0 m (pc + len) ls' cst')) : W p l e R s m args below meth c H locs cells slots Q (F0 m pc ls cst) := by
  obtain ⟨l1, g1, l2, g2, r, rfl, hz, rfl, rfl, rfl⟩ := ev_opd_inv hp
  obtain ⟨v2, vs, rfl, e2, h1d⟩ := ev_cons h1
  obtain ⟨v1, vs, rfl, e1, h1e⟩ := ev_cons h1d
  obtain ⟨y, rfl, b1, b2⟩ := ev_long e2
  obtain ⟨x, rfl, a1, a2⟩ := ev_long e1
  exact lv_lrem hx hb hd (ev_n0L b1 b2 hz) (kk _ _ _ hl h2 ⟨ev_lb_ok (fun x y => x - x / y * y) a1 a2 b1 b2, h1e⟩)
theorem ev_r_i2l (hx : p.tables.exec = Jvm.exec) (hb : c.code = cc) (hd : decode cc pc = .ok (.i2l, len)) (hp : ev_op1 0 ev_i2l lv st = some (len, lv', st')) (hl : lv_has ls nL clv) (h2 : ev_g2 B b clv lv) (h1 : ev_g1 B b cst st) (kk : ∀ (ls' : Array Slot) (clv' : List (Nat × Value)) (cst' : List Value), lv_has ls' nL clv' → ev_g2 B b clv' lv' → ev_g1 B b cst' st' → W p l e R s m args below meth c H locs cells slots Q (F0 m (pc + len) ls' cst')) : W p l e R s m args below meth c H locs cells slots Q (F0 m pc ls cst) := by
  obtain ⟨l1, g1, r, rfl, rfl, rfl, rfl⟩ := ev_op1_inv hp
  obtain ⟨v1, vs, rfl, e1, h1f⟩ := ev_cons h1
  obtain ⟨x, rfl, a1, a2⟩ := ev_int e1
  exact lv_i2l hx hb hd rfl (kk _ _ _ hl h2 ⟨ev_i2l_ok a1 a2, h1f⟩)
theorem ev_r_l2i (hx : p.tables.exec = Jvm.exec) (hb : c.code = cc) (hd : decode cc pc = .ok (.l2i, len)) (hp : ev_op1 1 ev_l2i lv st = some (len, lv', st')) (hl : lv_has ls nL clv) (h2 : ev_g2 B b clv lv) (h1 : ev_g1 B b cst st) (kk : ∀ (ls' : Array Slot) (clv' : List (Nat × Value)) (cst' : List Value), lv_has ls' nL clv' → ev_g2 B b clv' lv' → ev_g1 B b cst' st' → W p l e R s m args below meth c H locs cells slots Q (F0 m (pc + len) ls' cst')) : W p l e R s m args below meth c H locs cells slots Q (F0 m pc ls cst) := by
  obtain ⟨l1, g1, r, rfl, rfl, rfl, rfl⟩ := ev_op1_inv hp
  obtain ⟨v1, vs, rfl, e1, h1g⟩ := ev_cons h1
  obtain ⟨x, rfl, a1, a2⟩ := ev_long e1
  exact lv_l2i hx hb hd rfl (kk _ _ _ hl h2 ⟨ev_l2i_ok a1 a2, h1g⟩)
theorem ev_r_dup (hx : p.tables.exec = Jvm.exec) (hb : c.code = cc) (hd : decode cc pc = .ok (.dup, len)) (hp : ev_dup lv st = some (len, lv', st')) (hl : lv_has ls nL clv) (h2 : ev_g2 B b clv lv) (h1 : ev_g1 B b cst st) (kk : ∀ (ls' : Array Slot) (clv' : List (Nat × Value)) (cst' : List Value), lv_has ls' nL clv' → ev_g2 B b clv' lv' → ev_g1 B b cst' st' → W p l e R s m args below meth c H locs cells slots Q (F0 m (pc + len) ls' cst')) : W p l e R s m args below meth c H locs cells slots Q (F0 m pc ls cst) := by
  unfold ev_dup at hp
  split at hp
  · split at hp
    · cases hp
    · rename_i a r ht
      cases hp
      obtain ⟨v, vs, rfl, e2, h1h⟩ := ev_cons h1
      exact lv_dup hx hb hd (ev_cat1 e2 (by simpa using ht)) (kk _ _ _ hl h2 ⟨e2, e2, h1h⟩)
  · cases hp
theorem ev_r_pop (hx : p.tables.exec = Jvm.exec) (hb : c.code = cc) (hd : decode cc pc = .ok (.pop, len)) (hp : ev_pop lv st = some (len, lv', st')) (hl : lv_has ls nL clv) (h2 : ev_g2 B b clv lv) (h1 : ev_g1 B b cst st) (kk : ∀ (ls' : Array Slot) (clv' : List (Nat × Value)) (cst' : List Value), lv_has ls' nL clv' → ev_g2 B b clv' lv' → ev_g1 B b cst' st' → W p l e R s m args below meth c H locs cells slots Q (F0 m (pc + len) ls' cst')) : W p l e R s m args below meth c H locs cells slots Q (F0 m pc ls cst) := by
  unfold ev_pop at hp
  split at hp
  · split at hp
    · cases hp
    · rename_i a r ht
      cases hp
      obtain ⟨v, vs, rfl, e2, h1a⟩ := ev_cons h1
      exact lv_pop hx hb hd (ev_cat1 e2 (by simpa using ht)) (kk _ _ _ hl h2 h1a)
  · cases hp
theorem ev_r_dup2 (hx : p.tables.exec = Jvm.exec) (hb : c.code = cc) (hd : decode cc pc = .ok (.dup2, len)) (hp : ev_dup2 lv st = some (len, lv', st')) (hl : lv_has ls nL clv) (h2 : ev_g2 B b clv lv) (h1 : ev_g1 B b cst st) (kk : ∀ (ls' : Array Slot) (clv' : List (Nat × Value)) (cst' : List Value), lv_has ls' nL clv' → ev_g2 B b clv' lv' → ev_g1 B b cst' st' → W p l e R s m args below meth c H locs cells slots Q (F0 m (pc + len) ls' cst')) : W p l e R s m args below meth c H locs cells slots Q (F0 m pc ls cst) := by
  unfold ev_dup2 at hp
  split at hp
  · split at hp
    · rename_i a r ht
      cases hp
      obtain ⟨v, vs, rfl, e2, u1⟩ := ev_cons h1
      exact lv_dup2_2 hx hb hd (ev_cat2 e2 ht) (kk _ _ _ hl h2 ⟨e2, e2, u1⟩)
    · rename_i a r ht
      split at hp
      · split at hp
        · cases hp
        · rename_i a' r' ht'
          cases hp
          obtain ⟨v, vs, rfl, e2, u1⟩ := ev_cons h1
          obtain ⟨v', vs, rfl, e3, u2⟩ := ev_cons u1
          exact lv_dup2_11 hx hb hd (ev_cat1 e2 (by simpa using ht)) (ev_cat1 e3 (by simpa using ht')) (kk _ _ _ hl h2 ⟨e2, e3, e2, e3, u2⟩)
      · cases hp
  · cases hp
theorem ev_pure_ok {ins : Instr} (hx : p.tables.exec = Jvm.exec) (hb : c.code = cc) (hd : decode cc pc = .ok (ins, len)) (hp : ev_pure nL ins lv st = some (len, lv', st')) (hl : lv_has ls nL clv) (h2 : ev_g2 B b clv lv) (h1 : ev_g1 B b cst st) (kk : ∀ (ls' : Array Slot) (clv' : List (Nat × Value)) (cst' : List Value), lv_has ls' nL clv' → ev_g2 B b clv' lv' → ev_g1 B b cst' st' → W p l e R s m args below meth c H locs cells slots Q (F0 m (pc + len) ls' cst')) : W p l e R s m args below meth c H locs cells slots Q (F0 m pc ls cst) := by
  cases ins
  case iconst n => cases hp; exact lv_iconst hx hb hd rfl (kk _ _ _ hl h2 ⟨ev_I_ok _, h1⟩)
  case bipush n => cases hp; exact lv_bipush hx hb hd rfl (kk _ _ _ hl h2 ⟨ev_I_ok _, h1⟩)
  case sipush n => cases hp; exact lv_sipush hx hb hd rfl (kk _ _ _ hl h2 ⟨ev_I_ok _, h1⟩)
  case lconst n => cases hp; exact lv_lconst hx hb hd rfl (kk _ _ _ hl h2 ⟨ev_J_ok _, h1⟩)
  case aconst_null => cases hp; exact lv_null hx hb hd (kk _ _ _ hl h2 ⟨rfl, h1⟩)
  case iload_n k => exact ev_r_iload_n hx hb hd hp hl h2 h1 kk
  case iload i => exact ev_r_iload hx hb hd hp hl h2 h1 kk
  case istore_n k => exact ev_r_istore_n hx hb hd hp hl h2 h1 kk
  case istore i => exact ev_r_istore hx hb hd hp hl h2 h1 kk
  case lload_n k => exact ev_r_lload_n hx hb hd hp hl h2 h1 kk
  case lload i => exact ev_r_lload hx hb hd hp hl h2 h1 kk
  case lstore_n k => exact ev_r_lstore_n hx hb hd hp hl h2 h1 kk
  case lstore i => exact ev_r_lstore hx hb hd hp hl h2 h1 kk
  case aload_n k => exact ev_r_aload_n hx hb hd hp hl h2 h1 kk
  case aload i => exact ev_r_aload hx hb hd hp hl h2 h1 kk
  case astore_n k => exact ev_r_astore_n hx hb hd hp hl h2 h1 kk
  case astore i => exact ev_r_astore hx hb hd hp hl h2 h1 kk
  case iinc i n => exact ev_r_iinc hx hb hd hp hl h2 h1 kk
  case iadd => exact ev_r_iadd hx hb hd hp hl h2 h1 kk
  case isub => exact ev_r_isub hx hb hd hp hl h2 h1 kk
  case imul => exact ev_r_imul hx hb hd hp hl h2 h1 kk
  case iand => exact ev_r_iand hx hb hd hp hl h2 h1 kk
  case ior => exact ev_r_ior hx hb hd hp hl h2 h1 kk
  case ixor => exact ev_r_ixor hx hb hd hp hl h2 h1 kk
  case ishl => exact ev_r_ishl hx hb hd hp hl h2 h1 kk
  case ishr => exact ev_r_ishr hx hb hd hp hl h2 h1 kk
  case iushr => exact ev_r_iushr hx hb hd hp hl h2 h1 kk
  case ladd => exact ev_r_ladd hx hb hd hp hl h2 h1 kk
  case lsub => exact ev_r_lsub hx hb hd hp hl h2 h1 kk
  case lmul => exact ev_r_lmul hx hb hd hp hl h2 h1 kk
  case land => exact ev_r_land hx hb hd hp hl h2 h1 kk
  case lor => exact ev_r_lor hx hb hd hp hl h2 h1 kk
  case lxor => exact ev_r_lxor hx hb hd hp hl h2 h1 kk
  case lshl => exact ev_r_lshl hx hb hd hp hl h2 h1 kk
  case lshr => exact ev_r_lshr hx hb hd hp hl h2 h1 kk
  case lushr => exact ev_r_lushr hx hb hd hp hl h2 h1 kk
  case idiv => exact ev_r_idiv hx hb hd hp hl h2 h1 kk
  case irem => exact ev_r_irem hx hb hd hp hl h2 h1 kk
  case ldiv => exact ev_r_ldiv hx hb hd hp hl h2 h1 kk
  case lrem => exact ev_r_lrem hx hb hd hp hl h2 h1 kk
  case lcmp => exact ev_r_lcmp hx hb hd hp hl h2 h1 kk
  case i2l => exact ev_r_i2l hx hb hd hp hl h2 h1 kk
  case l2i => exact ev_r_l2i hx hb hd hp hl h2 h1 kk
  case dup => exact ev_r_dup hx hb hd hp hl h2 h1 kk
  case dup2 => exact ev_r_dup2 hx hb hd hp hl h2 h1 kk
  case pop => exact ev_r_pop hx hb hd hp hl h2 h1 kk
  all_goals (exact absurd hp (by simp [ev_pure]))
end EVP
end
section
/-! branches: what both ways may be -/
def ev_rel (cd : ClassFile.Cond) (l1 h1 l2 h2 : Int) : Bool × Bool := match cd with
  | .eq => (decide (l1 ≤ h2) && decide (l2 ≤ h1), !(decide (l1 = h1) && decide (l2 = h2) && decide (l1 = l2)))
  | .ne => (!(decide (l1 = h1) && decide (l2 = h2) && decide (l1 = l2)), decide (l1 ≤ h2) && decide (l2 ≤ h1))
  | .lt => (decide (l1 < h2), decide (l2 ≤ h1))
  | .ge => (decide (l2 ≤ h1), decide (l1 < h2))
  | .gt => (decide (l2 < h1), decide (l1 ≤ h2))
  | .le => (decide (l1 ≤ h2), decide (l2 < h1))
abbrev ev_T : Type := Option (List (Nat × List ev_A))
def ev_two (pc : Nat) (off : Int) (q : Bool × Bool) (r : List ev_A) : ev_T :=
  if 0 ≤ (pc : Int) + off then some ((if q.1 then [(((pc : Int) + off).toNat, r)] else []) ++ (if q.2 then [(pc + 3, r)] else [])) else none
def ev_sws (pc : Nat) (l h : Int) (r : List ev_A) : Int → List Int → ev_T
  | _, [] => some []
  | k, off :: os => match ev_sws pc l h r (k + 1) os with
    | none => none
    | some L => if l ≤ k ∧ k ≤ h then (if 0 ≤ (pc : Int) + off then some ((((pc : Int) + off).toNat, r) :: L) else none) else some L
def ev_sw (pc : Nat) (dflt lo hi : Int) (offs : List Int) (l h : Int) (r : List ev_A) : ev_T :=
  if (offs.length : Int) = hi - lo + 1 ∧ 0 ≤ (pc : Int) + dflt then match ev_sws pc l h r lo offs with
    | none => none
    | some L => if l < lo ∨ hi < h then some ((((pc : Int) + dflt).toNat, r) :: L) else some L
  else none
def ev_b1 (pc : Nat) (cd : ClassFile.Cond) (off : Int) (st : List ev_A) : ev_T := match st with
  | (t, l, h) :: r => if t == 0 then ev_two pc off (ev_rel cd l h 0 0) r else none
  | [] => none
def ev_b2 (pc : Nat) (cd : ClassFile.Cond) (off : Int) (st : List ev_A) : ev_T := match st with
  | (t2, l2, h2) :: (t1, l1, h1) :: r => if t1 == 0 && t2 == 0 then ev_two pc off (ev_rel cd l1 h1 l2 h2) r else none
  | _ => none
def ev_bn (pc : Nat) (w : Bool) (off : Int) (st : List ev_A) : ev_T := match st with
  | (t, _, _) :: r => if t == 0 || t == 1 then none else ev_two pc off ((t == 3) == w, !((t == 3) == w)) r
  | [] => none
def ev_bt (pc : Nat) (dflt lo hi : Int) (offs : Array Int) (st : List ev_A) : ev_T := match st with
  | (t, l, h) :: r => if t == 0 then ev_sw pc dflt lo hi offs.toList l h r else none
  | [] => none
def ev_br (pc len : Nat) (ins : Instr) (st : List ev_A) : ev_T := match ins with
  | .goto off => if len == 3 && decide (0 ≤ (pc : Int) + off) then some [(((pc : Int) + off).toNat, st)] else none
  | .ifCond cd off => if len == 3 then ev_b1 pc cd off st else none
  | .if_icmp cd off => if len == 3 then ev_b2 pc cd off st else none
  | .ifnull off => if len == 3 then ev_bn pc true off st else none
  | .ifnonnull off => if len == 3 then ev_bn pc false off st else none
  | .tableswitch dflt lo hi offs => ev_bt pc dflt lo hi offs st
  | _ => none
theorem ev_two_inv {pc : Nat} {off : Int} {q : Bool × Bool} {r : List ev_A} {L : List (Nat × List ev_A)} (h : ev_two pc off q r = some L) : (pc : Int) + off = ((((pc : Int) + off).toNat : Nat) : Int) ∧ (q.1 = true → (((pc : Int) + off).toNat, r) ∈ L) ∧ (q.2 = true → (pc + 3, r) ∈ L) := by
  unfold ev_two at h
  split at h
  · rename_i h0
    cases h
    refine ⟨by omega, fun e => ?_, fun e => ?_⟩
    · rw [e]; simp
    · rw [e]; simp
  · cases h
theorem ev_sws_mem {pc : Nat} {l h : Int} {r : List ev_A} : ∀ {os : List Int} {k : Int} {L : List (Nat × List ev_A)}, ev_sws pc l h r k os = some L → ∀ {j : Nat} {off : Int}, os[j]? = some off → l ≤ k + j → k + j ≤ h → 0 ≤ (pc : Int) + off ∧ (((pc : Int) + off).toNat, r) ∈ L
  | [], _, _, _, j, off, hj, _, _ => by simp at hj
  | o :: os, k, L, hs, j, off, hj, h1, h2 => by
    unfold ev_sws at hs
    split at hs
    · cases hs
    · rename_i L' hL'
      cases j with
      | zero =>
        have e : o = off := by simpa using hj
        subst e
        rw [if_pos (by constructor <;> omega)] at hs
        split at hs
        · rename_i h0
          cases hs
          exact ⟨h0, List.mem_cons_self⟩
        · cases hs
      | succ j =>
        have ih := ev_sws_mem hL' (j := j) (off := off) (by simpa using hj) (by push_cast at h1; omega) (by push_cast at h2; omega)
        split at hs
        · split at hs
          · cases hs
            exact ⟨ih.1, List.mem_cons_of_mem _ ih.2⟩
          · cases hs
        · cases hs
          exact ih
section EVB
variable {p : Program} {l : Launch} {e : Env} {R : Room} {s : State} {m : MethodId} {args : Array Value} {below : List Frame} {meth : Method} {c : Code} {H : Heap} {locs : List Loc} {cells slots : Nat} {Q : State → Prop}
variable {cc : ByteArray} {pc : Nat} {ls : Array Slot} {B b len : Nat} {st : List ev_A} {L : List (Nat × List ev_A)} {cst : List Value}
theorem ev_cI {x y : Int32} : (x = y ↔ x.toInt = y.toInt) ∧ (x < y ↔ x.toInt < y.toInt) ∧ (x ≤ y ↔ x.toInt ≤ y.toInt) := ⟨Int32.toInt_inj.symm, Int32.lt_iff_toInt_lt, Int32.le_iff_toInt_le⟩
theorem ev_r_if_eq {off : Int} (hx : p.tables.exec = Jvm.exec) (hb : c.code = cc) (hd : decode cc pc = .ok (.ifCond .eq off, 3)) (hp : ev_b1 pc .eq off st = some L) (h1 : ev_g1 B b cst st) (kk : ∀ q ∈ L, ∀ cst' : List Value, ev_g1 B b cst' q.2 → W p l e R s m args below meth c H locs cells slots Q (F0 m q.1 ls cst')) : W p l e R s m args below meth c H locs cells slots Q (F0 m pc ls cst) := by
  unfold ev_b1 at hp
  split at hp
  · split at hp
    · rename_i t lo hi r ht
      obtain ⟨hz, k1, k2⟩ := ev_two_inv hp
      obtain ⟨v, vs, rfl, e2, h1b⟩ := ev_cons h1
      obtain ⟨x, rfl, a1, a2⟩ := ev_isI e2 ht
      dsimp only at a1 a2
      have z0 : (0 : Int32).toInt = 0 := rfl
      refine lv_if_eq hx hb hd hz (fun hc => kk _ (k1 ?_) vs h1b) (fun hc => kk _ (k2 ?_) vs h1b) <;>
        (simp only [ge_iff_le, gt_iff_lt, ne_eq, (ev_cI (x := x) (y := 0)).1, (ev_cI (x := x) (y := 0)).2.1, (ev_cI (x := x) (y := 0)).2.2, (ev_cI (x := 0) (y := x)).2.1, (ev_cI (x := 0) (y := x)).2.2, z0] at hc
         simp [ev_rel]
         try omega)
    · cases hp
  · cases hp
theorem ev_r_ic_eq {off : Int} (hx : p.tables.exec = Jvm.exec) (hb : c.code = cc) (hd : decode cc pc = .ok (.if_icmp .eq off, 3)) (hp : ev_b2 pc .eq off st = some L) (h1 : ev_g1 B b cst st) (kk : ∀ q ∈ L, ∀ cst' : List Value, ev_g1 B b cst' q.2 → W p l e R s m args below meth c H locs cells slots Q (F0 m q.1 ls cst')) : W p l e R s m args below meth c H locs cells slots Q (F0 m pc ls cst) := by
  unfold ev_b2 at hp
  split at hp
  · split at hp
    · rename_i t2 l2 g2 t1 l1 g1 r ht
      obtain ⟨hz, k1, k2⟩ := ev_two_inv hp
      rw [Bool.and_eq_true] at ht
      obtain ⟨v, vs, rfl, e2, h1c⟩ := ev_cons h1
      obtain ⟨v', vs, rfl, e1, h1d⟩ := ev_cons h1c
      obtain ⟨y, rfl, b1, b2⟩ := ev_isI e2 ht.2
      obtain ⟨x, rfl, a1, a2⟩ := ev_isI e1 ht.1
      dsimp only at a1 a2 b1 b2
      refine lv_icmp_eq hx hb hd hz (fun hc => kk _ (k1 ?_) vs h1d) (fun hc => kk _ (k2 ?_) vs h1d) <;>
        (simp only [ge_iff_le, gt_iff_lt, ne_eq, (ev_cI (x := x) (y := y)).1, (ev_cI (x := x) (y := y)).2.1, (ev_cI (x := x) (y := y)).2.2, (ev_cI (x := y) (y := x)).2.1, (ev_cI (x := y) (y := x)).2.2] at hc
         simp [ev_rel]
         try omega)
    · cases hp
  · cases hp
theorem ev_r_if_ne {off : Int} (hx : p.tables.exec = Jvm.exec) (hb : c.code = cc) (hd : decode cc pc = .ok (.ifCond .ne off, 3)) (hp : ev_b1 pc .ne off st = some L) (h1 : ev_g1 B b cst st) (kk : ∀ q ∈ L, ∀ cst' : List Value, ev_g1 B b cst' q.2 → W p l e R s m args below meth c H locs cells slots Q (F0 m q.1 ls cst')) : W p l e R s m args below meth c H locs cells slots Q (F0 m pc ls cst) := by
  unfold ev_b1 at hp
  split at hp
  · split at hp
    · rename_i t lo hi r ht
      obtain ⟨hz, k1, k2⟩ := ev_two_inv hp
      obtain ⟨v, vs, rfl, e2, h1e⟩ := ev_cons h1
      obtain ⟨x, rfl, a1, a2⟩ := ev_isI e2 ht
      dsimp only at a1 a2
      have z0 : (0 : Int32).toInt = 0 := rfl
      refine lv_if_ne hx hb hd hz (fun hc => kk _ (k1 ?_) vs h1e) (fun hc => kk _ (k2 ?_) vs h1e) <;>
        (simp only [ge_iff_le, gt_iff_lt, ne_eq, (ev_cI (x := x) (y := 0)).1, (ev_cI (x := x) (y := 0)).2.1, (ev_cI (x := x) (y := 0)).2.2, (ev_cI (x := 0) (y := x)).2.1, (ev_cI (x := 0) (y := x)).2.2, z0] at hc
         simp [ev_rel]
         try omega)
    · cases hp
  · cases hp
theorem ev_r_ic_ne {off : Int} (hx : p.tables.exec = Jvm.exec) (hb : c.code = cc) (hd : decode cc pc = .ok (.if_icmp .ne off, 3)) (hp : ev_b2 pc .ne off st = some L) (h1 : ev_g1 B b cst st) (kk : ∀ q ∈ L, ∀ cst' : List Value, ev_g1 B b cst' q.2 → W p l e R s m args below meth c H locs cells slots Q (F0 m q.1 ls cst')) : W p l e R s m args below meth c H locs cells slots Q (F0 m pc ls cst) := by
  unfold ev_b2 at hp
  split at hp
  · split at hp
    · rename_i t2 l2 g2 t1 l1 g1 r ht
      obtain ⟨hz, k1, k2⟩ := ev_two_inv hp
      rw [Bool.and_eq_true] at ht
      obtain ⟨v, vs, rfl, e2, h1f⟩ := ev_cons h1
      obtain ⟨v', vs, rfl, e1, h1g⟩ := ev_cons h1f
      obtain ⟨y, rfl, b1, b2⟩ := ev_isI e2 ht.2
      obtain ⟨x, rfl, a1, a2⟩ := ev_isI e1 ht.1
      dsimp only at a1 a2 b1 b2
      refine lv_icmp_ne hx hb hd hz (fun hc => kk _ (k1 ?_) vs h1g) (fun hc => kk _ (k2 ?_) vs h1g) <;>
        (simp only [ge_iff_le, gt_iff_lt, ne_eq, (ev_cI (x := x) (y := y)).1, (ev_cI (x := x) (y := y)).2.1, (ev_cI (x := x) (y := y)).2.2, (ev_cI (x := y) (y := x)).2.1, (ev_cI (x := y) (y := x)).2.2] at hc
         simp [ev_rel]
         try omega)
    · cases hp
  · cases hp
theorem ev_r_if_lt {off : Int} (hx : p.tables.exec = Jvm.exec) (hb : c.code = cc) (hd : decode cc pc = .ok (.ifCond .lt off, 3)) (hp : ev_b1 pc .lt off st = some L) (h1 : ev_g1 B b cst st) (kk : ∀ q ∈ L, ∀ cst' : List Value, ev_g1 B b cst' q.2 → W p l e R s m args below meth c H locs cells slots Q (F0 m q.1 ls cst')) : W p l e R s m args below meth c H locs cells slots Q (F0 m pc ls cst) := by
  unfold ev_b1 at hp
  split at hp
  · split at hp
    · rename_i t lo hi r ht
      obtain ⟨hz, k1, k2⟩ := ev_two_inv hp
      obtain ⟨v, vs, rfl, e2, h1h⟩ := ev_cons h1
      obtain ⟨x, rfl, a1, a2⟩ := ev_isI e2 ht
      dsimp only at a1 a2
      have z0 : (0 : Int32).toInt = 0 := rfl
      refine lv_if_lt hx hb hd hz (fun hc => kk _ (k1 ?_) vs h1h) (fun hc => kk _ (k2 ?_) vs h1h) <;>
        (simp only [ge_iff_le, gt_iff_lt, ne_eq, (ev_cI (x := x) (y := 0)).1, (ev_cI (x := x) (y := 0)).2.1, (ev_cI (x := x) (y := 0)).2.2, (ev_cI (x := 0) (y := x)).2.1, (ev_cI (x := 0) (y := x)).2.2, z0] at hc
         simp [ev_rel]
         try omega)
    · cases hp
  · cases hp
theorem ev_r_ic_lt {off : Int} (hx : p.tables.exec = Jvm.exec) (hb : c.code = cc) (hd : decode cc pc = .ok (.if_icmp .lt off, 3)) (hp : ev_b2 pc .lt off st = some L) (h1 : ev_g1 B b cst st) (kk : ∀ q ∈ L, ∀ cst' : List Value, ev_g1 B b cst' q.2 → W p l e R s m args below meth c H locs cells slots Q (F0 m q.1 ls cst')) : W p l e R s m args below meth c H locs cells slots Q (F0 m pc ls cst) := by
  unfold ev_b2 at hp
  split at hp
  · split at hp
    · rename_i t2 l2 g2 t1 l1 g1 r ht
      obtain ⟨hz, k1, k2⟩ := ev_two_inv hp
      rw [Bool.and_eq_true] at ht
      obtain ⟨v, vs, rfl, e2, h1a⟩ := ev_cons h1
      obtain ⟨v', vs, rfl, e1, h1b⟩ := ev_cons h1a
      obtain ⟨y, rfl, b1, b2⟩ := ev_isI e2 ht.2
      obtain ⟨x, rfl, a1, a2⟩ := ev_isI e1 ht.1
      dsimp only at a1 a2 b1 b2
      refine lv_icmp_lt hx hb hd hz (fun hc => kk _ (k1 ?_) vs h1b) (fun hc => kk _ (k2 ?_) vs h1b) <;>
        (simp only [ge_iff_le, gt_iff_lt, ne_eq, (ev_cI (x := x) (y := y)).1, (ev_cI (x := x) (y := y)).2.1, (ev_cI (x := x) (y := y)).2.2, (ev_cI (x := y) (y := x)).2.1, (ev_cI (x := y) (y := x)).2.2] at hc
         simp [ev_rel]
         try omega)
    · cases hp
  · cases hp
theorem ev_r_if_ge {off : Int} (hx : p.tables.exec = Jvm.exec) (hb : c.code = cc) (hd : decode cc pc = .ok (.ifCond .ge off, 3)) (hp : ev_b1 pc .ge off st = some L) (h1 : ev_g1 B b cst st) (kk : ∀ q ∈ L, ∀ cst' : List Value, ev_g1 B b cst' q.2 → W p l e R s m args below meth c H locs cells slots Q (F0 m q.1 ls cst')) : W p l e R s m args below meth c H locs cells slots Q (F0 m pc ls cst) := by
  unfold ev_b1 at hp
  split at hp
  · split at hp
    · rename_i t lo hi r ht
      obtain ⟨hz, k1, k2⟩ := ev_two_inv hp
      obtain ⟨v, vs, rfl, e2, h1c⟩ := ev_cons h1
      obtain ⟨x, rfl, a1, a2⟩ := ev_isI e2 ht
      dsimp only at a1 a2
      have z0 : (0 : Int32).toInt = 0 := rfl
      refine lv_if_ge hx hb hd hz (fun hc => kk _ (k1 ?_) vs h1c) (fun hc => kk _ (k2 ?_) vs h1c) <;>
        (simp only [ge_iff_le, gt_iff_lt, ne_eq, (ev_cI (x := x) (y := 0)).1, (ev_cI (x := x) (y := 0)).2.1, (ev_cI (x := x) (y := 0)).2.2, (ev_cI (x := 0) (y := x)).2.1, (ev_cI (x := 0) (y := x)).2.2, z0] at hc
         simp [ev_rel]
         try omega)
    · cases hp
  · cases hp
theorem ev_r_ic_ge {off : Int} (hx : p.tables.exec = Jvm.exec) (hb : c.code = cc) (hd : decode cc pc = .ok (.if_icmp .ge off, 3)) (hp : ev_b2 pc .ge off st = some L) (h1 : ev_g1 B b cst st) (kk : ∀ q ∈ L, ∀ cst' : List Value, ev_g1 B b cst' q.2 → W p l e R s m args below meth c H locs cells slots Q (F0 m q.1 ls cst')) : W p l e R s m args below meth c H locs cells slots Q (F0 m pc ls cst) := by
  unfold ev_b2 at hp
  split at hp
  · split at hp
    · rename_i t2 l2 g2 t1 l1 g1 r ht
      obtain ⟨hz, k1, k2⟩ := ev_two_inv hp
      rw [Bool.and_eq_true] at ht
      obtain ⟨v, vs, rfl, e2, h1d⟩ := ev_cons h1
      obtain ⟨v', vs, rfl, e1, h1e⟩ := ev_cons h1d
      obtain ⟨y, rfl, b1, b2⟩ := ev_isI e2 ht.2
      obtain ⟨x, rfl, a1, a2⟩ := ev_isI e1 ht.1
      dsimp only at a1 a2 b1 b2
      refine lv_icmp_ge hx hb hd hz (fun hc => kk _ (k1 ?_) vs h1e) (fun hc => kk _ (k2 ?_) vs h1e) <;>
        (simp only [ge_iff_le, gt_iff_lt, ne_eq, (ev_cI (x := x) (y := y)).1, (ev_cI (x := x) (y := y)).2.1, (ev_cI (x := x) (y := y)).2.2, (ev_cI (x := y) (y := x)).2.1, (ev_cI (x := y) (y := x)).2.2] at hc
         simp [ev_rel]
         try omega)
    · cases hp
  · cases hp
theorem ev_r_if_gt {off : Int} (hx : p.tables.exec = Jvm.exec) (hb : c.code = cc) (hd : decode cc pc = .ok (.ifCond .gt off, 3)) (hp : ev_b1 pc .gt off st = some L) (h1 : ev_g1 B b cst st) (kk : ∀ q ∈ L, ∀ cst' : List Value, ev_g1 B b cst' q.2 → W p l e R s m args below meth c H locs cells slots Q (F0 m q.1 ls cst')) : W p l e R s m args below meth c H locs cells slots Q (F0 m pc ls cst) := by
  unfold ev_b1 at hp
  split at hp
  · split at hp
    · rename_i t lo hi r ht
      obtain ⟨hz, k1, k2⟩ := ev_two_inv hp
      obtain ⟨v, vs, rfl, e2, h1f⟩ := ev_cons h1
      obtain ⟨x, rfl, a1, a2⟩ := ev_isI e2 ht
      dsimp only at a1 a2
      have z0 : (0 : Int32).toInt = 0 := rfl
      refine lv_if_gt hx hb hd hz (fun hc => kk _ (k1 ?_) vs h1f) (fun hc => kk _ (k2 ?_) vs h1f) <;>
        (simp only [ge_iff_le, gt_iff_lt, ne_eq, (ev_cI (x := x) (y := 0)).1, (ev_cI (x := x) (y := 0)).2.1, (ev_cI (x := x) (y := 0)).2.2, (ev_cI (x := 0) (y := x)).2.1, (ev_cI (x := 0) (y := x)).2.2, z0] at hc
         simp [ev_rel]
         try omega)
    · cases hp
  · cases hp
theorem ev_r_ic_gt {off : Int} (hx : p.tables.exec = Jvm.exec) (hb : c.code = cc) (hd : decode cc pc = .ok (.if_icmp .gt off, 3)) (hp : ev_b2 pc .gt off st = some L) (h1 : ev_g1 B b cst st) (kk : ∀ q ∈ L, ∀ cst' : List Value, ev_g1 B b cst' q.2 → W p l e R s m args below meth c H locs cells slots Q (F0 m q.1 ls cst')) : W p l e R s m args below meth c H locs cells slots Q (F0 m pc ls cst) := by
  unfold ev_b2 at hp
  split at hp
  · split at hp
    · rename_i t2 l2 g2 t1 l1 g1 r ht
      obtain ⟨hz, k1, k2⟩ := ev_two_inv hp
      rw [Bool.and_eq_true] at ht
      obtain ⟨v, vs, rfl, e2, h1g⟩ := ev_cons h1
      obtain ⟨v', vs, rfl, e1, h1h⟩ := ev_cons h1g
      obtain ⟨y, rfl, b1, b2⟩ := ev_isI e2 ht.2
      obtain ⟨x, rfl, a1, a2⟩ := ev_isI e1 ht.1
      dsimp only at a1 a2 b1 b2
      refine lv_icmp_gt hx hb hd hz (fun hc => kk _ (k1 ?_) vs h1h) (fun hc => kk _ (k2 ?_) vs h1h) <;>
        (simp only [ge_iff_le, gt_iff_lt, ne_eq, (ev_cI (x := x) (y := y)).1, (ev_cI (x := x) (y := y)).2.1, (ev_cI (x := x) (y := y)).2.2, (ev_cI (x := y) (y := x)).2.1, (ev_cI (x := y) (y := x)).2.2] at hc
         simp [ev_rel]
         try omega)
    · cases hp
  · cases hp
theorem ev_r_if_le {off : Int} (hx : p.tables.exec = Jvm.exec) (hb : c.code = cc) (hd : decode cc pc = .ok (.ifCond .le off, 3)) (hp : ev_b1 pc .le off st = some L) (h1 : ev_g1 B b cst st) (kk : ∀ q ∈ L, ∀ cst' : List Value, ev_g1 B b cst' q.2 → W p l e R s m args below meth c H locs cells slots Q (F0 m q.1 ls cst')) : W p l e R s m args below meth c H locs cells slots Q (F0 m pc ls cst) := by
  unfold ev_b1 at hp
  split at hp
  · split at hp
    · rename_i t lo hi r ht
      obtain ⟨hz, k1, k2⟩ := ev_two_inv hp
      obtain ⟨v, vs, rfl, e2, h1a⟩ := ev_cons h1
      obtain ⟨x, rfl, a1, a2⟩ := ev_isI e2 ht
      dsimp only at a1 a2
      have z0 : (0 : Int32).toInt = 0 := rfl
      refine lv_if_le hx hb hd hz (fun hc => kk _ (k1 ?_) vs h1a) (fun hc => kk _ (k2 ?_) vs h1a) <;>
        (simp only [ge_iff_le, gt_iff_lt, ne_eq, (ev_cI (x := x) (y := 0)).1, (ev_cI (x := x) (y := 0)).2.1, (ev_cI (x := x) (y := 0)).2.2, (ev_cI (x := 0) (y := x)).2.1, (ev_cI (x := 0) (y := x)).2.2, z0] at hc
         simp [ev_rel]
         try omega)
    · cases hp
  · cases hp
theorem ev_r_ic_le {off : Int} (hx : p.tables.exec = Jvm.exec) (hb : c.code = cc) (hd : decode cc pc = .ok (.if_icmp .le off, 3)) (hp : ev_b2 pc .le off st = some L) (h1 : ev_g1 B b cst st) (kk : ∀ q ∈ L, ∀ cst' : List Value, ev_g1 B b cst' q.2 → W p l e R s m args below meth c H locs cells slots Q (F0 m q.1 ls cst')) : W p l e R s m args below meth c H locs cells slots Q (F0 m pc ls cst) := by
  unfold ev_b2 at hp
  split at hp
  · split at hp
    · rename_i t2 l2 g2 t1 l1 g1 r ht
      obtain ⟨hz, k1, k2⟩ := ev_two_inv hp
      rw [Bool.and_eq_true] at ht
      obtain ⟨v, vs, rfl, e2, h1b⟩ := ev_cons h1
      obtain ⟨v', vs, rfl, e1, h1c⟩ := ev_cons h1b
      obtain ⟨y, rfl, b1, b2⟩ := ev_isI e2 ht.2
      obtain ⟨x, rfl, a1, a2⟩ := ev_isI e1 ht.1
      dsimp only at a1 a2 b1 b2
      refine lv_icmp_le hx hb hd hz (fun hc => kk _ (k1 ?_) vs h1c) (fun hc => kk _ (k2 ?_) vs h1c) <;>
        (simp only [ge_iff_le, gt_iff_lt, ne_eq, (ev_cI (x := x) (y := y)).1, (ev_cI (x := x) (y := y)).2.1, (ev_cI (x := x) (y := y)).2.2, (ev_cI (x := y) (y := x)).2.1, (ev_cI (x := y) (y := x)).2.2] at hc
         simp [ev_rel]
         try omega)
    · cases hp
  · cases hp
theorem ev_r_ifnull {off : Int} (hx : p.tables.exec = Jvm.exec) (hb : c.code = cc) (hd : decode cc pc = .ok (.ifnull off, 3)) (hp : ev_bn pc true off st = some L) (h1 : ev_g1 B b cst st) (kk : ∀ q ∈ L, ∀ cst' : List Value, ev_g1 B b cst' q.2 → W p l e R s m args below meth c H locs cells slots Q (F0 m q.1 ls cst')) : W p l e R s m args below meth c H locs cells slots Q (F0 m pc ls cst) := by
  unfold ev_bn at hp
  split at hp
  · split at hp
    · cases hp
    · rename_i t lo hi r ht
      obtain ⟨hz, k1, k2⟩ := ev_two_inv hp
      obtain ⟨v, vs, rfl, e2, h1d⟩ := ev_cons h1
      unfold ev_g at e2
      dsimp only at e2 k1 k2
      split at e2
      · exact absurd rfl ht
      · exact absurd rfl ht
      · subst e2; exact lv_ifnull hx hb hd (kk _ (k2 rfl) vs h1d)
      · subst e2; exact lv_ifnullN hx hb hd hz (kk _ (k1 rfl) vs h1d)
      · rename_i n0 n1 n2 n3
        subst e2
        exact lv_ifnull hx hb hd (kk _ (k2 (by simpa using n3)) vs h1d)
  · cases hp
theorem ev_r_ifnonnull {off : Int} (hx : p.tables.exec = Jvm.exec) (hb : c.code = cc) (hd : decode cc pc = .ok (.ifnonnull off, 3)) (hp : ev_bn pc false off st = some L) (h1 : ev_g1 B b cst st) (kk : ∀ q ∈ L, ∀ cst' : List Value, ev_g1 B b cst' q.2 → W p l e R s m args below meth c H locs cells slots Q (F0 m q.1 ls cst')) : W p l e R s m args below meth c H locs cells slots Q (F0 m pc ls cst) := by
  unfold ev_bn at hp
  split at hp
  · split at hp
    · cases hp
    · rename_i t lo hi r ht
      obtain ⟨hz, k1, k2⟩ := ev_two_inv hp
      obtain ⟨v, vs, rfl, e2, h1e⟩ := ev_cons h1
      unfold ev_g at e2
      dsimp only at e2 k1 k2
      split at e2
      · exact absurd rfl ht
      · exact absurd rfl ht
      · subst e2; exact lv_ifnonnull hx hb hd hz (kk _ (k1 rfl) vs h1e)
      · subst e2; exact lv_ifnonnullN hx hb hd (kk _ (k2 rfl) vs h1e)
      · rename_i n0 n1 n2 n3
        subst e2
        exact lv_ifnonnull hx hb hd hz (kk _ (k1 (by simpa using n3)) vs h1e)
  · cases hp
theorem ev_r_tab {dflt lo hi : Int} {offs : Array Int} (hx : p.tables.exec = Jvm.exec) (hb : c.code = cc) (hd : decode cc pc = .ok (.tableswitch dflt lo hi offs, len)) (hp : ev_bt pc dflt lo hi offs st = some L) (h1 : ev_g1 B b cst st) (kk : ∀ q ∈ L, ∀ cst' : List Value, ev_g1 B b cst' q.2 → W p l e R s m args below meth c H locs cells slots Q (F0 m q.1 ls cst')) : W p l e R s m args below meth c H locs cells slots Q (F0 m pc ls cst) := by
  unfold ev_bt at hp
  split at hp
  · split at hp
    · rename_i t l0 g0 r ht
      obtain ⟨v, vs, rfl, e2, h1f⟩ := ev_cons h1
      obtain ⟨x, rfl, a1, a2⟩ := ev_isI e2 ht
      dsimp only at a1 a2
      unfold ev_sw at hp
      split at hp
      · rename_i hz
        split at hp
        · cases hp
        · rename_i L' hL'
          by_cases ho : x.toInt < lo ∨ hi < x.toInt
          · rw [if_pos (by omega)] at hp
            cases hp
            exact lv_tableOut hx hb hd ho (tgt := ((pc : Int) + dflt).toNat) (by omega) (kk _ List.mem_cons_self vs h1f)
          · have hlt : (x.toInt - lo).toNat < offs.toList.length := by omega
            have hj : offs.toList[(x.toInt - lo).toNat]? = some offs.toList[(x.toInt - lo).toNat] := List.getElem?_eq_getElem hlt
            obtain ⟨m1, m2⟩ := ev_sws_mem hL' hj (by omega) (by omega)
            have m3 : (((pc : Int) + offs.toList[(x.toInt - lo).toNat]).toNat, r) ∈ L := by
              split at hp
              · cases hp; exact List.mem_cons_of_mem _ m2
              · cases hp; exact m2
            exact lv_tableIn hx hb hd (by omega) (by omega) (by rw [← Array.getElem?_toList]; exact hj) (by omega) (kk _ m3 vs h1f)
      · cases hp
    · cases hp
  · cases hp
theorem ev_br_ok {ins : Instr} (hx : p.tables.exec = Jvm.exec) (hb : c.code = cc) (hd : decode cc pc = .ok (ins, len)) (hp : ev_br pc len ins st = some L) (h1 : ev_g1 B b cst st) (kk : ∀ q ∈ L, ∀ cst' : List Value, ev_g1 B b cst' q.2 → W p l e R s m args below meth c H locs cells slots Q (F0 m q.1 ls cst')) : W p l e R s m args below meth c H locs cells slots Q (F0 m pc ls cst) := by
  cases ins
  case goto off =>
    simp only [ev_br] at hp
    split at hp
    · rename_i hq
      rw [Bool.and_eq_true, decide_eq_true_eq, beq_iff_eq] at hq
      obtain ⟨rfl, hq⟩ := hq
      cases hp
      exact lv_goto (tgt := ((pc : Int) + off).toNat) hx hb hd (by omega) (kk _ List.mem_cons_self cst h1)
    · cases hp
  case ifCond cd off =>
    simp only [ev_br] at hp
    split at hp
    · rename_i hq
      rw [beq_iff_eq] at hq
      subst hq
      cases cd
      · exact ev_r_if_eq hx hb hd hp h1 kk
      · exact ev_r_if_ne hx hb hd hp h1 kk
      · exact ev_r_if_lt hx hb hd hp h1 kk
      · exact ev_r_if_ge hx hb hd hp h1 kk
      · exact ev_r_if_gt hx hb hd hp h1 kk
      · exact ev_r_if_le hx hb hd hp h1 kk
    · cases hp
  case if_icmp cd off =>
    simp only [ev_br] at hp
    split at hp
    · rename_i hq
      rw [beq_iff_eq] at hq
      subst hq
      cases cd
      · exact ev_r_ic_eq hx hb hd hp h1 kk
      · exact ev_r_ic_ne hx hb hd hp h1 kk
      · exact ev_r_ic_lt hx hb hd hp h1 kk
      · exact ev_r_ic_ge hx hb hd hp h1 kk
      · exact ev_r_ic_gt hx hb hd hp h1 kk
      · exact ev_r_ic_le hx hb hd hp h1 kk
    · cases hp
  case ifnull off =>
    simp only [ev_br] at hp
    split at hp
    · rename_i hq
      rw [beq_iff_eq] at hq
      subst hq
      exact ev_r_ifnull hx hb hd hp h1 kk
    · cases hp
  case ifnonnull off =>
    simp only [ev_br] at hp
    split at hp
    · rename_i hq
      rw [beq_iff_eq] at hq
      subst hq
      exact ev_r_ifnonnull hx hb hd hp h1 kk
    · cases hp
  case tableswitch dflt lo hi offs => exact ev_r_tab hx hb hd hp h1 kk
  all_goals (exact absurd hp (by simp [ev_br]))
end EVB
end
section
/-! cells: which sort (a class's number, or 100 and an array's), how many places, what all hold that aren't listed, the list -/
abbrev ev_C : Type := Nat × Nat × ev_A × List (Nat × ev_A)
def ev_cg (c : ev_C) (j : Nat) : ev_A := match ev_look c.2.2.2 j with
  | some a => a
  | none => c.2.2.1
def ev_up : List (Nat × ev_A) → Nat → ev_A → List (Nat × ev_A)
  | [], j, a => [(j, a)]
  | q :: r, j, a => if q.1 == j then (j, a) :: r else q :: ev_up r j a
theorem ev_up_look : ∀ (l : List (Nat × ev_A)) (j : Nat) (a : ev_A) (i : Nat), ev_look (ev_up l j a) i = if i = j then some a else ev_look l i
  | [], j, a, i => by
    by_cases h : i = j
    · subst h; simp [ev_up, ev_look]
    · simp [ev_up, ev_look, h, Ne.symm h]
  | q :: r, j, a, i => by
    have ih := ev_up_look r j a i
    unfold ev_up
    by_cases hq : q.1 = j
    · subst hq
      by_cases h : i = q.1
      · subst h; simp [ev_look]
      · simp [ev_look, h, Ne.symm h]
    · have hq' : (q.1 == j) = false := by simpa using hq
      rw [hq']
      simp only [ev_look, Bool.false_eq_true, if_false]
      by_cases h : q.1 = i
      · subst h
        simp [hq]
      · have h' : (q.1 == i) = false := by simpa using h
        rw [h']
        simp only [Bool.false_eq_true, if_false]
        exact ih
def ev_cs (c : ev_C) (j : Nat) (a : ev_A) : ev_C := (c.1, c.2.1, c.2.2.1, ev_up c.2.2.2 j a)
theorem ev_cg_cs (c : ev_C) (j : Nat) (a : ev_A) (i : Nat) : ev_cg (ev_cs c j a) i = if i = j then a else ev_cg c i := by
  unfold ev_cg ev_cs
  rw [ev_up_look]
  by_cases h : i = j
  · simp [h]
  · simp [h]
/-! lists by place -/
def ev_nth {α : Type} : List α → Nat → Option α
  | [], _ => none
  | a :: _, 0 => some a
  | _ :: l, n + 1 => ev_nth l n
theorem ev_nth_eq {α : Type} : ∀ (l : List α) (i : Nat), ev_nth l i = l[i]?
  | [], _ => by simp [ev_nth]
  | a :: l, 0 => by simp [ev_nth]
  | a :: l, n + 1 => by simp [ev_nth, ev_nth_eq l n]
/-! the list of cells, in rows of sixteen, with its length -/
abbrev ev_Q : Type := Nat × List (List ev_C)
def ev_md {α : Type} (f : α → α) : List α → Nat → List α
  | [], _ => []
  | a :: l, 0 => f a :: l
  | a :: l, n + 1 => a :: ev_md f l n
theorem ev_md_nth {α : Type} (f : α → α) : ∀ (l : List α) (i j : Nat), ev_nth (ev_md f l i) j = if j = i then (ev_nth l j).map f else ev_nth l j
  | [], i, j => by simp [ev_md, ev_nth]
  | a :: l, 0, 0 => by simp [ev_md, ev_nth]
  | a :: l, 0, j + 1 => by simp [ev_md, ev_nth]
  | a :: l, i + 1, 0 => by simp [ev_md, ev_nth]
  | a :: l, i + 1, j + 1 => by
    have := ev_md_nth f l i j
    simp only [ev_md, ev_nth]
    rw [this]
    by_cases h : j = i
    · simp [h]
    · simp [h]
def ev_hg (h : ev_Q) (i : Nat) : Option ev_C := match ev_nth h.2 (i / 16) with
  | some l => ev_nth l (i % 16)
  | none => none
def ev_hs (h : ev_Q) (i : Nat) (c : ev_C) : ev_Q := (h.1, ev_md (fun l => ev_md (fun _ => c) l (i % 16)) h.2 (i / 16))
theorem ev_hg_hs (h : ev_Q) (i : Nat) (c : ev_C) (j : Nat) : ev_hg (ev_hs h i c) j = if j = i then (ev_hg h i).map (fun _ => c) else ev_hg h j := by
  unfold ev_hg ev_hs
  dsimp only
  rw [ev_md_nth]
  by_cases h1 : j / 16 = i / 16
  · rw [if_pos h1, h1]
    cases h2 : ev_nth h.2 (i / 16) with
    | none => simp
    | some l =>
      simp only [Option.map_some]
      rw [ev_md_nth]
      by_cases h3 : j % 16 = i % 16
      · have : j = i := by omega
        subst this
        simp
      · have : ¬ j = i := fun e => h3 (by rw [e])
        simp [h3, this]
  · have : ¬ j = i := fun e => h1 (by rw [e])
    rw [if_neg h1, if_neg this]
/-- a cell more: into the last row, or into a new one -/
def ev_ha (h : ev_Q) (c : ev_C) : Option ev_Q := if h.1 % 16 = 0 then (if h.2.length = h.1 / 16 then some (h.1 + 1, h.2 ++ [[c]]) else none) else match ev_nth h.2 (h.1 / 16) with
  | some l => if l.length = h.1 % 16 then some (h.1 + 1, ev_md (fun l => l ++ [c]) h.2 (h.1 / 16)) else none
  | none => none
theorem ev_nth_app {α : Type} (l : List α) (a : α) (j : Nat) : ev_nth (l ++ [a]) j = if j = l.length then some a else ev_nth l j := by
  rw [ev_nth_eq, ev_nth_eq]
  by_cases h : j = l.length
  · subst h; simp
  · rw [if_neg h]
    by_cases h2 : j < l.length
    · rw [List.getElem?_append_left h2]
    · rw [List.getElem?_append_right (by omega), List.getElem?_eq_none (by simp; omega), List.getElem?_eq_none (by omega)]
theorem ev_ha_ok {h h' : ev_Q} {c : ev_C} (q : ev_ha h c = some h') : h'.1 = h.1 + 1 ∧ ∀ j, ev_hg h' j = if j = h.1 then some c else ev_hg h j := by
  unfold ev_ha at q
  split at q
  · rename_i h0
    split at q
    · rename_i hl
      cases q
      refine ⟨rfl, fun j => ?_⟩
      unfold ev_hg
      dsimp only
      rw [ev_nth_app]
      by_cases h1 : j / 16 = h.2.length
      · rw [if_pos h1]
        by_cases h2 : j = h.1
        · subst h2; simp [h0, ev_nth]
        · have h3 : ¬ j % 16 = 0 := by omega
          rw [if_neg h2]
          have h4 : ev_nth h.2 (j / 16) = none := by rw [ev_nth_eq]; exact List.getElem?_eq_none (by omega)
          rw [h4]
          obtain ⟨k, hk⟩ : ∃ k, j % 16 = k + 1 := ⟨j % 16 - 1, by omega⟩
          simp [hk, ev_nth]
      · rw [if_neg h1, if_neg (by intro e; subst e; exact h1 (by omega))]
    · cases q
  · rename_i h0
    split at q
    · rename_i l hl
      split at q
      · rename_i hn
        cases q
        refine ⟨rfl, fun j => ?_⟩
        unfold ev_hg
        dsimp only
        rw [ev_md_nth]
        by_cases h1 : j / 16 = h.1 / 16
        · rw [if_pos h1, h1, hl]
          simp only [Option.map_some]
          rw [ev_nth_app]
          by_cases h2 : j = h.1
          · subst h2; simp [hn]
          · have h3 : ¬ j % 16 = l.length := by rw [hn]; omega
            rw [if_neg h3, if_neg h2]
        · rw [if_neg h1, if_neg (by intro e; subst e; exact h1 rfl)]
      · cases q
    · cases q
def ev_ce (D : va_G) (cl : List vw_C) (tys : List (ClassId × FieldType)) (B b q : Nat) (c : ev_C) (H : Heap) : Prop :=
  (∃ (r : vw_C) (V : Nat → Value), cl[c.1]? = some r ∧ t_OB q (D.1 c.1) r.2.2 (D.2 c.1) H V ∧ ∀ j, j < r.2.2 → ev_g B b (V j) (ev_cg c j)) ∨
  (∃ (t : Nat) (cA : ClassId) (ty : FieldType) (f : Nat → Value), c.1 = 100 + t ∧ tys[t]? = some (cA, ty) ∧ H[q]? = some (arrV cA c.2.1 f) ∧ ∀ j, j < c.2.1 → ev_g B b (f j) (ev_cg c j))
theorem ev_ce.kept {D : va_G} {cl : List vw_C} {tys : List (ClassId × FieldType)} {B b q : Nat} {c : ev_C} {H H1 : Heap} (h : ev_ce D cl tys B b q c H) (hq : H1[q]? = H[q]?) : ev_ce D cl tys B b q c H1 := by
  rcases h with ⟨r, V, h1, h2, h3⟩ | ⟨t, cA, ty, f, h1, h2, h3, h4⟩
  · exact Or.inl ⟨r, V, h1, h2.kept hq, h3⟩
  · exact Or.inr ⟨t, cA, ty, f, h1, h2, by rw [hq]; exact h3, h4⟩
def ev_R (D : va_G) (cl : List vw_C) (tys : List (ClassId × FieldType)) (B b : Nat) (h : ev_Q) (H : Heap) : Prop :=
  H.size = B + h.1 ∧ ∀ (i : Nat) (c : ev_C), ev_hg h i = some c → ev_ce D cl tys B b (B + i) c H
theorem ev_R.set {D : va_G} {cl : List vw_C} {tys : List (ClassId × FieldType)} {B b i : Nat} {h : ev_Q} {c' : ev_C} {H H1 : Heap} (hR : ev_R D cl tys B b h H) (hz : H1.size = H.size) (ho : ∀ q, q ≠ B + i → H1[q]? = H[q]?) (hc : ev_ce D cl tys B b (B + i) c' H1) : ev_R D cl tys B b (ev_hs h i c') H1 := by
  refine ⟨by rw [hz, hR.1]; rfl, fun j c hj => ?_⟩
  rw [ev_hg_hs] at hj
  by_cases e : j = i
  · subst e
    rw [if_pos rfl] at hj
    cases h2 : ev_hg h j with
    | none => rw [h2] at hj; cases hj
    | some c2 => rw [h2] at hj; cases hj; exact hc
  · rw [if_neg e] at hj
    exact (hR.2 j c hj).kept (ho _ (by omega))
theorem ev_ce.lt {D : va_G} {cl : List vw_C} {tys : List (ClassId × FieldType)} {B b q : Nat} {c : ev_C} {H : Heap} (h : ev_ce D cl tys B b q c H) : q < H.size := by
  rcases h with ⟨r, V, h1, ⟨cell, h2, -⟩, h3⟩ | ⟨t, cA, ty, f, h1, h2, h3, h4⟩
  · exact (Array.getElem?_eq_some_iff.mp h2).1
  · exact (Array.getElem?_eq_some_iff.mp h3).1
theorem ev_R.push {D : va_G} {cl : List vw_C} {tys : List (ClassId × FieldType)} {B b : Nat} {h h' : ev_Q} {c' : ev_C} {H H1 : Heap} (hR : ev_R D cl tys B b h H) (hh : ev_ha h c' = some h') (hz : H1.size = H.size + 1) (ho : ∀ q, q < H.size → H1[q]? = H[q]?) (hc : ev_ce D cl tys B b (B + h.1) c' H1) : ev_R D cl tys B b h' H1 := by
  obtain ⟨a1, a2⟩ := ev_ha_ok hh
  refine ⟨by rw [hz, hR.1, a1]; rfl, fun j c hj => ?_⟩
  rw [a2] at hj
  by_cases e : j = h.1
  · subst e
    rw [if_pos rfl] at hj
    cases hj
    exact hc
  · rw [if_neg e] at hj
    have := hR.2 j c hj
    exact this.kept (ho _ this.lt)
/-- what stands below B is as it was, and what was written stands from B on -/
def ev_Lo (B : Nat) (H0 H : Heap) (locs : List Loc) : Prop := (∀ q : Nat, q < B → H[q]? = H0[q]?) ∧ ∀ q ∈ locs, B ≤ q.base
theorem ev_Lo.put {B : Nat} {H0 H H1 : Heap} {locs : List Loc} {i k : Nat} (h : ev_Lo B H0 H locs) (ho : ∀ q, q ≠ B + i → H1[q]? = H[q]?) : ev_Lo B H0 H1 (locs ++ [⟨B + i, k⟩]) := by
  refine ⟨fun q hq => by rw [ho q (by omega)]; exact h.1 q hq, fun q hq => ?_⟩
  rcases List.mem_append.mp hq with h1 | h1
  · exact h.2 q h1
  · rw [List.mem_singleton.mp h1]; exact Nat.le_add_right _ _
theorem ev_Lo.push {B : Nat} {H0 H H1 : Heap} {locs : List Loc} {n : Nat} (h : ev_Lo B H0 H locs) (hs : H.size = B + n) (ho : ∀ q, q < H.size → H1[q]? = H[q]?) : ev_Lo B H0 H1 locs :=
  ⟨fun q hq => by rw [ho q (by omega)]; exact h.1 q hq, h.2⟩
/-- a field's sort: 0 int, 1 long, 2 boolean, 3 a reference -/
def ev_fs (ty : FieldType) : Nat := match ty with
  | .int => 0
  | .long => 1
  | .boolean => 2
  | .object _ => 3
  | .array _ => 3
  | _ => 9
def ev_fit (z : Nat) (a : ev_A) : Bool := match z with
  | 0 => a.1 == 0
  | 1 => a.1 == 1
  | 2 => a.1 == 0 && decide (0 ≤ a.2.1) && decide (a.2.2 ≤ 1)
  | 3 => !(a.1 == 0 || a.1 == 1)
  | _ => false
theorem ev_01 {x : Int32} (h1 : 0 ≤ x.toInt) (h2 : x.toInt ≤ 1) : x = 0 ∨ x = 1 := by
  have : x.toInt = 0 ∨ x.toInt = 1 := by omega
  rcases this with h | h
  · exact Or.inl (Int32.toInt_inj.mp (by rw [h]; rfl))
  · exact Or.inr (Int32.toInt_inj.mp (by rw [h]; rfl))
theorem ev_fit_ok {B b : Nat} {v : Value} {a : ev_A} {ty : FieldType} (hv : ev_g B b v a) (hf : ev_fit (ev_fs ty) a = true) : narrow ty v = v ∧ fits ty v = true := by
  cases ty with
  | int =>
    obtain ⟨x, rfl, -⟩ := ev_isI hv hf
    exact ⟨rfl, rfl⟩
  | long =>
    obtain ⟨x, rfl, -⟩ := ev_isL hv hf
    exact ⟨rfl, rfl⟩
  | boolean =>
    simp only [ev_fs, ev_fit, Bool.and_eq_true, decide_eq_true_eq] at hf
    obtain ⟨x, rfl, h1, h2⟩ := ev_isI hv hf.1.1
    rcases ev_01 (x := x) (by omega) (by omega) with rfl | rfl
    · exact ⟨by decide, by decide⟩
    · exact ⟨by decide, by decide⟩
  | object n =>
    rcases ev_isA hv (by simpa [ev_fs, ev_fit] using hf) with rfl | ⟨q, rfl⟩
    · exact ⟨rfl, rfl⟩
    · exact ⟨rfl, rfl⟩
  | array t =>
    rcases ev_isA hv (by simpa [ev_fs, ev_fit] using hf) with rfl | ⟨q, rfl⟩
    · exact ⟨rfl, rfl⟩
    · exact ⟨rfl, rfl⟩
  | _ => exact absurd hf (by simp [ev_fs, ev_fit])
section EVH
variable {p : Program} {l : Launch} {e : Env} {R : Room} {s : State} {m : MethodId} {args : Array Value} {below : List Frame} {meth : Method} {c : Code} {H : Heap} {locs : List Loc} {cells slots : Nat} {Q : State → Prop}
variable {cc : ByteArray} {pc : Nat} {ls : Array Slot} {B b : Nat} {rest : List Value} {D : va_G} {cl : List vw_C} {tys : List (ClassId × FieldType)} {Ts : List Cond} {own C : String} {T : u_T} {N ci index k i : Nat} {h h' : ev_Q} {cell : ev_C} {H0 : Heap}
theorem ev_obj (hR : ev_R D cl tys B b h H) (hcl : cl.length ≤ 100) (hc : cl[ci]? = some (C, T, N)) (hi : ev_hg h i = some cell) (hci : cell.1 = ci) :
    ∃ V : Nat → Value, t_OB (B + i) (D.1 ci) N (D.2 ci) H V ∧ ∀ j, j < N → ev_g B b (V j) (ev_cg cell j) := by
  subst hci
  rcases hR.2 i cell hi with ⟨r, V, h1, h2, h3⟩ | ⟨t, cA, ty, f, h1, -⟩
  · have hr : r = (C, T, N) := Option.some.inj (h1.symm.trans hc)
    subst hr
    exact ⟨V, h2, h3⟩
  · exfalso
    have : cell.1 < cl.length := (List.getElem?_eq_some_iff.mp hc).1
    omega
theorem ev_arr {t : Nat} (hR : ev_R D cl tys B b h H) (hcl : cl.length ≤ 100) (hi : ev_hg h i = some cell) (hct : cell.1 = 100 + t) :
    ∃ (cA : ClassId) (ty : FieldType) (f : Nat → Value), tys[t]? = some (cA, ty) ∧ H[B + i]? = some (arrV cA cell.2.1 f) ∧ ∀ j, j < cell.2.1 → ev_g B b (f j) (ev_cg cell j) := by
  rcases hR.2 i cell hi with ⟨r, V, h1, h2, h3⟩ | ⟨t', cA, ty, f, h1, h2, h3, h4⟩
  · exfalso
    have : cell.1 < cl.length := (List.getElem?_eq_some_iff.mp h1).1
    omega
  · have : t' = t := by omega
    subst this
    exact ⟨cA, ty, f, h2, h3, h4⟩
/-- a field is read -/
theorem ev_r_get (hx : p.tables.exec = Jvm.exec) (hb : c.code = cc) (hts : ∀ w ∈ Ts, w.before args s = true) (hin : ∀ w ∈ u_ws C T N, w ∈ Ts) (hown : s.vm.findClass own = some m.cls) (hK : va_K D cl tys s) (hR : ev_R D cl tys B b h H) (hcl : cl.length ≤ 100) (hc : cl[ci]? = some (C, T, N)) (hk : k < N) (hdec : (T k).1 = C)
    (hlink : (Cond.fieldLink own index C (T k).2.1 (T k).2.2.1).before args s = true ∨ ∃ host, (Cond.fieldLinkNest own index C (T k).2.1 (T k).2.2.1 host).before args s = true) (hi : ev_hg h i = some cell) (hci : cell.1 = ci) (hdg : decode cc pc = .ok (.getfield index, 3))
    (kk : ∀ v : Value, ev_g B b v (ev_cg cell k) → W p l e R s m args below meth c H locs cells slots Q (F0 m (pc + 3) ls (v :: rest))) : W p l e R s m args below meth c H locs cells slots Q (F0 m pc ls (.ref (B + i) :: rest)) := by
  obtain ⟨V, ⟨cell', q1, q2, q3, q4⟩, hV⟩ := ev_obj hR hcl hc hi hci
  obtain ⟨hS, hfc, kC, hkC, hkind⟩ := hK.1 ci _ hc
  obtain ⟨cf, kf, fi, f, hf, hsl⟩ := hS k hk
  have hst := (u_facts hfc hkC (u_lays hts hin hk) hf).1
  rw [hdec] at hf
  rcases hlink with hl | ⟨host, hl⟩
  · exact W.getf hx hb hown hl hf hst q1 (by rw [q3]; exact fun h => by cases h) (v := V k) (by rw [hsl]; exact q4 k hk) rfl rfl hdg (kk _ (hV k hk))
  · exact va_Wgetf hx hb hown hl hf hst q1 (by rw [q3]; exact fun h => by cases h) (v := V k) (by rw [hsl]; exact q4 k hk) rfl rfl hdg (kk _ (hV k hk))
/-- a field is written -/
theorem ev_r_put {ty0 : Nat → FieldType} {v : Value} {a : ev_A} (hx : p.tables.exec = Jvm.exec) (hb : c.code = cc) (hts : ∀ w ∈ Ts, w.before args s = true) (hin : ∀ w ∈ u_ws C T N, w ∈ Ts) (hty : ∀ k, k < N → parseFieldDescriptor (T k).2.2.1 = some (ty0 k)) (hnm : ∀ a, a < N → ∀ b, b < N → a ≠ b → (T a).2.1 ≠ (T b).2.1) (hown : s.vm.findClass own = some m.cls) (hK : va_K D cl tys s) (hR : ev_R D cl tys B b h H) (hL : ev_Lo B H0 H locs) (hcl : cl.length ≤ 100) (hc : cl[ci]? = some (C, T, N)) (hk : k < N) (hdec : (T k).1 = C)
    (hlink : (Cond.fieldLink own index C (T k).2.1 (T k).2.2.1).before args s = true ∨ (∃ host, (Cond.fieldLinkNest own index C (T k).2.1 (T k).2.2.1 host).before args s = true) ∧ (T k).2.2.2 = false) (hfin : (T k).2.2.2 = true → C = own ∧ meth.name = "<init>") (hv : ev_g B b v a) (hfit : ev_fit (ev_fs (ty0 k)) a = true) (hi : ev_hg h i = some cell) (hci : cell.1 = ci) (hdg : decode cc pc = .ok (.putfield index, 3))
    (kk : ∀ (H1 : Heap) (locs1 : List Loc), ev_R D cl tys B b (ev_hs h i (ev_cs cell k a)) H1 → ev_Lo B H0 H1 locs1 → W p l e R s m args below meth c H1 locs1 cells slots Q (F0 m (pc + 3) ls rest)) : W p l e R s m args below meth c H locs cells slots Q (F0 m pc ls (v :: .ref (B + i) :: rest)) := by
  have hap := va_apart (own := own) hts hin ty0 hty hnm hK hc
  obtain ⟨V, ⟨cell', q1, q2, q3, q4⟩, hV⟩ := ev_obj hR hcl hc hi hci
  obtain ⟨hS, hfc, kC, hkC, hkind⟩ := hK.1 ci _ hc
  obtain ⟨cf, kf, fi, f, hf, hsl⟩ := hS k hk
  have hst := (u_facts hfc hkC (u_lays hts hin hk) hf).1
  have hlay := hts _ (hin _ (u_in_lay hk))
  obtain ⟨hn, hft⟩ := ev_fit_ok hv hfit
  have hfr : s.fieldFound? C (T k).2.1 (T k).2.2.1 = some (cf, kf, fi, f) := by rw [← hdec]; exact hf
  have fin : ∀ H' : Heap, H'[B + i]? = some (cell'.setSlot f.slot v) → H'.size = H.size → (∀ q, q ≠ B + i → H'[q]? = H[q]?) → W p l e R s m args below meth c H' (locs ++ [⟨B + i, f.slot⟩]) cells slots Q (F0 m (pc + 3) ls rest) := by
    intro H' e1 e2 e3
    rw [hsl] at e1
    refine kk H' _ (hR.set e2 e3 (Or.inl ⟨(C, T, N), updV V k v, by show cl[cell.1]? = _; rw [hci]; exact hc, ?_, fun j hj => ?_⟩)) (hL.put e3)
    · show t_OB (B + i) (D.1 cell.1) N (D.2 cell.1) H' (updV V k v)
      rw [hci]
      exact ⟨_, e1, q2, q3, t_set q4 hap hk v⟩
    · rw [ev_cg_cs]
      unfold updV
      by_cases hj2 : j = k
      · rw [if_pos hj2, if_pos hj2]; exact hv
      · rw [if_neg hj2, if_neg hj2]; exact hV j hj
  have hlt : f.slot < cell'.slots.size := by rw [hsl]; exact k2_hasslot (q4 k hk)
  by_cases hfl : (T k).2.2.2 = true
  · obtain ⟨hCo, hini⟩ := hfin hfl
    unfold u_lay at hlay
    rw [if_pos hfl] at hlay
    have hcf : m.cls = cf := by
      obtain ⟨_, _, c', _, _, _, -, -, hf', -, -, -, hown2, -⟩ := Cond.laysFinal_spec hlay
      have e1 : c' = cf := by have := hf.symm.trans hf'; simp at this; exact this.1.symm
      rw [hdec, hCo] at hown2
      rw [← e1]; exact Option.some.inj (hown.symm.trans hown2)
    have h6 := u_fits hfc hkC hkind (Or.inr hlay) hf (hty k hk) hn hft
    rcases hlink with hl | ⟨-, hl⟩
    · exact W.putFinK hx hb hown hl hfr hst hcf hini (by rw [q2]; exact h6) q1 q3 hlt rfl rfl hdg fin
    · rw [hfl] at hl; cases hl
  · unfold u_lay at hlay
    rw [if_neg hfl] at hlay
    have h6 := u_store hfc hkC hkind hlay hf (hty k hk) hn hft
    rcases hlink with hl | ⟨⟨host, hl⟩, -⟩
    · exact W.putK hx hb (f := f) ⟨hown, hl, ⟨_, _, _, hfr⟩, hst⟩ (by rw [q2]; exact h6) q1 q3 hlt rfl rfl hdg fin
    · exact va_WputK hx hb (f := f) hown hl hfr hst (by rw [q2]; exact h6) q1 q3 hlt rfl rfl hdg fin
/-- what a new cell of a field's type holds -/
def ev_df (ty : FieldType) : ev_A := match ev_fs ty with
  | 0 => (0, 0, 0)
  | 1 => (1, 0, 0)
  | 2 => (0, 0, 0)
  | _ => (3, 0, 0)
theorem ev_df_ok {B b : Nat} {ty : FieldType} (h : ev_fs ty < 4) : ev_g B b (defaultValue ty) (ev_df ty) := by
  cases ty with
  | int => exact ⟨0, rfl, by decide, by decide⟩
  | long => exact ⟨0, rfl, by decide, by decide⟩
  | boolean => exact ⟨0, rfl, by decide, by decide⟩
  | object n => rfl
  | array t => rfl
  | _ => exact absurd h (by simp [ev_fs])
/-- an object is made -/
theorem ev_r_new {ty0 : Nat → FieldType} (hx : p.tables.exec = Jvm.exec) (hb : c.code = cc) (hts : ∀ w ∈ Ts, w.before args s = true) (hin : ∀ w ∈ u_ws C T N, w ∈ Ts) (hty : ∀ k, k < N → parseFieldDescriptor (T k).2.2.1 = some (ty0 k)) (hown : s.vm.findClass own = some m.cls) (hcl : (Cond.classLink own index C).before args s = true) (hinst : (Cond.instantiable C N).before args s = true) (hini : (Cond.initialized C).before args s = true)
    (hK : va_K D cl tys s) (hR : ev_R D cl tys B b h H) (hL : ev_Lo B H0 H locs) (hc : cl[ci]? = some (C, T, N)) (hh : ev_ha h cell = some h') (hcell : cell.1 = ci ∧ ∀ j, j < N → ev_fs (ty0 j) < 4 ∧ ev_cg cell j = ev_df (ty0 j)) (hcells : cells + 1 ≤ R.cells) (hslots : slots + N ≤ R.slots) (hdg : decode cc pc = .ok (.new index, 3))
    (kk : ∀ (H1 : Heap), ev_R D cl tys B b h' H1 → ev_Lo B H0 H1 locs → W p l e R s m args below meth c H1 locs (cells + 1) (slots + N) Q (F0 m (pc + 3) ls (.ref (B + h.1) :: rest))) : W p l e R s m args below meth c H locs cells slots Q (F0 m pc ls rest) := by
  have hKn := hK.1 ci _ hc
  refine W.newcK hx hb hown hcl hinst hini rfl hdg hcells hslots hKn.2.1 hR.1 fun H1 kC hkC e1 z1 o1 => ?_
  refine kk H1 (hR.push hh (by rw [z1, hR.1]) (fun q hq => o1 q (by rw [← hR.1]; exact hq)) (Or.inl ⟨(C, T, N), fun j => defaultValue (ty0 j), by show cl[cell.1]? = _; rw [hcell.1]; exact hc, ?_, fun j hj => ?_⟩)) (hL.push hR.1 (fun q hq => o1 q (by rw [← hR.1]; exact hq)))
  · rw [hcell.1]
    exact u_born ty0 hts hin hKn hkC e1 hty
  · obtain ⟨g1, g2⟩ := hcell.2 j hj
    rw [g2]
    exact ev_df_ok g1
/-- an array of numbers is made -/
theorem ev_r_newa {t : Nat} {cA : ClassId} {atype : ArrayType} {n : Int32} {M : Nat} (hx : p.tables.exec = Jvm.exec) (hb : c.code = cc) (harr : (Cond.arrayClass (newarray.typeOf atype)).before args s = true) (hK : va_K D cl tys s) (hR : ev_R D cl tys B b h H) (hL : ev_Lo B H0 H locs) (ht : tys[t]? = some (cA, newarray.typeOf atype)) (hprim : ev_fs (newarray.typeOf atype) < 3) (hh : ev_ha h cell = some h') (hcell : cell = (100 + t, M, ev_df (newarray.typeOf atype), []))
    (hn : ¬ n < 0) (hN : n.toNatClampNeg = M) (hM : M ≤ 60000) (hcells : cells + 1 ≤ R.cells) (hslots : slots + M ≤ R.slots) (hdg : decode cc pc = .ok (.newarray atype, 2))
    (kk : ∀ (H1 : Heap), ev_R D cl tys B b h' H1 → ev_Lo B H0 H1 locs → W p l e R s m args below meth c H1 locs (cells + 1) (slots + M) Q (F0 m (pc + 2) ls (.ref (B + h.1) :: rest))) : W p l e R s m args below meth c H locs cells slots Q (F0 m pc ls (.int n :: rest)) := by
  have hby : M * componentBytes (newarray.typeOf atype) ≤ 536870912 := by
    have : componentBytes (newarray.typeOf atype) ≤ 8 := by cases atype <;> decide
    calc M * componentBytes (newarray.typeOf atype) ≤ 60000 * 8 := Nat.mul_le_mul hM this
      _ ≤ 536870912 := by decide
  have hnm : s.vm.findClass ("[" ++ (newarray.typeOf atype).toString) = some cA := by
    have h2 := (hK.2 t _ ht).2
    cases atype <;> exact h2
  refine va_newaK hx hb harr rfl hdg rfl hn hN hby hcells hslots hR.1 fun H1 cA' e1 z1 o1 hAr hNm => ?_
  have hA : cA' = cA := Option.some.inj (hNm.symm.trans hnm)
  subst hA
  subst hcell
  refine kk H1 (hR.push hh (by rw [z1, hR.1]) (fun q hq => o1 q (by rw [← hR.1]; exact hq)) (Or.inr ⟨t, cA', _, _, rfl, ht, e1, fun j hj => ?_⟩)) (hL.push hR.1 (fun q hq => o1 q (by rw [← hR.1]; exact hq)))
  exact ev_df_ok (by omega)
/-- an array of references is made -/
theorem ev_r_anew {t : Nat} {cA : ClassId} {n : Int32} {M : Nat} {E : String} (hx : p.tables.exec = Jvm.exec) (hb : c.code = cc) (hown : s.vm.findClass own = some m.cls) (hclink : (Cond.classLink own index E).before args s = true) (hover : va_AO E s) (hK : va_K D cl tys s) (hR : ev_R D cl tys B b h H) (hL : ev_Lo B H0 H locs) (ht : tys[t]? = some (cA, .object E)) (hh : ev_ha h cell = some h') (hcell : cell = (100 + t, M, (3, 0, 0), []))
    (hn : ¬ n < 0) (hN : n.toNatClampNeg = M) (hM : M ≤ 60000) (hcells : cells + 1 ≤ R.cells) (hslots : slots + M ≤ R.slots) (hdg : decode cc pc = .ok (.anewarray index, 3))
    (kk : ∀ (H1 : Heap), ev_R D cl tys B b h' H1 → ev_Lo B H0 H1 locs → W p l e R s m args below meth c H1 locs (cells + 1) (slots + M) Q (F0 m (pc + 3) ls (.ref (B + h.1) :: rest))) : W p l e R s m args below meth c H locs cells slots Q (F0 m pc ls (.int n :: rest)) := by
  obtain ⟨kA0, comp0, -, -, -, hnm⟩ := (hK.2 t _ ht).2
  subst hN
  refine W.anew hx hb hown hclink (va_AO.use hover) rfl hdg rfl hn (by omega) hcells hslots fun cA' kA comp f1 f2 f3 f4 => ?_
  have hA : cA' = cA := Option.some.inj (f1.symm.trans hnm)
  subst hA
  subst hcell
  generalize hH1 : H.push ({ cls := cA', slots := Array.replicate n.toNatClampNeg .null, vm := .none } : Cell) = H1
  have z1 : H1.size = H.size + 1 := by rw [← hH1, Array.size_push]
  have e1 : H1[H.size]? = some (arrV cA' n.toNatClampNeg (fun _ => .null)) := by rw [← hH1, Array.getElem?_push_size, ← arrV_new]
  have o1 : ∀ q, q < H.size → H1[q]? = H[q]? := fun q hq => by rw [← hH1, Array.getElem?_push, if_neg (Nat.ne_of_lt hq)]
  rw [hR.1] at e1
  have kk2 := kk H1 (hR.push hh z1 o1 (Or.inr ⟨t, cA', _, _, rfl, ht, e1, fun j hj => rfl⟩)) (hL.push hR.1 o1)
  rw [← hR.1] at kk2
  exact kk2
end EVH
end
section
/-! arrays: elements read and written at known places -/
def ev_idx (a : ev_A) : Option Nat := if a.1 == 0 && a.2.1 == a.2.2 && decide (0 ≤ a.2.1) then some a.2.1.toNat else none
theorem ev_idx_ok {B b : Nat} {v : Value} {a : ev_A} {j : Nat} (hv : ev_g B b v a) (h : ev_idx a = some j) : ∃ x : Int32, v = .int x ∧ ¬ x < 0 ∧ x.toNatClampNeg = j := by
  unfold ev_idx at h
  split at h
  · rename_i hq
    simp only [Bool.and_eq_true, decide_eq_true_eq, beq_iff_eq] at hq
    obtain ⟨x, rfl, h1, h2⟩ := ev_isI hv (by simpa using hq.1.1)
    cases h
    have e : x.toInt = a.2.1 := by omega
    refine ⟨x, rfl, ?_, ?_⟩
    · rw [Int32.lt_iff_toInt_lt]
      show ¬ x.toInt < 0
      omega
    · show x.toInt.toNat = _
      rw [e]
  · cases h
section EVG
variable {p : Program} {l : Launch} {e : Env} {R : Room} {s : State} {m : MethodId} {args : Array Value} {below : List Frame} {meth : Method} {c : Code} {H : Heap} {locs : List Loc} {cells slots : Nat} {Q : State → Prop}
variable {cc : ByteArray} {pc : Nat} {ls : Array Slot} {B b : Nat} {rest : List Value} {D : va_G} {cl : List vw_C} {tys : List (ClassId × FieldType)} {i j t : Nat} {h : ev_Q} {cell : ev_C} {H0 : Heap} {x : Int32}
theorem ev_nin {n : Nat} (h0 : ¬ x < 0) (hj : x.toNatClampNeg = j) (hlt : j < n) : ¬ (x < 0 ∨ n ≤ x.toNatClampNeg) := by
  rintro (q | q)
  · exact h0 q
  · omega
theorem ev_r_ald {ty : FieldType} {ins : Instr} (hins : (ins = .iaload ∧ ty = .int) ∨ (ins = .laload ∧ ty = .long) ∨ (ins = .baload ∧ ty = .boolean) ∨ (ins = .aaload ∧ ∃ E, ty = .object E)) (hx : p.tables.exec = Jvm.exec) (hb : c.code = cc) (hK : va_K D cl tys s) (hR : ev_R D cl tys B b h H) (hcl : cl.length ≤ 100) (hi : ev_hg h i = some cell) (hct : cell.1 = 100 + t) (htt : ∃ cA, tys[t]? = some (cA, ty)) (h0 : ¬ x < 0) (hj : x.toNatClampNeg = j) (hlt : j < cell.2.1) (hdg : decode cc pc = .ok (ins, 1))
    (kk : ∀ v : Value, ev_g B b v (ev_cg cell j) → W p l e R s m args below meth c H locs cells slots Q (F0 m (pc + 1) ls (v :: rest))) : W p l e R s m args below meth c H locs cells slots Q (F0 m pc ls (.int x :: .ref (B + i) :: rest)) := by
  obtain ⟨cA, ty', f, h1, h2, h3⟩ := ev_arr hR hcl hi hct
  obtain ⟨cA2, h1'⟩ := htt
  have e1 := Option.some.inj (h1.symm.trans h1')
  obtain ⟨rfl, rfl⟩ := Prod.mk.inj e1
  have hA := (hK.2 t _ h1).1 cell.2.1 f
  have hin : ¬ (x < 0 ∨ (arrV cA cell.2.1 f).slots.size ≤ x.toNatClampNeg) := by rw [arrV_size]; exact ev_nin h0 hj hlt
  have hrd : (arrV cA cell.2.1 f).slots[x.toNatClampNeg]? = some (f j) := by rw [hj]; exact arrV_read _ _ hlt
  rcases hins with ⟨rfl, rfl⟩ | ⟨rfl, rfl⟩ | ⟨rfl, rfl⟩ | ⟨rfl, E, rfl⟩
  · exact W.iald hx hb h2 hA (fun q => by cases q) hin hrd rfl rfl hdg (kk _ (h3 j hlt))
  · exact W.lald hx hb h2 hA (fun q => by cases q) hin hrd rfl rfl hdg (kk _ (h3 j hlt))
  · exact W.zald hx hb h2 hA (fun q => by cases q) hin hrd rfl rfl hdg (kk _ (h3 j hlt))
  · exact W.aald hx hb h2 hA rfl (fun q => by cases q) hin hrd rfl rfl hdg (kk _ (h3 j hlt))
theorem ev_ast_R {ty : FieldType} {cA : ClassId} {f : Nat → Value} {v : Value} {a : ev_A} {H1 : Heap} (hR : ev_R D cl tys B b h H) (hct : cell.1 = 100 + t) (h1 : tys[t]? = some (cA, ty)) (h3 : ∀ j, j < cell.2.1 → ev_g B b (f j) (ev_cg cell j)) (hj : x.toNatClampNeg = j) (hv : ev_g B b v a)
    (e : H1[B + i]? = some ((arrV cA cell.2.1 f).setSlot x.toNatClampNeg v)) (z : H1.size = H.size) (oq : ∀ q, q ≠ B + i → H1[q]? = H[q]?) : ev_R D cl tys B b (ev_hs h i (ev_cs cell j a)) H1 := by
  refine hR.set z oq (Or.inr ⟨t, cA, ty, updV f j v, hct, h1, ?_, fun q hq => ?_⟩)
  · rw [e, arrV_store, hj]; rfl
  · rw [ev_cg_cs]
    unfold updV
    by_cases hq2 : q = j
    · rw [if_pos hq2, if_pos hq2]; exact hv
    · rw [if_neg hq2, if_neg hq2]; exact h3 q hq
theorem ev_r_ast {ty : FieldType} {ins : Instr} {v : Value} {a : ev_A} (hins : (ins = .iastore ∧ ty = .int) ∨ (ins = .lastore ∧ ty = .long) ∨ (ins = .bastore ∧ ty = .boolean)) (hx : p.tables.exec = Jvm.exec) (hb : c.code = cc) (hK : va_K D cl tys s) (hR : ev_R D cl tys B b h H) (hL : ev_Lo B H0 H locs) (hcl : cl.length ≤ 100) (hi : ev_hg h i = some cell) (hct : cell.1 = 100 + t) (htt : ∃ cA, tys[t]? = some (cA, ty)) (h0 : ¬ x < 0) (hj : x.toNatClampNeg = j) (hlt : j < cell.2.1) (hv : ev_g B b v a) (hfit : ev_fit (ev_fs ty) a = true) (hdg : decode cc pc = .ok (ins, 1))
    (kk : ∀ (H1 : Heap) (locs1 : List Loc), ev_R D cl tys B b (ev_hs h i (ev_cs cell j a)) H1 → ev_Lo B H0 H1 locs1 → W p l e R s m args below meth c H1 locs1 cells slots Q (F0 m (pc + 1) ls rest)) : W p l e R s m args below meth c H locs cells slots Q (F0 m pc ls (v :: .int x :: .ref (B + i) :: rest)) := by
  obtain ⟨cA, ty', f, h1, h2, h3⟩ := ev_arr hR hcl hi hct
  obtain ⟨cA2, h1'⟩ := htt
  have e1 := Option.some.inj (h1.symm.trans h1')
  obtain ⟨rfl, rfl⟩ := Prod.mk.inj e1
  have hA := (hK.2 t _ h1).1 cell.2.1 f
  have hin : ¬ (x < 0 ∨ (arrV cA cell.2.1 f).slots.size ≤ x.toNatClampNeg) := by rw [arrV_size]; exact ev_nin h0 hj hlt
  obtain ⟨hn, -⟩ := ev_fit_ok hv hfit
  rcases hins with ⟨rfl, rfl⟩ | ⟨rfl, rfl⟩ | ⟨rfl, rfl⟩
  · obtain ⟨y, rfl, -⟩ := ev_isI hv hfit
    exact W.iast hx hb h2 hA (fun q => by cases q) hin rfl rfl hdg fun H1 e z oq => kk H1 _ (ev_ast_R hR hct h1 h3 hj hv e z oq) (hL.put oq)
  · obtain ⟨y, rfl, -⟩ := ev_isL hv hfit
    exact W.last hx hb h2 hA (fun q => by cases q) hin rfl rfl hdg fun H1 e z oq => kk H1 _ (ev_ast_R hR hct h1 h3 hj hv e z oq) (hL.put oq)
  · obtain ⟨y, rfl, -⟩ := ev_isI hv (by simp only [ev_fs, ev_fit, Bool.and_eq_true] at hfit; exact hfit.1.1)
    exact W.zast hx hb h2 hA (fun q => by cases q) hin rfl rfl hdg fun H1 e z oq => kk H1 _ (ev_ast_R hR hct h1 h3 hj hv (by rw [e, hn]) z oq) (hL.put oq)
/-- null, or an object of the array's own class, into an array of references -/
theorem ev_r_aast {E : String} {v : Value} {a : ev_A} (hx : p.tables.exec = Jvm.exec) (hb : c.code = cc) (hK : va_K D cl tys s) (hR : ev_R D cl tys B b h H) (hL : ev_Lo B H0 H locs) (hcl : cl.length ≤ 100) (hi : ev_hg h i = some cell) (hct : cell.1 = 100 + t) (htt : ∃ cA, tys[t]? = some (cA, .object E)) (h0 : ¬ x < 0) (hj : x.toNatClampNeg = j) (hlt : j < cell.2.1) (hv : ev_g B b v a) (hfit : a.1 = 3 ∨ (a.1 = 2 ∧ ∃ (c2 : ev_C) (T : u_T) (N : Nat), ev_hg h a.2.1.toNat = some c2 ∧ cl[c2.1]? = some (E, T, N))) (hdg : decode cc pc = .ok (.aastore, 1))
    (kk : ∀ (H1 : Heap) (locs1 : List Loc), ev_R D cl tys B b (ev_hs h i (ev_cs cell j a)) H1 → ev_Lo B H0 H1 locs1 → W p l e R s m args below meth c H1 locs1 cells slots Q (F0 m (pc + 1) ls rest)) : W p l e R s m args below meth c H locs cells slots Q (F0 m pc ls (v :: .int x :: .ref (B + i) :: rest)) := by
  obtain ⟨cA, ty', f, h1, h2, h3⟩ := ev_arr hR hcl hi hct
  obtain ⟨cA2, h1'⟩ := htt
  have e1 := Option.some.inj (h1.symm.trans h1')
  obtain ⟨rfl, rfl⟩ := Prod.mk.inj e1
  have hA := (hK.2 t _ h1).1 cell.2.1 f
  have hin : ¬ (x < 0 ∨ (arrV cA cell.2.1 f).slots.size ≤ x.toNatClampNeg) := by rw [arrV_size]; exact ev_nin h0 hj hlt
  rcases hfit with hf | ⟨hf, c2, T, N, hc2, hcl2⟩
  · have hv' : v = .null := by
      obtain ⟨z, z1, z2⟩ := a
      dsimp only at hf
      subst hf
      exact hv
    subst hv'
    exact va_WaastN hx hb h2 hA (fun q => by cases q) hin rfl rfl hdg fun H1 e z oq => kk H1 _ (ev_ast_R hR hct h1 h3 hj hv e z oq) (hL.put oq)
  · have hv' : v = .ref (B + a.2.1.toNat) := by
      obtain ⟨z, z1, z2⟩ := a
      dsimp only at hf
      subst hf
      exact hv
    subst hv'
    obtain ⟨V, ⟨cellV, g1, g2, g3, -⟩, -⟩ := ev_obj hR hcl hcl2 hc2 rfl
    have hcls := (hK.1 c2.1 _ hcl2).2
    obtain ⟨kA, comp, k1, k2, k3, -⟩ := (hK.2 t _ h1).2
    have hcomp : comp = D.1 c2.1 := Option.some.inj (k3.symm.trans hcls.1)
    subst hcomp
    obtain ⟨kC, hkC, -⟩ := hcls.2
    exact W.aast hx hb h2 (fun q h => by cases h) (fun h => by cases h) k1 k2 rfl hkC ⟨h0, by rw [arrV_size, hj]; exact hlt⟩ g1 (fun q h => by rw [g3] at h; cases h) (by rw [g2]; exact hkC) (by rw [g2]; exact va_assign hcls) rfl rfl hdg fun H1 e z oq => kk H1 _ (ev_ast_R hR hct h1 h3 hj hv e z oq) (hL.put oq)
theorem ev_r_alen (hx : p.tables.exec = Jvm.exec) (hb : c.code = cc) (hK : va_K D cl tys s) (hR : ev_R D cl tys B b h H) (hcl : cl.length ≤ 100) (hi : ev_hg h i = some cell) (hct : cell.1 = 100 + t) (hsm : cell.2.1 ≤ 60000) (hdg : decode cc pc = .ok (.arraylength, 1))
    (kk : ∀ v : Value, ev_g B b v (ev_I cell.2.1) → W p l e R s m args below meth c H locs cells slots Q (F0 m (pc + 1) ls (v :: rest))) : W p l e R s m args below meth c H locs cells slots Q (F0 m pc ls (.ref (B + i) :: rest)) := by
  obtain ⟨cA, ty, f, h1, h2, h3⟩ := ev_arr hR hcl hi hct
  have hA := (hK.2 t _ h1).1 cell.2.1 f
  have hz : (Int32.ofNat cell.2.1).toInt = cell.2.1 := nI_toInt (n := cell.2.1) (by omega)
  refine W.alen (n := Int32.ofNat cell.2.1) hx hb h2 hA (by rw [arrV_size] <;> rfl) rfl rfl hdg (kk _ ⟨_, rfl, ?_, ?_⟩)
  · show (cell.2.1 : Int) ≤ _
    rw [hz]; exact Int.le_refl _
  · show _ ≤ (cell.2.1 : Int)
    rw [hz]; exact Int.le_refl _
end EVG
/-! the script: what its length and its ints may be -/
def ev_Sc (sg : List ev_A) (L : Nat) (xs : Nat → Int32) : Prop := L < 2 ^ 31 ∧ (∀ a, sg[0]? = some a → ev_g 0 0 (.int (nI L)) a) ∧ ∀ (j : Nat) (a : ev_A), sg[j + 1]? = some a → j < L → ev_g 0 0 (.int (xs j)) a
theorem ev_gI {B b B' b' : Nat} {x : Int32} {a : ev_A} (h : ev_g B b (.int x) a) : ev_g B' b' (.int x) a := by
  unfold ev_g at h ⊢
  split at h
  · simp_all
  · obtain ⟨y, hy, -⟩ := h; cases hy
  · cases h
  · cases h
  · cases h
theorem ev_Sc.set {sg : List ev_A} {L : Nat} {xs : Nat → Int32} {j : Nat} {a : ev_A} (h : ev_Sc sg L xs) (ha : ev_g 0 0 (.int (xs j)) a) : ev_Sc (sg.set (j + 1) a) L xs := by
  refine ⟨h.1, fun a' h' => h.2.1 a' ?_, fun i a' h' hi => ?_⟩
  · rw [List.getElem?_set_ne (by omega)] at h'; exact h'
  · by_cases e : j = i
    · subst e
      rw [List.getElem?_set] at h'
      simp only [if_true] at h'
      split at h'
      · cases h'; exact ha
      · cases h'
    · rw [List.getElem?_set_ne (by omega)] at h'
      exact h.2.2 i a' h' hi
section EVX
variable {p : Program} {l : Launch} {e : Env} {R : Room} {s : State} {m : MethodId} {args : Array Value} {below : List Frame} {meth : Method} {c : Code} {H : Heap} {locs : List Loc} {cells slots : Nat} {Q : State → Prop}
variable {cc : ByteArray} {pc : Nat} {ls : Array Slot} {B b L : Nat} {rest : List Value} {xs : Nat → Int32} {H0 : Heap} {x : Int32} {sg : List ev_A}
theorem ev_r_sld {j : Nat} (hx : p.tables.exec = Jvm.exec) (hb : c.code = cc) (hX : va_X b L xs s H0) (hbB : b < B) (hL : ev_Lo B H0 H locs) (h0 : ¬ x < 0) (hj : x.toNatClampNeg = j) (hlt : j < L) (hdg : decode cc pc = .ok (.iaload, 1))
    (kk : W p l e R s m args below meth c H locs cells slots Q (F0 m (pc + 1) ls (.int (xs j) :: rest))) : W p l e R s m args below meth c H locs cells slots Q (F0 m pc ls (.int x :: .ref b :: rest)) := by
  obtain ⟨scr, h1, h2, h3, h4, h5⟩ := hX
  exact W.iald (v := .int (xs j)) hx hb (by rw [hL.1 b hbB]; exact h1) h2 h3 (by rw [h4]; exact ev_nin h0 hj hlt) (by rw [hj]; exact h5 _ hlt) rfl rfl hdg kk
theorem ev_r_slen (hx : p.tables.exec = Jvm.exec) (hb : c.code = cc) (hX : va_X b L xs s H0) (hbB : b < B) (hL : ev_Lo B H0 H locs) (hdg : decode cc pc = .ok (.arraylength, 1))
    (kk : W p l e R s m args below meth c H locs cells slots Q (F0 m (pc + 1) ls (.int (nI L) :: rest))) : W p l e R s m args below meth c H locs cells slots Q (F0 m pc ls (.ref b :: rest)) := by
  obtain ⟨scr, h1, h2, h3, h4, h5⟩ := hX
  exact W.alen (n := nI L) hx hb (by rw [hL.1 b hbB]; exact h1) h2 (by rw [h4] <;> rfl) rfl rfl hdg kk
end EVX
/-- an int's bounds cut at places: parts that cover it -/
def ev_cut (l h : Int) : List Int → List ev_A
  | [] => [(0, l, h)]
  | k :: ks => if l < k ∧ k ≤ h then (0, l, k - 1) :: ev_cut k h ks else ev_cut l h ks
theorem ev_cut_ok {B b : Nat} {x : Int32} : ∀ {ks : List Int} {l h : Int}, l ≤ x.toInt → x.toInt ≤ h → ∃ a ∈ ev_cut l h ks, ev_g B b (.int x) a
  | [], l, h, h1, h2 => ⟨_, List.mem_singleton.mpr rfl, x, rfl, h1, h2⟩
  | k :: ks, l, h, h1, h2 => by
    unfold ev_cut
    split
    · by_cases hk : x.toInt < k
      · exact ⟨_, List.mem_cons_self, x, rfl, h1, by show x.toInt ≤ k - 1; omega⟩
      · obtain ⟨a, m1, m2⟩ := ev_cut_ok (ks := ks) (l := k) (h := h) (by omega) h2
        exact ⟨a, List.mem_cons_of_mem _ m1, m2⟩
    · exact ev_cut_ok h1 h2
end
section
/-! the program as tables: an instruction with its length and what its pool number stands for; a method: name, bytes, locals, answer, instructions, sort (0 static, 1 of an object, 2 a constructor; 10 and more: any long is its answer), parameters, its room -/
abbrev ev_E : Type := Instr × Nat × Nat × Nat × Int
abbrev ev_M : Type := MethodName × ByteArray × Nat × Option FieldType × List (List ev_E) × Nat × Nat × Nat × Nat × Nat × Nat
def ev_mN (M : ev_M) : MethodName := M.1
def ev_mB (M : ev_M) : ByteArray := M.2.1
def ev_mL (M : ev_M) : Nat := M.2.2.1
def ev_mR (M : ev_M) : Option FieldType := M.2.2.2.1
def ev_mC (M : ev_M) : List (List ev_E) := M.2.2.2.2.1
def ev_mK (M : ev_M) : Nat := M.2.2.2.2.2.1
def ev_mP (M : ev_M) : Nat := M.2.2.2.2.2.2.1
def ev_mF (M : ev_M) : Nat := M.2.2.2.2.2.2.2.1
def ev_mO (M : ev_M) : Nat := M.2.2.2.2.2.2.2.2.1
def ev_mY (M : ev_M) : Nat := M.2.2.2.2.2.2.2.2.2.1
def ev_mS (M : ev_M) : Nat := M.2.2.2.2.2.2.2.2.2.2
def ev_at (M : ev_M) (pc : Nat) : Option ev_E := match ev_nth (ev_mC M) (pc / 32) with
  | some ch => (match ev_nth ch (pc % 32) with
    | some E => if E.2.1 == 0 then none else some E
    | none => none)
  | none => none
abbrev ev_F : Type := ev_M × Nat × List (Nat × ev_A) × List ev_A × Nat × Nat
abbrev ev_S : Type := List ev_F × ev_Q × List ev_A
abbrev ev_H : Type := Option (List (ev_Q × List ev_A × List ev_A × Nat × Nat))
/-- how many users an object has, by the script's first int as far as it is known -/
def ev_us (sg : List ev_A) : Nat := match ev_nth sg 1 with
  | some a => if a.2.2 ≤ 2 then 2 else if 6 ≤ a.2.1 then 6 else a.2.1.toNat
  | none => 0
def ev_okU (sg : List ev_A) (j : Nat) : Bool := match ev_nth sg (j + 1) with
  | some a => decide (0 ≤ a.2.1) && decide (a.2.2 < (ev_us sg : Int))
  | none => false
def ev_okP (sg : List ev_A) : Bool := ev_okU sg 3 && ev_okU sg 4 && !decide (ev_nth sg 4 = ev_nth sg 5)
def ev_rg (n : Nat) : List Int := match n with
  | 2 => [0, 1, 2]
  | 3 => [0, 1, 2, 3]
  | 4 => [0, 1, 2, 3, 4]
  | 5 => [0, 1, 2, 3, 4, 5]
  | _ => [0, 1, 2, 3, 4, 5, 6]
/-- where an int of the script is cut, when it is read: by the number that the reading instruction has, by its place, by what is known -/
def ev_cuts (v j : Nat) (sg : List ev_A) : List Int := match v with
  | 1 => if j == 0 then [2, 3, 4, 5, 6, 7] else []
  | 2 => ev_rg (ev_us sg)
  | 8 => if ev_okU sg 3 then ev_rg (ev_us sg) else []
  | 3 => if ev_okU sg 3 then [0, 1, 2, 3, 4, 5, 6, 7, 8] else []
  | 9 => [0, 1, 2, 3, 4, 5]
  | 6 => if ev_okU sg 3 then [1, 13] else []
  | 4 => if ev_okP sg then [-1, 0] else []
  | 5 => if ev_okP sg && decide (ev_nth sg 6 = some (0, -1, -1)) then [0, 1] else []
  | 7 => [0]
  | 10 => if ev_okP sg then [0] else []
  | _ => []
/-- what the program's tables are made of: classes, array sorts, blank objects -/
abbrev ev_G : Type := List vw_C × List FieldType × List ev_C
def ev_hget (E : ev_E) (h : ev_Q) (sg st : List ev_A) (bc bs : Nat) : ev_H := match st with
  | (t, z, _) :: r => if t == 2 then (match ev_hg h z.toNat with
    | some c => if c.1 == E.2.2.1 then some [(h, sg, ev_cg c E.2.2.2.1 :: r, bc, bs)] else none
    | none => none) else none
  | [] => none
def ev_hput (E : ev_E) (h : ev_Q) (sg st : List ev_A) (bc bs : Nat) : ev_H := match st with
  | a :: (t, z, _) :: r => if t == 2 && ev_fit E.2.2.2.2.toNat a then (match ev_hg h z.toNat with
    | some c => if c.1 == E.2.2.1 then some [(ev_hs h z.toNat (ev_cs c E.2.2.2.1 a), sg, r, bc, bs)] else none
    | none => none) else none
  | _ => none
def ev_hnew (G : ev_G) (E : ev_E) (h : ev_Q) (sg st : List ev_A) (bc bs : Nat) : ev_H := match ev_nth G.2.2 E.2.2.1 with
  | some c => if 1 ≤ bc ∧ c.2.1 ≤ bs then (match ev_ha h c with
    | some h' => some [(h', sg, (2, (h.1 : Int), 0) :: st, bc - 1, bs - c.2.1)]
    | none => none) else none
  | none => none
def ev_hnwa (d : ev_A) (E : ev_E) (h : ev_Q) (sg st : List ev_A) (bc bs : Nat) : ev_H := match st with
  | a :: r => (match ev_idx a with
    | some n => if 1 ≤ bc ∧ n ≤ bs ∧ n ≤ 60000 then (match ev_ha h (100 + E.2.2.1, n, d, []) with
      | some h' => some [(h', sg, (2, (h.1 : Int), 0) :: r, bc - 1, bs - n)]
      | none => none) else none
    | none => none)
  | [] => none
def ev_hlen (h : ev_Q) (sg st : List ev_A) (bc bs : Nat) : ev_H := match st with
  | (t, z, _) :: r => if t == 2 then (match ev_hg h z.toNat with
    | some c => if 100 ≤ c.1 ∧ c.2.1 ≤ 60000 then some [(h, sg, ev_I c.2.1 :: r, bc, bs)] else none
    | none => none) else if t == 4 then (match sg with
      | a :: _ => some [(h, sg, a :: r, bc, bs)]
      | [] => none) else none
  | [] => none
def ev_hald (G : ev_G) (ok : FieldType → Bool) (h : ev_Q) (sg st : List ev_A) (bc bs : Nat) : ev_H := match st with
  | a :: (t, z, _) :: r => (match ev_idx a with
    | some j => if t == 2 then (match ev_hg h z.toNat with
      | some c => if 100 ≤ c.1 ∧ j < c.2.1 ∧ (match ev_nth G.2.1 (c.1 - 100) with
          | some ty => ok ty
          | none => false) = true then some [(h, sg, ev_cg c j :: r, bc, bs)] else none
      | none => none) else none
    | none => none)
  | _ => none
/-- an int of the script -/
def ev_hsld (E : ev_E) (h : ev_Q) (sg st : List ev_A) (bc bs : Nat) : ev_H := match st with
  | a :: (t, _, _) :: r => (match ev_idx a with
    | some j => if t == 4 then (match sg with
      | (t0, l0, _) :: _ => if t0 == 0 && decide ((j : Int) < l0) then (match ev_nth sg (j + 1) with
        | some (t1, l1, h1) => if t1 == 0 then some ((ev_cut l1 h1 (ev_cuts E.2.2.2.1 j sg)).map fun a => (h, sg.set (j + 1) a, a :: r, bc, bs)) else none
        | none => none) else none
      | [] => none) else none
    | none => none)
  | _ => none
def ev_hast (G : ev_G) (ok : FieldType → Bool) (f : Nat) (h : ev_Q) (sg st : List ev_A) (bc bs : Nat) : ev_H := match st with
  | a :: x :: (t, z, _) :: r => (match ev_idx x with
    | some j => if t == 2 && ev_fit f a then (match ev_hg h z.toNat with
      | some c => if 100 ≤ c.1 ∧ j < c.2.1 ∧ (match ev_nth G.2.1 (c.1 - 100) with
          | some ty => ok ty
          | none => false) = true then some [(ev_hs h z.toNat (ev_cs c j a), sg, r, bc, bs)] else none
      | none => none) else none
    | none => none)
  | _ => none
/-- null, or an object of this class -/
def ev_isO (G : ev_G) (h : ev_Q) (a : ev_A) (n : String) : Bool := a.1 == 3 || (a.1 == 2 && (match ev_hg h a.2.1.toNat with
  | some c => (match ev_nth G.1 c.1 with
    | some r => r.1 == n
    | none => false)
  | none => false))
def ev_haas (G : ev_G) (h : ev_Q) (sg st : List ev_A) (bc bs : Nat) : ev_H := match st with
  | a :: x :: (t, z, _) :: r => (match ev_idx x with
    | some j => if t == 2 then (match ev_hg h z.toNat with
      | some c => if 100 ≤ c.1 ∧ j < c.2.1 ∧ (match ev_nth G.2.1 (c.1 - 100) with
          | some (.object n) => ev_isO G h a n
          | _ => false) = true then some [(ev_hs h z.toNat (ev_cs c j a), sg, r, bc, bs)] else none
      | none => none) else none
    | none => none)
  | _ => none
def ev_sz (st : List ev_A) : Nat := (st.map fun a => if a.1 == 1 then 2 else 1).sum
def ev_hobj (M : ev_M) (h : ev_Q) (sg st : List ev_A) (bc bs : Nat) : ev_H := match st with
  | (t, _, _) :: r => if t == 2 && decide (1 ≤ ev_mF M) && decide (ev_sz r + 12 ≤ ev_mO M) then some [(h, sg, r, bc, bs)] else none
  | [] => none
/-- the greater, the lesser of two ints, by the JDK's own methods -/
def ev_mx (l1 h1 l2 h2 : Int) : ev_A := (0, if l1 < l2 then l2 else l1, if h1 < h2 then h2 else h1)
def ev_mn (l1 h1 l2 h2 : Int) : ev_A := (0, if l2 < l1 then l2 else l1, if h2 < h1 then h2 else h1)
def ev_hmm (f : Int → Int → Int → Int → ev_A) (M : ev_M) (h : ev_Q) (sg st : List ev_A) (bc bs : Nat) : ev_H := match st with
  | (t2, l2, h2) :: (t1, l1, h1) :: r => if t1 == 0 && t2 == 0 && decide (1 ≤ ev_mF M) && decide (ev_sz r + 13 ≤ ev_mO M) then some [(h, sg, f l1 h1 l2 h2 :: r, bc, bs)] else none
  | _ => none
def ev_tyI (ty : FieldType) : Bool := match ty with
  | .int => true
  | _ => false
def ev_tyJ (ty : FieldType) : Bool := match ty with
  | .long => true
  | _ => false
def ev_tyZ (ty : FieldType) : Bool := match ty with
  | .boolean => true
  | _ => false
def ev_tyO (ty : FieldType) : Bool := match ty with
  | .object _ => true
  | _ => false
def ev_or (x y : ev_H) : ev_H := match x with
  | some r => some r
  | none => y
/-- steps that look into the heap, or change it -/
def ev_hp (G : ev_G) (M : ev_M) (E : ev_E) (h : ev_Q) (sg st : List ev_A) (bc bs : Nat) : ev_H := match E.1 with
  | .getfield _ => if E.2.1 == 3 then ev_hget E h sg st bc bs else none
  | .putfield _ => if E.2.1 == 3 then ev_hput E h sg st bc bs else none
  | .new _ => if E.2.1 == 3 then ev_hnew G E h sg st bc bs else none
  | .newarray at_ => if E.2.1 == 2 then ev_hnwa (ev_df (newarray.typeOf at_)) E h sg st bc bs else none
  | .anewarray _ => if E.2.1 == 3 then ev_hnwa (3, 0, 0) E h sg st bc bs else none
  | .arraylength => if E.2.1 == 1 then ev_hlen h sg st bc bs else none
  | .iaload => if E.2.1 == 1 then ev_or (ev_hald G ev_tyI h sg st bc bs) (ev_hsld E h sg st bc bs) else none
  | .laload => if E.2.1 == 1 then ev_hald G ev_tyJ h sg st bc bs else none
  | .baload => if E.2.1 == 1 then ev_hald G ev_tyZ h sg st bc bs else none
  | .aaload => if E.2.1 == 1 then ev_hald G ev_tyO h sg st bc bs else none
  | .iastore => if E.2.1 == 1 then ev_hast G ev_tyI 0 h sg st bc bs else none
  | .lastore => if E.2.1 == 1 then ev_hast G ev_tyJ 1 h sg st bc bs else none
  | .bastore => if E.2.1 == 1 then ev_hast G ev_tyZ 2 h sg st bc bs else none
  | .aastore => if E.2.1 == 1 then ev_haas G h sg st bc bs else none
  | .ldc _ => if E.2.1 == 2 then some [(h, sg, ev_I (Int32.ofInt E.2.2.2.2).toInt :: st, bc, bs)] else none
  | .ldc2_w _ => if E.2.1 == 3 then some [(h, sg, ev_J (Int64.ofInt E.2.2.2.2).toInt :: st, bc, bs)] else none
  | .invokestatic _ => if E.2.1 == 3 && E.2.2.1 == 998 then ev_hmm ev_mx M h sg st bc bs else if E.2.1 == 3 && E.2.2.1 == 997 then ev_hmm ev_mn M h sg st bc bs else none
  | .invokespecial _ => if E.2.1 == 3 && E.2.2.1 == 999 then ev_hobj M h sg st bc bs else none
  | _ => none
/-- the locals that a method begins with -/
def ev_args : Nat → List ev_A → List (Nat × ev_A)
  | _, [] => []
  | i, a :: as => (i, a) :: ev_args (if a.1 == 1 then i + 2 else i + 1) as
def ev_recv (h : ev_Q) (ci : Nat) (as : List ev_A) : Bool := match as with
  | (t, z, _) :: _ => t == 2 && (match ev_hg h z.toNat with
    | some c => c.1 == ci
    | none => false)
  | [] => false
def ev_isR (as : List ev_A) : Bool := match as with
  | (t, _, _) :: _ => t == 2
  | [] => false
def ev_cok (sort : Nat) (E : ev_E) (M M' : ev_M) (h : ev_Q) (as r : List ev_A) (bc bs : Nat) : Bool :=
  E.2.1 == 3 && ev_mK M' % 10 == sort && as.length == (if sort == 0 then ev_mP M' else ev_mP M' + 1) && (match sort with
    | 0 => true
    | 1 => ev_recv h E.2.2.2.1 as
    | _ => ev_isR as) && decide (ev_sz as ≤ ev_mL M') && decide (ev_sz r ≤ 8) && decide (ev_mF M' + 1 ≤ ev_mF M) && decide (8 + (ev_mL M' + 11) + ev_mO M' ≤ ev_mO M) && decide (ev_mY M' ≤ bc) && decide (ev_mS M' ≤ bs)
def ev_cl (PG : List ev_M) (sort : Nat) (E : ev_E) (M : ev_M) (pc : Nat) (lv : List (Nat × ev_A)) (st : List ev_A) (bc bs : Nat) (fs : List ev_F) (h : ev_Q) (sg : List ev_A) : Option (List ev_S) := match ev_nth PG E.2.2.1 with
  | some M' => if ev_cok sort E M M' h (st.take (if sort == 0 then ev_mP M' else ev_mP M' + 1)).reverse (st.drop (if sort == 0 then ev_mP M' else ev_mP M' + 1)) bc bs then
      (if ev_mK M' < 10 then some [((M', 0, ev_args 0 (st.take (if sort == 0 then ev_mP M' else ev_mP M' + 1)).reverse, [], ev_mY M', ev_mS M') :: (M, pc + 3, lv, st.drop (if sort == 0 then ev_mP M' else ev_mP M' + 1), bc - ev_mY M', bs - ev_mS M') :: fs, h, sg)]
       else if (st.take (if sort == 0 then ev_mP M' else ev_mP M' + 1)).all (fun a => a.1 == 1) then some [((M, pc + 3, lv, ev_tL :: st.drop (if sort == 0 then ev_mP M' else ev_mP M' + 1), bc - ev_mY M', bs - ev_mS M') :: fs, h, sg)] else none) else none
  | none => none
/-- behind a return -/
def ev_back (fin : Option ev_A → ev_Q → Bool) (a : Option ev_A) (fs : List ev_F) (h : ev_Q) (sg : List ev_A) : Option (List ev_S) := match fs with
  | [] => if fin a h then some [] else none
  | (M, pc, lv, st, bc, bs) :: fs' => some [((M, pc, lv, a.toList ++ st, bc, bs) :: fs', h, sg)]
/-- may a method of this answer return this? -/
def ev_rok (E : ev_E) (M : ev_M) (st : List ev_A) : Option (Option ev_A) := match E.1 with
  | .return_ => (match st, ev_mR M with
    | [], none => some none
    | _, _ => none)
  | .ireturn => (match st, ev_mR M with
    | [a], some ty => if a.1 == 0 && decide (ev_fs ty < 3) && ev_fit (ev_fs ty) a then some (some a) else none
    | _, _ => none)
  | .lreturn => (match st, ev_mR M with
    | [a], some ty => if ev_tyJ ty && a.1 == 1 then some (some a) else none
    | _, _ => none)
  | .areturn => (match st, ev_mR M with
    | [a], some ty => if ev_fs ty == 3 && !(a.1 == 0 || a.1 == 1) then some (some a) else none
    | _, _ => none)
  | _ => none
def ev_next (G : ev_G) (PG : List ev_M) (fin : Option ev_A → ev_Q → Bool) (S : ev_S) : Option (List ev_S) := match S with
  | ([], _, _) => none
  | ((M, pc, lv, st, bc, bs) :: fs, h, sg) => match ev_at M pc with
    | none => none
    | some E => match ev_pure (ev_mL M) E.1 lv st with
      | some (len, lv', st') => if len == E.2.1 then some [((M, pc + len, lv', st', bc, bs) :: fs, h, sg)] else none
      | none => match ev_br pc E.2.1 E.1 st with
        | some L => some (L.map fun q => ((M, q.1, lv, q.2, bc, bs) :: fs, h, sg))
        | none => match ev_hp G M E h sg st bc bs with
          | some L => some (L.map fun q => ((M, pc + E.2.1, lv, q.2.2.1, q.2.2.2.1, q.2.2.2.2) :: fs, q.1, q.2.1))
          | none => match ev_rok E M st with
            | some a => if E.2.1 == 1 then ev_back fin a fs h sg else none
            | none => match E.1 with
              | .invokevirtual _ => ev_cl PG 1 E M pc lv st bc bs fs h sg
              | .invokestatic _ => ev_cl PG 0 E M pc lv st bc bs fs h sg
              | .invokespecial _ => ev_cl PG 2 E M pc lv st bc bs fs h sg
              | _ => none
def ev_run (G : ev_G) (PG : List ev_M) (fin : Option ev_A → ev_Q → Bool) (stop : ev_S → Bool) : Nat → ev_S → Bool
  | 0, _ => false
  | n + 1, S => if stop S then true else match ev_next G PG fin S with
    | none => false
    | some L => L.all (ev_run G PG fin stop n)
end
section
/-! what the tables must say for an instruction to be as its row says -/
def ev_lok (Tg Tn : List Cond) (AO : List String) (G : ev_G) (TY : Nat → Nat → FieldType) (PG : List ev_M) (own : String) (kd : Nat) (E : ev_E) : Prop := match E.1 with
  | .getfield idx => ∃ (C : String) (T : u_T) (N : Nat), G.1[E.2.2.1]? = some (C, T, N) ∧ E.2.2.2.1 < N ∧ (T E.2.2.2.1).1 = C ∧ (Cond.fieldLink own idx C (T E.2.2.2.1).2.1 (T E.2.2.2.1).2.2.1 ∈ Tg ∨ ∃ host, Cond.fieldLinkNest own idx C (T E.2.2.2.1).2.1 (T E.2.2.2.1).2.2.1 host ∈ Tn)
  | .putfield idx => ∃ (C : String) (T : u_T) (N : Nat), G.1[E.2.2.1]? = some (C, T, N) ∧ E.2.2.2.1 < N ∧ (T E.2.2.2.1).1 = C ∧ (Cond.fieldLink own idx C (T E.2.2.2.1).2.1 (T E.2.2.2.1).2.2.1 ∈ Tg ∨ (∃ host, Cond.fieldLinkNest own idx C (T E.2.2.2.1).2.1 (T E.2.2.2.1).2.2.1 host ∈ Tn) ∧ (T E.2.2.2.1).2.2.2 = false) ∧ ((T E.2.2.2.1).2.2.2 = true → C = own ∧ kd = 2) ∧ ev_fs (TY E.2.2.1 E.2.2.2.1) = E.2.2.2.2.toNat
  | .new idx => ∃ (C : String) (T : u_T) (N : Nat), G.1[E.2.2.1]? = some (C, T, N) ∧ Cond.classLink own idx C ∈ Tg ∧ Cond.instantiable C N ∈ Tg ∧ Cond.initialized C ∈ Tg
  | .newarray at_ => G.2.1[E.2.2.1]? = some (newarray.typeOf at_) ∧ ev_fs (newarray.typeOf at_) < 3 ∧ Cond.arrayClass (newarray.typeOf at_) ∈ Tg
  | .anewarray idx => ∃ n : String, G.2.1[E.2.2.1]? = some (.object n) ∧ Cond.classLink own idx n ∈ Tg ∧ n ∈ AO
  | .ldc idx => Cond.constant own idx (Int32.ofInt E.2.2.2.2) ∈ Tg
  | .ldc2_w idx => Cond.constantLong own idx (Int64.ofInt E.2.2.2.2) ∈ Tg
  | .invokevirtual idx => ∃ M' : ev_M, PG[E.2.2.1]? = some M' ∧ Cond.methodLink own idx (ev_mN M') ∈ Tg ∧ ∃ (T : u_T) (N : Nat), G.1[E.2.2.2.1]? = some ((ev_mN M').cls, T, N)
  | .invokestatic idx => (E.2.2.1 = 998 ∧ Cond.methodLink own idx Lib.Math.max.name ∈ Tg ∧ Cond.static Lib.Math.max.name ∈ Tg ∧ Cond.initialized "java/lang/Math" ∈ Tg ∧ Cond.code Lib.Math.max.name Lib.Math.max.code 2 (some .int) ∈ Tg) ∨ (E.2.2.1 = 997 ∧ Cond.methodLink own idx Lib.Math.min.name ∈ Tg ∧ Cond.static Lib.Math.min.name ∈ Tg ∧ Cond.initialized "java/lang/Math" ∈ Tg ∧ Cond.code Lib.Math.min.name Lib.Math.min.code 2 (some .int) ∈ Tg) ∨ (E.2.2.1 < 900 ∧ ∃ M' : ev_M, PG[E.2.2.1]? = some M' ∧ Cond.methodLink own idx (ev_mN M') ∈ Tg)
  | .invokespecial idx => (E.2.2.1 = 999 ∧ Cond.methodLink own idx objectInit ∈ Tg ∧ Cond.instanceMethod objectInit ∈ Tg ∧ Cond.code objectInit ⟨#[0xb1]⟩ 1 none ∈ Tg) ∨ (E.2.2.1 ≠ 999 ∧ ∃ M' : ev_M, PG[E.2.2.1]? = some M' ∧ (Cond.methodLink own idx (ev_mN M') ∈ Tg ∨ ∃ host, Cond.methodLinkNest own idx (ev_mN M') host ∈ Tn))
  | _ => True
def ev_Kw (D : va_G) (cl : List vw_C) (tys : List (ClassId × FieldType)) (Tn : List Cond) (AO : List String) (U : State) : Prop := va_K D cl tys U ∧ (∀ w ∈ Tn, va_Nw w U) ∧ ∀ n ∈ AO, va_AO n U
/-- the tables' own facts -/
def ev_Fx (Tg Tn : List Cond) (G : ev_G) (TY : Nat → Nat → FieldType) : Prop :=
  G.1.length ≤ 100 ∧ (∀ w ∈ Tg, (w.onTables && w.keeps) = true ∨ ∃ ty, w = .arrayClass ty) ∧ (∀ w ∈ Tn, (∃ a i x n d hh, w = Cond.fieldLinkNest a i x n d hh) ∨ ∃ a i x hh, w = Cond.methodLinkNest a i x hh) ∧
  (∀ (ci : Nat) (C : String) (T : u_T) (N : Nat), G.1[ci]? = some (C, T, N) → (∀ w ∈ u_ws C T N, w ∈ Tg) ∧ (∀ k, k < N → parseFieldDescriptor (T k).2.2.1 = some (TY ci k)) ∧ ∀ a, a < N → ∀ b, b < N → a ≠ b → (T a).2.1 ≠ (T b).2.1) ∧
  ∀ (ci : Nat) (c : ev_C), G.2.2[ci]? = some c → ∃ (C : String) (T : u_T) (N : Nat), G.1[ci]? = some (C, T, N) ∧ c.1 = ci ∧ c.2.1 = N ∧ ∀ j, j < N → ev_fs (TY ci j) < 4 ∧ ev_cg c j = ev_df (TY ci j)
/-- what stands fast while a method runs -/
def ev_Cx (D : va_G) (tys : List (ClassId × FieldType)) (Tg Tn : List Cond) (AO : List String) (G : ev_G) (M : ev_M) (p : Program) (s : State) (m : MethodId) (args : Array Value) (meth : Method) (c : Code) : Prop :=
  p.tables.exec = Jvm.exec ∧ c.code = ev_mB M ∧ c.maxLocals = ev_mL M ∧ s.vm.findClass (ev_mN M).cls = some m.cls ∧ (∀ w ∈ Tg, w.before args s = true) ∧ meth.sig.returnType = ev_mR M ∧ meth.locks = false ∧ (ev_mK M = 2 → meth.name = "<init>") ∧ ev_Kw D G.1 tys Tn AO s
/-- the script, if it is looked at -/
def ev_Sd (o : Bool) (B b L : Nat) (xs : Nat → Int32) (s : State) (sg : List ev_A) : Prop := ev_Sc sg L xs ∧ (sg ≠ [] → o = true) ∧ (o = true → b < B ∧ va_X b L xs s s.heap)
theorem ev_tmap {tys : List (ClassId × FieldType)} {tl : List FieldType} (h : tys.map Prod.snd = tl) {t : Nat} {ty : FieldType} (e : tl[t]? = some ty) : ∃ cA, tys[t]? = some (cA, ty) := by
  subst h
  rw [List.getElem?_map] at e
  cases h2 : tys[t]? with
  | none => rw [h2] at e; cases e
  | some q =>
    rw [h2] at e
    obtain ⟨cA, ty'⟩ := q
    cases e
    exact ⟨cA, rfl⟩
theorem ev_szc {B b : Nat} : ∀ {cst : List Value} {st : List ev_A}, ev_g1 B b cst st → (cst.map fun v => v.category).sum = ev_sz st
  | [], [], _ => rfl
  | [], _ :: _, h => h.elim
  | _ :: _, [], h => h.elim
  | v :: vs, a :: as, h => by
    have ih := ev_szc h.2
    simp only [ev_sz, List.map_cons, List.sum_cons] at ih ⊢
    rw [ih]
    have := ev_cat h.1
    rcases lv_cat v with q | q
    · rw [q] at this ⊢
      have h1 : (a.1 == 1) = false := by rw [← this]; rfl
      rw [h1]; rfl
    · rw [q] at this ⊢
      have h1 : (a.1 == 1) = true := by rw [← this]; rfl
      rw [h1]; rfl
theorem ev_ref2 {B b : Nat} {v : Value} {t : Nat} {z z' : Int} (h : ev_g B b v (t, z, z')) (ht : (t == 2) = true) : v = .ref (B + z.toNat) := by
  have : t = 2 := by simpa using ht
  subst this
  exact h
section EVS
variable {p : Program} {l : Launch} {e : Env} {R : Room} {s : State} {m : MethodId} {args : Array Value} {below : List Frame} {meth : Method} {c : Code} {H : Heap} {locs : List Loc} {cells slots : Nat} {Q : State → Prop}
variable {pc : Nat} {o : Bool} {ls : Array Slot} {B b L : Nat} {xs : Nat → Int32} {D : va_G} {tys : List (ClassId × FieldType)} {Tg Tn : List Cond} {AO : List String} {G : ev_G} {TY : Nat → Nat → FieldType} {PG : List ev_M} {M : ev_M}
variable {h : ev_Q} {sg st : List ev_A} {bc bs : Nat} {cst : List Value} {Lq : List (ev_Q × List ev_A × List ev_A × Nat × Nat)}
theorem ev_hald_inv {ok : FieldType → Bool} (hp : ev_hald G ok h sg st bc bs = some Lq) : ∃ (a : ev_A) (z z' : Int) (r : List ev_A) (j : Nat) (c : ev_C) (ty : FieldType), st = a :: (2, z, z') :: r ∧ ev_idx a = some j ∧ ev_hg h z.toNat = some c ∧ 100 ≤ c.1 ∧ j < c.2.1 ∧ G.2.1[c.1 - 100]? = some ty ∧ ok ty = true ∧ Lq = [(h, sg, ev_cg c j :: r, bc, bs)] := by
  unfold ev_hald at hp
  split at hp
  · split at hp
    · split at hp
      · split at hp
        · split at hp
          · split at hp
            · rename_i a t z z' r _ j hj htt _ c hc _ ty hty hq
              cases hp
              obtain ⟨q1, q2, q3⟩ := hq
              rw [ev_nth_eq] at hty
              exact ⟨a, z, z', r, j, c, ty, by rw [beq_iff_eq] at htt; rw [htt], hj, hc, q1, q2, hty, q3, rfl⟩
            · cases hp
          · split at hp
            · rename_i hq
              exact absurd hq.2.2 (by simp)
            · cases hp
        · cases hp
      · cases hp
    · cases hp
  · cases hp
theorem ev_hast_inv {ok : FieldType → Bool} {f : Nat} (hp : ev_hast G ok f h sg st bc bs = some Lq) : ∃ (a x : ev_A) (z z' : Int) (r : List ev_A) (j : Nat) (c : ev_C) (ty : FieldType), st = a :: x :: (2, z, z') :: r ∧ ev_idx x = some j ∧ ev_fit f a = true ∧ ev_hg h z.toNat = some c ∧ 100 ≤ c.1 ∧ j < c.2.1 ∧ G.2.1[c.1 - 100]? = some ty ∧ ok ty = true ∧ Lq = [(ev_hs h z.toNat (ev_cs c j a), sg, r, bc, bs)] := by
  unfold ev_hast at hp
  split at hp
  · split at hp
    · split at hp
      · split at hp
        · split at hp
          · split at hp
            · rename_i a x t z z' r _ j hj htt _ c hc _ ty hty hq
              cases hp
              obtain ⟨q1, q2, q3⟩ := hq
              rw [Bool.and_eq_true] at htt
              rw [ev_nth_eq] at hty
              exact ⟨a, x, z, z', r, j, c, ty, by rw [beq_iff_eq] at htt; rw [htt.1], hj, htt.2, hc, q1, q2, hty, q3, rfl⟩
            · cases hp
          · split at hp
            · rename_i hq
              exact absurd hq.2.2 (by simp)
            · cases hp
        · cases hp
      · cases hp
    · cases hp
  · cases hp
theorem ev_haas_inv (hp : ev_haas G h sg st bc bs = some Lq) : ∃ (a x : ev_A) (z z' : Int) (r : List ev_A) (j : Nat) (c : ev_C) (n : String), st = a :: x :: (2, z, z') :: r ∧ ev_idx x = some j ∧ ev_hg h z.toNat = some c ∧ 100 ≤ c.1 ∧ j < c.2.1 ∧ G.2.1[c.1 - 100]? = some (.object n) ∧ ev_isO G h a n = true ∧ Lq = [(ev_hs h z.toNat (ev_cs c j a), sg, r, bc, bs)] := by
  unfold ev_haas at hp
  split at hp
  · split at hp
    · split at hp
      · split at hp
        · split at hp
          · split at hp
            · rename_i a x t z z' r _ j hj htt _ c hc _ n hty hq
              cases hp
              obtain ⟨q1, q2, q3⟩ := hq
              rw [ev_nth_eq] at hty
              exact ⟨a, x, z, z', r, j, c, n, by rw [beq_iff_eq] at htt; rw [htt], hj, hc, q1, q2, hty, q3, rfl⟩
            · cases hp
          · split at hp
            · rename_i hq
              exact absurd hq.2.2 (by simp)
            · cases hp
        · cases hp
      · cases hp
    · cases hp
  · cases hp
theorem ev_hsld_inv {E : ev_E} (hp : ev_hsld E h sg st bc bs = some Lq) : ∃ (a : ev_A) (z z' : Int) (r : List ev_A) (j : Nat) (l0 h0 l1 h1 : Int) (sg' : List ev_A), st = a :: (4, z, z') :: r ∧ ev_idx a = some j ∧ sg = (0, l0, h0) :: sg' ∧ (j : Int) < l0 ∧ sg[j + 1]? = some (0, l1, h1) ∧ Lq = (ev_cut l1 h1 (ev_cuts E.2.2.2.1 j sg)).map fun a => (h, sg.set (j + 1) a, a :: r, bc, bs) := by
  unfold ev_hsld at hp
  split at hp
  · split at hp
    · split at hp
      · split at hp
        · split at hp
          · split at hp
            · split at hp
              · rename_i a t z z' r _ j hj htt _ t0 l0 h0 sg' hq _ t1 l1 h1 hn ht1
                cases hp
                rw [Bool.and_eq_true, decide_eq_true_eq, beq_iff_eq] at hq
                rw [beq_iff_eq] at ht1 htt
                rw [ev_nth_eq] at hn
                obtain ⟨q1, q2⟩ := hq
                subst q1
                subst ht1
                subst htt
                exact ⟨a, z, z', r, j, l0, h0, l1, h1, sg', rfl, hj, rfl, q2, hn, rfl⟩
              · cases hp
            · cases hp
          · cases hp
        · cases hp
      · cases hp
    · cases hp
  · cases hp
theorem ev_isO_inv {a : ev_A} {n : String} (q : ev_isO G h a n = true) : a.1 = 3 ∨ (a.1 = 2 ∧ ∃ (c2 : ev_C) (T : u_T) (N : Nat), ev_hg h a.2.1.toNat = some c2 ∧ G.1[c2.1]? = some (n, T, N)) := by
  unfold ev_isO at q
  rw [Bool.or_eq_true, Bool.and_eq_true, beq_iff_eq, beq_iff_eq] at q
  rcases q with q | ⟨q1, q2⟩
  · exact Or.inl q
  · split at q2
    · rename_i c2 hc2
      split at q2
      · rename_i r hr
        rw [ev_nth_eq] at hr
        obtain ⟨C, T, N⟩ := r
        have : C = n := by simpa using q2
        subst this
        exact Or.inr ⟨q1, c2, T, N, hc2, hr⟩
      · cases q2
    · cases q2
theorem ev_hmm_inv {f : Int → Int → Int → Int → ev_A} (hp : ev_hmm f M h sg st bc bs = some Lq) : ∃ l1 h1 l2 h2 r, st = (0, l2, h2) :: (0, l1, h1) :: r ∧ 1 ≤ ev_mF M ∧ ev_sz r + 13 ≤ ev_mO M ∧ Lq = [(h, sg, f l1 h1 l2 h2 :: r, bc, bs)] := by
  unfold ev_hmm at hp
  split at hp
  · split at hp
    · rename_i t2 l2 g2 t1 l1 g1 r hq
      cases hp
      simp only [Bool.and_eq_true, decide_eq_true_eq, beq_iff_eq] at hq
      obtain ⟨⟨⟨rfl, rfl⟩, q1⟩, q2⟩ := hq
      exact ⟨l1, g1, l2, g2, r, rfl, q1, q2, rfl⟩
    · cases hp
  · cases hp
theorem ev_mx_ok {x y : Int32} {l1 h1 l2 h2 : Int} (a1 : l1 ≤ x.toInt) (a2 : x.toInt ≤ h1) (b1 : l2 ≤ y.toInt) (b2 : y.toInt ≤ h2) : ev_g B b (.int (if x < y then y else x)) (ev_mx l1 h1 l2 h2) := by
  refine ⟨_, rfl, ?_, ?_⟩ <;> (show _ ≤ _) <;> unfold ev_mx <;> dsimp only <;> by_cases q : x < y <;> simp only [q, if_true, if_false] <;> (rw [Int32.lt_iff_toInt_lt] at q) <;> split <;> omega
theorem ev_mn_ok {x y : Int32} {l1 h1 l2 h2 : Int} (a1 : l1 ≤ x.toInt) (a2 : x.toInt ≤ h1) (b1 : l2 ≤ y.toInt) (b2 : y.toInt ≤ h2) : ev_g B b (.int (if y < x then y else x)) (ev_mn l1 h1 l2 h2) := by
  refine ⟨_, rfl, ?_, ?_⟩ <;> (show _ ≤ _) <;> unfold ev_mn <;> dsimp only <;> by_cases q : y < x <;> simp only [q, if_true, if_false] <;> (rw [Int32.lt_iff_toInt_lt] at q) <;> split <;> omega
theorem ev_tyI_ok {ty : FieldType} (q : ev_tyI ty = true) : ty = .int := by cases ty <;> first | rfl | exact absurd q (by simp [ev_tyI])
theorem ev_tyJ_ok {ty : FieldType} (q : ev_tyJ ty = true) : ty = .long := by cases ty <;> first | rfl | exact absurd q (by simp [ev_tyJ])
theorem ev_tyZ_ok {ty : FieldType} (q : ev_tyZ ty = true) : ty = .boolean := by cases ty <;> first | rfl | exact absurd q (by simp [ev_tyZ])
theorem ev_tyO_ok {ty : FieldType} (q : ev_tyO ty = true) : ∃ E, ty = .object E := by cases ty <;> first | exact ⟨_, rfl⟩ | exact absurd q (by simp [ev_tyO])
theorem ev_hp_ok {E : ev_E} (Fx : ev_Fx Tg Tn G TY) (X : ev_Cx D tys Tg Tn AO G M p s m args meth c) (lk : ev_lok Tg Tn AO G TY PG (ev_mN M).cls (ev_mK M) E) (hd : decode (ev_mB M) pc = .ok (E.1, E.2.1)) (hp : ev_hp G M E h sg st bc bs = some Lq) (ht : tys.map Prod.snd = G.2.1) (hR : ev_R D G.1 tys B b h H) (hL : ev_Lo B s.heap H locs) (hS : ev_Sd o B b L xs s sg) (h1 : ev_g1 B b cst st) (hsz : ls.size = ev_mL M) (hc : cells + bc ≤ R.cells) (hs : slots + bs ≤ R.slots) (hF : ev_mF M ≤ R.frames) (hO : ev_mO M ≤ R.locals)
    (kk : ∀ q ∈ Lq, ∀ (H1 : Heap) (locs1 : List Loc) (cst1 : List Value) (cells1 slots1 : Nat), ev_R D G.1 tys B b q.1 H1 → ev_Lo B s.heap H1 locs1 → ev_Sd o B b L xs s q.2.1 → ev_g1 B b cst1 q.2.2.1 → cells1 + q.2.2.2.1 ≤ cells + bc → slots1 + q.2.2.2.2 ≤ slots + bs → W p l e R s m args below meth c H1 locs1 cells1 slots1 Q (F0 m (pc + E.2.1) ls cst1)) : W p l e R s m args below meth c H locs cells slots Q (F0 m pc ls cst) := by
  obtain ⟨ins, len, u, v, z⟩ := E
  obtain ⟨hx, hb, hml, hown, hts, hret, hlocks, hin0, hK, hNw, hAO⟩ := X
  obtain ⟨f1, f2, f3, f4, f5⟩ := Fx
  dsimp only at hd kk
  cases ins
  case getfield idx =>
    simp only [ev_hp] at hp
    split at hp
    · rename_i hq
      rw [beq_iff_eq] at hq
      subst hq
      unfold ev_hget at hp
      split at hp
      · split at hp
        · split at hp
          · split at hp
            · rename_i t z1 z2 r htt _ cell hcell hci
              cases hp
              obtain ⟨w, ws, rfl, e1, g1⟩ := ev_cons h1
              have := ev_ref2 e1 htt
              subst this
              obtain ⟨C, T, N, k1, k2, k3, k4⟩ := lk
              refine ev_r_get (Ts := Tg) (C := C) (T := T) (N := N) hx hb hts (f4 _ _ _ _ k1).1 hown hK hR f1 k1 k2 k3 ?_ hcell (by simpa using hci) hd (fun v0 hv0 => kk _ (List.mem_singleton.mpr rfl) H locs _ _ _ hR hL hS ⟨hv0, g1⟩ (Nat.le_refl _) (Nat.le_refl _))
              rcases k4 with k4 | ⟨host, k4⟩
              · exact Or.inl (hts _ k4)
              · exact Or.inr ⟨host, va_Nw.use rfl (hNw _ k4)⟩
            · cases hp
          · cases hp
        · cases hp
      · cases hp
    · cases hp
  case putfield idx =>
    simp only [ev_hp] at hp
    split at hp
    · rename_i hq
      rw [beq_iff_eq] at hq
      subst hq
      unfold ev_hput at hp
      split at hp
      · split at hp
        · split at hp
          · split at hp
            · rename_i a t z1 z2 r htt _ cell hcell hci
              cases hp
              rw [Bool.and_eq_true] at htt
              obtain ⟨w0, ws, rfl, e0, g0⟩ := ev_cons h1
              obtain ⟨w, ws, rfl, e1, g1⟩ := ev_cons g0
              have := ev_ref2 e1 htt.1
              subst this
              obtain ⟨C, T, N, k1, k2, k3, k4, k5, k6⟩ := lk
              refine ev_r_put (Ts := Tg) (C := C) (T := T) (N := N) (ty0 := TY u) hx hb hts (f4 _ _ _ _ k1).1 (f4 _ _ _ _ k1).2.1 (f4 _ _ _ _ k1).2.2 hown hK hR hL f1 k1 k2 k3 ?_ (fun q => ⟨(k5 q).1, hin0 (k5 q).2⟩) e0 (by rw [k6]; exact htt.2) hcell (by simpa using hci) hd (fun H1 locs1 q1 q2 => kk _ (List.mem_singleton.mpr rfl) H1 locs1 _ _ _ q1 q2 hS g1 (Nat.le_refl _) (Nat.le_refl _))
              rcases k4 with k4 | ⟨⟨host, k4⟩, k7⟩
              · exact Or.inl (hts _ k4)
              · exact Or.inr ⟨⟨host, va_Nw.use rfl (hNw _ k4)⟩, k7⟩
            · cases hp
          · cases hp
        · cases hp
      · cases hp
    · cases hp
  case new idx =>
    simp only [ev_hp] at hp
    split at hp
    · rename_i hq
      rw [beq_iff_eq] at hq
      subst hq
      unfold ev_hnew at hp
      split at hp
      · split at hp
        · split at hp
          · rename_i cell hcell hbc _ h' hh
            cases hp
            rw [ev_nth_eq] at hcell
            obtain ⟨C, T, N, k1, k2, k3, k4⟩ := lk
            obtain ⟨C', T', N', m1, m2, m3, m4⟩ := f5 _ _ hcell
            have e1 := Option.some.inj (k1.symm.trans m1)
            obtain ⟨rfl, e2⟩ := Prod.mk.inj e1
            obtain ⟨rfl, rfl⟩ := Prod.mk.inj e2
            refine ev_r_new (Ts := Tg) (ty0 := TY u) hx hb hts (f4 _ _ _ _ k1).1 (f4 _ _ _ _ k1).2.1 hown (hts _ k2) (hts _ k3) (hts _ k4) hK hR hL k1 hh ⟨m2, m4⟩ (by omega) (by omega) hd (fun H1 q1 q2 => kk _ (List.mem_singleton.mpr rfl) H1 locs _ _ _ q1 q2 hS ⟨rfl, h1⟩ (by dsimp only; omega) (by dsimp only; omega))
          · cases hp
        · cases hp
      · cases hp
    · cases hp
  case newarray at_ =>
    simp only [ev_hp] at hp
    split at hp
    · rename_i hq
      rw [beq_iff_eq] at hq
      subst hq
      unfold ev_hnwa at hp
      split at hp
      · split at hp
        · split at hp
          · split at hp
            · rename_i a r _ n hn hbc _ h' hh
              cases hp
              obtain ⟨w, ws, rfl, e1, g1⟩ := ev_cons h1
              obtain ⟨x, rfl, x1, x2⟩ := ev_idx_ok e1 hn
              obtain ⟨k1, k2, k3⟩ := lk
              obtain ⟨cA, k4⟩ := ev_tmap ht k1
              exact ev_r_newa hx hb (hts _ k3) hK hR hL k4 k2 hh rfl x1 x2 hbc.2.2 (by omega) (by omega) hd (fun H1 q1 q2 => kk _ (List.mem_singleton.mpr rfl) H1 locs _ _ _ q1 q2 hS ⟨rfl, g1⟩ (by dsimp only; omega) (by dsimp only; omega))
            · cases hp
          · cases hp
        · cases hp
      · cases hp
    · cases hp
  case anewarray idx =>
    simp only [ev_hp] at hp
    split at hp
    · rename_i hq
      rw [beq_iff_eq] at hq
      subst hq
      unfold ev_hnwa at hp
      split at hp
      · split at hp
        · split at hp
          · split at hp
            · rename_i a r _ n hn hbc _ h' hh
              cases hp
              obtain ⟨w, ws, rfl, e1, g1⟩ := ev_cons h1
              obtain ⟨x, rfl, x1, x2⟩ := ev_idx_ok e1 hn
              obtain ⟨nm, k1, k2, k3⟩ := lk
              obtain ⟨cA, k4⟩ := ev_tmap ht k1
              exact ev_r_anew hx hb hown (hts _ k2) (hAO _ k3) hK hR hL k4 hh rfl x1 x2 hbc.2.2 (by omega) (by omega) hd (fun H1 q1 q2 => kk _ (List.mem_singleton.mpr rfl) H1 locs _ _ _ q1 q2 hS ⟨rfl, g1⟩ (by dsimp only; omega) (by dsimp only; omega))
            · cases hp
          · cases hp
        · cases hp
      · cases hp
    · cases hp
  case arraylength =>
    simp only [ev_hp] at hp
    split at hp
    · rename_i hq
      rw [beq_iff_eq] at hq
      subst hq
      unfold ev_hlen at hp
      split at hp
      · split at hp
        · split at hp
          · split at hp
            · rename_i t z1 z2 r htt _ cell hcell hci
              cases hp
              obtain ⟨w, ws, rfl, e1, g1⟩ := ev_cons h1
              have := ev_ref2 e1 htt
              subst this
              exact ev_r_alen (t := cell.1 - 100) hx hb hK hR f1 hcell (by omega) hci.2 hd (fun v0 hv0 => kk _ (List.mem_singleton.mpr rfl) H locs _ _ _ hR hL hS ⟨hv0, g1⟩ (Nat.le_refl _) (Nat.le_refl _))
            · cases hp
          · cases hp
        · split at hp
          · split at hp
            · rename_i t z1 z2 r htt ht4 _ a sg'
              cases hp
              obtain ⟨w, ws, rfl, e1, g1⟩ := ev_cons h1
              have : t = 4 := by simpa using ht4
              subst this
              have e1 : w = .ref b := e1
              subst e1
              obtain ⟨hbB, hX⟩ := hS.2.2 (hS.2.1 (by simp))
              exact ev_r_slen hx hb hX hbB hL hd (kk _ (List.mem_singleton.mpr rfl) H locs _ _ _ hR hL hS ⟨ev_gI (hS.1.2.1 a rfl), g1⟩ (Nat.le_refl _) (Nat.le_refl _))
            · cases hp
          · cases hp
      · cases hp
    · cases hp
  case ldc idx =>
    simp only [ev_hp] at hp
    split at hp
    · rename_i hq
      rw [beq_iff_eq] at hq
      subst hq
      cases hp
      exact lv_ldc hx hb hown (hts _ lk) hd (kk _ (List.mem_singleton.mpr rfl) H locs _ _ _ hR hL hS ⟨ev_I_ok _, h1⟩ (Nat.le_refl _) (Nat.le_refl _))
    · cases hp
  case ldc2_w idx =>
    simp only [ev_hp] at hp
    split at hp
    · rename_i hq
      rw [beq_iff_eq] at hq
      subst hq
      cases hp
      exact lv_ldc2 hx hb hown (hts _ lk) hd (kk _ (List.mem_singleton.mpr rfl) H locs _ _ _ hR hL hS ⟨ev_J_ok _, h1⟩ (Nat.le_refl _) (Nat.le_refl _))
    · cases hp
  case invokestatic idx =>
    simp only [ev_hp] at hp
    split at hp
    · rename_i hq
      rw [Bool.and_eq_true, beq_iff_eq, beq_iff_eq] at hq
      obtain ⟨rfl, hu⟩ := hq
      obtain ⟨l1, g1, l2, g2, r, rfl, m1, m2, rfl⟩ := ev_hmm_inv hp
      obtain ⟨w0, ws, rfl, e0, u0⟩ := ev_cons h1
      obtain ⟨w, ws, rfl, e1, u1⟩ := ev_cons u0
      obtain ⟨y, rfl, b1, b2⟩ := ev_int e0
      obtain ⟨x, rfl, a1, a2⟩ := ev_int e1
      have h3 := ev_szc u1
      rcases lk with ⟨k0, k1, k2, k3, k4⟩ | ⟨k0, k1, k2, k3, k4⟩ | ⟨k0, -⟩
      · exact va_mmax hx hb (hml.trans hsz.symm) hown (hts _ k1) (hts _ k2) (hts _ k3) (hts _ k4) (by omega) (by omega) (by omega) (by omega) hd (kk _ (List.mem_singleton.mpr rfl) H locs _ _ _ hR hL hS ⟨ev_mx_ok a1 a2 b1 b2, u1⟩ (Nat.le_refl _) (Nat.le_refl _))
      · dsimp only at k0; omega
      · dsimp only at k0; omega
    · split at hp
      · rename_i hq
        rw [Bool.and_eq_true, beq_iff_eq, beq_iff_eq] at hq
        obtain ⟨rfl, hu⟩ := hq
        obtain ⟨l1, g1, l2, g2, r, rfl, m1, m2, rfl⟩ := ev_hmm_inv hp
        obtain ⟨w0, ws, rfl, e0, u0⟩ := ev_cons h1
        obtain ⟨w, ws, rfl, e1, u1⟩ := ev_cons u0
        obtain ⟨y, rfl, b1, b2⟩ := ev_int e0
        obtain ⟨x, rfl, a1, a2⟩ := ev_int e1
        have h3 := ev_szc u1
        rcases lk with ⟨k0, k1, k2, k3, k4⟩ | ⟨k0, k1, k2, k3, k4⟩ | ⟨k0, -⟩
        · dsimp only at k0; omega
        · exact va_mmin hx hb (hml.trans hsz.symm) hown (hts _ k1) (hts _ k2) (hts _ k3) (hts _ k4) (by omega) (by omega) (by omega) (by omega) hd (kk _ (List.mem_singleton.mpr rfl) H locs _ _ _ hR hL hS ⟨ev_mn_ok a1 a2 b1 b2, u1⟩ (Nat.le_refl _) (Nat.le_refl _))
        · dsimp only at k0; omega
      · cases hp
  case invokespecial idx =>
    simp only [ev_hp] at hp
    split at hp
    · rename_i hq
      rw [Bool.and_eq_true, beq_iff_eq, beq_iff_eq] at hq
      obtain ⟨rfl, hu⟩ := hq
      unfold ev_hobj at hp
      split at hp
      · split at hp
        · rename_i t z1 z2 r htt
          cases hp
          simp only [Bool.and_eq_true, decide_eq_true_eq] at htt
          obtain ⟨w, ws, rfl, e1, g1⟩ := ev_cons h1
          have := ev_ref2 e1 htt.1.1
          subst this
          rcases lk with ⟨-, k1, k2, k3⟩ | ⟨k0, -⟩
          · refine W.objInit hx hb hown (hts _ k1) (hts _ k2) (hts _ k3) rfl (by rw [hml]; exact hsz) rfl hd (by omega) ?_ (kk _ (List.mem_singleton.mpr rfl) H locs _ _ _ hR hL hS g1 (Nat.le_refl _) (Nat.le_refl _))
            have h3 := ev_szc g1
            show 2 * 0 + (ws.map fun v => v.category).sum + 12 ≤ R.locals
            omega
          · exact absurd hu k0
        · cases hp
      · cases hp
    · cases hp
  case iaload =>
    simp only [ev_hp] at hp
    split at hp
    · rename_i hq
      rw [beq_iff_eq] at hq
      subst hq
      unfold ev_or at hp
      split at hp
      · rename_i _ r9 h9
        cases hp
        obtain ⟨a, z1, z2, r, j, cell, ty, rfl, hj, hcell, q1, q2, hty, hok, rfl⟩ := ev_hald_inv h9
        obtain ⟨w0, ws, rfl, e0, g0⟩ := ev_cons h1
        obtain ⟨w, ws, rfl, e1, g1⟩ := ev_cons g0
        obtain ⟨x, rfl, x1, x2⟩ := ev_idx_ok e0 hj
        have := ev_ref2 e1 rfl
        subst this
        have := ev_tyI_ok hok
        subst this
        exact ev_r_ald (t := cell.1 - 100) (Or.inl ⟨rfl, rfl⟩) hx hb hK hR f1 hcell (by omega) (ev_tmap ht hty) x1 x2 q2 hd (fun v0 hv0 => kk _ (List.mem_singleton.mpr rfl) H locs _ _ _ hR hL hS ⟨hv0, g1⟩ (Nat.le_refl _) (Nat.le_refl _))
      · obtain ⟨a, z1, z2, r, j, l0, g0, l1, g1, sg', rfl, hj, rfl, q1, q2, rfl⟩ := ev_hsld_inv hp
        obtain ⟨w0, ws, rfl, e0, u0⟩ := ev_cons h1
        obtain ⟨w, ws, rfl, e1, u1⟩ := ev_cons u0
        obtain ⟨x, rfl, x1, x2⟩ := ev_idx_ok e0 hj
        have e1 : w = .ref b := e1
        subst e1
        have hLn : j < L := by
          obtain ⟨y, y1, y2, y3⟩ := hS.1.2.1 _ rfl
          cases y1
          have e9 : (nI L).toInt = L := nI_toInt hS.1.1
          dsimp only at y2
          rw [e9] at y2
          omega
        obtain ⟨y, y1, y2, y3⟩ := hS.1.2.2 j _ q2 hLn
        cases y1
        obtain ⟨a9, m1, m2⟩ := ev_cut_ok (B := 0) (b := 0) (ks := ev_cuts v j ((0, l0, g0) :: sg')) y2 y3
        obtain ⟨hbB, hX⟩ := hS.2.2 (hS.2.1 (by simp))
        exact ev_r_sld hx hb hX hbB hL x1 x2 hLn hd (kk (h, ((0, l0, g0) :: sg').set (j + 1) a9, a9 :: r, bc, bs) (List.mem_map.mpr ⟨a9, m1, rfl⟩) H locs _ _ _ hR hL ⟨hS.1.set m2, fun _ => hS.2.1 (by simp), hS.2.2⟩ ⟨ev_gI m2, u1⟩ (Nat.le_refl _) (Nat.le_refl _))
    · cases hp
  case laload =>
    simp only [ev_hp] at hp
    split at hp
    · rename_i hq
      rw [beq_iff_eq] at hq
      subst hq
      obtain ⟨a, z1, z2, r, j, cell, ty, rfl, hj, hcell, q1, q2, hty, hok, rfl⟩ := ev_hald_inv hp
      obtain ⟨w0, ws, rfl, e0, g0⟩ := ev_cons h1
      obtain ⟨w, ws, rfl, e1, g1⟩ := ev_cons g0
      obtain ⟨x, rfl, x1, x2⟩ := ev_idx_ok e0 hj
      have := ev_ref2 e1 rfl
      subst this
      have := ev_tyJ_ok hok
      subst this
      exact ev_r_ald (t := cell.1 - 100) (Or.inr (Or.inl ⟨rfl, rfl⟩)) hx hb hK hR f1 hcell (by omega) (ev_tmap ht hty) x1 x2 q2 hd (fun v0 hv0 => kk _ (List.mem_singleton.mpr rfl) H locs _ _ _ hR hL hS ⟨hv0, g1⟩ (Nat.le_refl _) (Nat.le_refl _))
    · cases hp
  case baload =>
    simp only [ev_hp] at hp
    split at hp
    · rename_i hq
      rw [beq_iff_eq] at hq
      subst hq
      obtain ⟨a, z1, z2, r, j, cell, ty, rfl, hj, hcell, q1, q2, hty, hok, rfl⟩ := ev_hald_inv hp
      obtain ⟨w0, ws, rfl, e0, g0⟩ := ev_cons h1
      obtain ⟨w, ws, rfl, e1, g1⟩ := ev_cons g0
      obtain ⟨x, rfl, x1, x2⟩ := ev_idx_ok e0 hj
      have := ev_ref2 e1 rfl
      subst this
      have := ev_tyZ_ok hok
      subst this
      exact ev_r_ald (t := cell.1 - 100) (Or.inr (Or.inr (Or.inl ⟨rfl, rfl⟩))) hx hb hK hR f1 hcell (by omega) (ev_tmap ht hty) x1 x2 q2 hd (fun v0 hv0 => kk _ (List.mem_singleton.mpr rfl) H locs _ _ _ hR hL hS ⟨hv0, g1⟩ (Nat.le_refl _) (Nat.le_refl _))
    · cases hp
  case aaload =>
    simp only [ev_hp] at hp
    split at hp
    · rename_i hq
      rw [beq_iff_eq] at hq
      subst hq
      obtain ⟨a, z1, z2, r, j, cell, ty, rfl, hj, hcell, q1, q2, hty, hok, rfl⟩ := ev_hald_inv hp
      obtain ⟨w0, ws, rfl, e0, g0⟩ := ev_cons h1
      obtain ⟨w, ws, rfl, e1, g1⟩ := ev_cons g0
      obtain ⟨x, rfl, x1, x2⟩ := ev_idx_ok e0 hj
      have := ev_ref2 e1 rfl
      subst this
      obtain ⟨n9, rfl⟩ := ev_tyO_ok hok
      exact ev_r_ald (t := cell.1 - 100) (Or.inr (Or.inr (Or.inr ⟨rfl, n9, rfl⟩))) hx hb hK hR f1 hcell (by omega) (ev_tmap ht hty) x1 x2 q2 hd (fun v0 hv0 => kk _ (List.mem_singleton.mpr rfl) H locs _ _ _ hR hL hS ⟨hv0, g1⟩ (Nat.le_refl _) (Nat.le_refl _))
    · cases hp
  case iastore =>
    simp only [ev_hp] at hp
    split at hp
    · rename_i hq
      rw [beq_iff_eq] at hq
      subst hq
      obtain ⟨a, x0, z1, z2, r, j, cell, ty, rfl, hj, hfit, hcell, q1, q2, hty, hok, rfl⟩ := ev_hast_inv hp
      obtain ⟨wa, ws, rfl, ea, ga⟩ := ev_cons h1
      obtain ⟨w0, ws, rfl, e0, g0⟩ := ev_cons ga
      obtain ⟨w, ws, rfl, e1, g1⟩ := ev_cons g0
      obtain ⟨x, rfl, x1, x2⟩ := ev_idx_ok e0 hj
      have := ev_ref2 e1 rfl
      subst this
      have := ev_tyI_ok hok
      subst this
      exact ev_r_ast (t := cell.1 - 100) (Or.inl ⟨rfl, rfl⟩) hx hb hK hR hL f1 hcell (by omega) (ev_tmap ht hty) x1 x2 q2 ea hfit hd (fun H1 locs1 k1 k2 => kk _ (List.mem_singleton.mpr rfl) H1 locs1 _ _ _ k1 k2 hS g1 (Nat.le_refl _) (Nat.le_refl _))
    · cases hp
  case lastore =>
    simp only [ev_hp] at hp
    split at hp
    · rename_i hq
      rw [beq_iff_eq] at hq
      subst hq
      obtain ⟨a, x0, z1, z2, r, j, cell, ty, rfl, hj, hfit, hcell, q1, q2, hty, hok, rfl⟩ := ev_hast_inv hp
      obtain ⟨wa, ws, rfl, ea, ga⟩ := ev_cons h1
      obtain ⟨w0, ws, rfl, e0, g0⟩ := ev_cons ga
      obtain ⟨w, ws, rfl, e1, g1⟩ := ev_cons g0
      obtain ⟨x, rfl, x1, x2⟩ := ev_idx_ok e0 hj
      have := ev_ref2 e1 rfl
      subst this
      have := ev_tyJ_ok hok
      subst this
      exact ev_r_ast (t := cell.1 - 100) (Or.inr (Or.inl ⟨rfl, rfl⟩)) hx hb hK hR hL f1 hcell (by omega) (ev_tmap ht hty) x1 x2 q2 ea hfit hd (fun H1 locs1 k1 k2 => kk _ (List.mem_singleton.mpr rfl) H1 locs1 _ _ _ k1 k2 hS g1 (Nat.le_refl _) (Nat.le_refl _))
    · cases hp
  case bastore =>
    simp only [ev_hp] at hp
    split at hp
    · rename_i hq
      rw [beq_iff_eq] at hq
      subst hq
      obtain ⟨a, x0, z1, z2, r, j, cell, ty, rfl, hj, hfit, hcell, q1, q2, hty, hok, rfl⟩ := ev_hast_inv hp
      obtain ⟨wa, ws, rfl, ea, ga⟩ := ev_cons h1
      obtain ⟨w0, ws, rfl, e0, g0⟩ := ev_cons ga
      obtain ⟨w, ws, rfl, e1, g1⟩ := ev_cons g0
      obtain ⟨x, rfl, x1, x2⟩ := ev_idx_ok e0 hj
      have := ev_ref2 e1 rfl
      subst this
      have := ev_tyZ_ok hok
      subst this
      exact ev_r_ast (t := cell.1 - 100) (Or.inr (Or.inr ⟨rfl, rfl⟩)) hx hb hK hR hL f1 hcell (by omega) (ev_tmap ht hty) x1 x2 q2 ea hfit hd (fun H1 locs1 k1 k2 => kk _ (List.mem_singleton.mpr rfl) H1 locs1 _ _ _ k1 k2 hS g1 (Nat.le_refl _) (Nat.le_refl _))
    · cases hp
  case aastore =>
    simp only [ev_hp] at hp
    split at hp
    · rename_i hq
      rw [beq_iff_eq] at hq
      subst hq
      obtain ⟨a, x0, z1, z2, r, j, cell, n, rfl, hj, hcell, q1, q2, hty, hok, rfl⟩ := ev_haas_inv hp
      obtain ⟨wa, ws, rfl, ea, ga⟩ := ev_cons h1
      obtain ⟨w0, ws, rfl, e0, g0⟩ := ev_cons ga
      obtain ⟨w, ws, rfl, e1, g1⟩ := ev_cons g0
      obtain ⟨x, rfl, x1, x2⟩ := ev_idx_ok e0 hj
      have := ev_ref2 e1 rfl
      subst this
      exact ev_r_aast (t := cell.1 - 100) hx hb hK hR hL f1 hcell (by omega) (ev_tmap ht hty) x1 x2 q2 ea (ev_isO_inv hok) hd (fun H1 locs1 k1 k2 => kk _ (List.mem_singleton.mpr rfl) H1 locs1 _ _ _ k1 k2 hS g1 (Nat.le_refl _) (Nat.le_refl _))
    · cases hp
  all_goals (exact absurd hp (by simp [ev_hp]))
end EVS
end
section
/-! lists of values beside lists of what they may be -/
theorem ev_g1_app {B b : Nat} : ∀ {a c : List Value} {x y : List ev_A}, ev_g1 B b a x → ev_g1 B b c y → ev_g1 B b (a ++ c) (x ++ y)
  | [], _, [], _, _, h => h
  | [], _, _ :: _, _, h, _ => h.elim
  | _ :: _, _, [], _, h, _ => h.elim
  | _ :: _, _, _ :: _, _, h, h' => ⟨h.1, ev_g1_app h.2 h'⟩
theorem ev_g1_rev {B b : Nat} : ∀ {a : List Value} {x : List ev_A}, ev_g1 B b a x → ev_g1 B b a.reverse x.reverse
  | [], [], _ => trivial
  | [], _ :: _, h => h.elim
  | _ :: _, [], h => h.elim
  | v :: vs, a :: as, h => by
    rw [List.reverse_cons, List.reverse_cons]
    exact ev_g1_app (ev_g1_rev h.2) ⟨h.1, trivial⟩
theorem ev_g1_take {B b : Nat} : ∀ (n : Nat) {a : List Value} {x : List ev_A}, ev_g1 B b a x → ev_g1 B b (a.take n) (x.take n) ∧ ev_g1 B b (a.drop n) (x.drop n)
  | 0, _, _, h => ⟨by simp only [List.take_zero]; trivial, by simpa using h⟩
  | _ + 1, [], [], _ => ⟨trivial, trivial⟩
  | _ + 1, [], _ :: _, h => h.elim
  | _ + 1, _ :: _, [], h => h.elim
  | n + 1, _ :: _, _ :: _, h => ⟨⟨h.1, (ev_g1_take n h.2).1⟩, (ev_g1_take n h.2).2⟩
theorem ev_g1_len {B b : Nat} : ∀ {a : List Value} {x : List ev_A}, ev_g1 B b a x → a.length = x.length
  | [], [], _ => rfl
  | [], _ :: _, h => h.elim
  | _ :: _, [], h => h.elim
  | _ :: _, _ :: _, h => by rw [List.length_cons, List.length_cons, ev_g1_len h.2]
theorem ev_args_ok {B b : Nat} : ∀ {i : Nat} {a : List Value} {x : List ev_A}, ev_g1 B b a x → ev_g2 B b (lv_args i a) (ev_args i x)
  | _, [], [], _ => trivial
  | _, [], _ :: _, h => h.elim
  | _, _ :: _, [], h => h.elim
  | i, v :: vs, a :: as, h => by
    have e := ev_cat h.1
    have e2 : (if v.category = 2 then i + 2 else i + 1) = (if a.1 == 1 then i + 2 else i + 1) := by
      rw [← e]
      simp
    unfold lv_args ev_args
    rw [e2]
    exact ⟨⟨rfl, h.1⟩, ev_args_ok h.2⟩
theorem ev_lgsl : ∀ (vs : List Value), (lg_sl vs).length = (vs.map fun v => v.category).sum
  | [] => rfl
  | v :: vs => by
    have ih := ev_lgsl vs
    unfold lg_sl at ih ⊢
    rw [List.flatMap_cons, List.length_append, ih, List.map_cons, List.sum_cons]
    rcases lv_cat v with q | q
    · rw [q]; simp
    · rw [q]; simp
/-- the answer of a method -/
def ev_vr (B b : Nat) (v : Option Value) (a : Option ev_A) : Prop := match v, a with
  | none, none => True
  | some v, some a => ev_g B b v a
  | _, _ => False
theorem ev_vr_st {B b : Nat} {v : Option Value} {a : Option ev_A} {cst : List Value} {st : List ev_A} (h : ev_vr B b v a) (h1 : ev_g1 B b cst st) : ev_g1 B b (v.toList ++ cst) (a.toList ++ st) := by
  cases v with
  | none => cases a with
    | none => exact h1
    | some a => exact h.elim
  | some v => cases a with
    | none => exact h.elim
    | some a => exact ⟨h, h1⟩
def ev_rm (M : ev_M) : Room := { frames := ev_mF M, cells := ev_mY M, slots := ev_mS M, locals := ev_mO M }
def ev_ws (Tg : List Cond) (M : ev_M) : List Cond := Cond.code (ev_mN M) (ev_mB M) (ev_mL M) (ev_mR M) :: Tg
/-- what the tables say of a method -/
def ev_mok (Tg Tn : List Cond) (AO : List String) (G : ev_G) (TY : Nat → Nat → FieldType) (PG : List ev_M) (M : ev_M) : Prop :=
  plainName (ev_mN M).cls = true ∧ Cond.code (ev_mN M) (ev_mB M) (ev_mL M) (ev_mR M) ∈ Tg ∧ Cond.initialized (ev_mN M).cls ∈ Tg ∧ ((ev_mN M).cls ≠ "java/lang/invoke/MethodHandle" ∧ (ev_mN M).cls ≠ "java/lang/invoke/VarHandle" ∧ (parseMethodDescriptor (ev_mN M).desc).map (fun d => d.parameters.length) = some (ev_mP M)) ∧
  (ev_mK M % 10 = 0 → Cond.static (ev_mN M) ∈ Tg) ∧ (ev_mK M % 10 = 1 → Cond.instanceMethod (ev_mN M) ∈ Tg ∧ Cond.selects (ev_mN M).cls (ev_mN M) (ev_mN M) ∈ Tg) ∧ (ev_mK M % 10 = 2 → (ev_mN M).name = "<init>" ∧ Cond.instanceMethod (ev_mN M) ∈ Tg ∧ ev_mR M = none) ∧
  ∀ (pc : Nat) (E : ev_E), ev_at M pc = some E → decode (ev_mB M) pc = .ok (E.1, E.2.1) ∧ ev_lok Tg Tn AO G TY PG (ev_mN M).cls (ev_mK M) E
section EVC
variable {p : Program} {l : Launch} {e : Env} {R : Room} {s : State} {m : MethodId} {args : Array Value} {below : List Frame} {meth : Method} {c : Code} {H : Heap} {locs : List Loc} {cells slots : Nat} {Q : State → Prop}
variable {pc : Nat} {ls : Array Slot} {B b L : Nat} {xs : Nat → Int32} {D : va_G} {tys : List (ClassId × FieldType)} {Tg Tn : List Cond} {AO : List String} {G : ev_G} {TY : Nat → Nat → FieldType} {PG : List ev_M} {M : ev_M}
theorem ev_call {Qa : State → Outcome → State → Prop} {free : Addr → Prop} {mc ms : Nat} {rest st0 : List Value} (hr : va_Run p l e R s m args below meth c H locs cells slots mc ms (F0 m pc ls st0) rest Qa free)
    (kk : ∀ (v : Option Value) (st₀ t : State) (Lc : List Loc), st₀.heap = H → Qa st₀ (.returned v) t → (∀ q ∈ Lc, free q.base) → W p l e R s m args below meth c t.heap (locs ++ Lc) (cells + mc) (slots + ms) Q (F0 m (pc + 3) ls (v.toList ++ rest))) : W p l e R s m args below meth c H locs cells slots Q (F0 m pc ls st0) := by
  intro T hT X
  obtain ⟨v, st₀, t, T', Lc, h0, X', hL, e1, e2, hq, st⟩ := hr T hT X
  obtain ⟨t2, a1, b1⟩ := kk v st₀ t Lc h0 hq hL T' e1 X'
  exact ⟨t2, st t2 a1, b1⟩
theorem ev_retrow {E : ev_E} {st : List ev_A} {a : Option ev_A} {cst : List Value} {Qc : Array Value → State → Outcome → State → Prop} {free : Addr → Prop} (X : ev_Cx D tys Tg Tn AO G M p s m args meth c) (hd : decode (ev_mB M) pc = .ok (E.1, 1)) (hr : ev_rok E M st = some a) (h1 : ev_g1 B b cst st)
    (hq : ∀ v : Option Value, ev_vr B b v a → ∀ t : State, t.heap = H → s.WarmedH t.vm → Qc args s (.returned v) t) (hf : ∀ q ∈ locs, free q.base) : W p l e R s m args below meth c H locs cells slots (MQ below Qc args s cells slots free) (F0 m pc ls cst) := by
  obtain ⟨ins, len, u, v, z⟩ := E
  obtain ⟨hx, hb, hml, hown, hts, hret, hlocks, hin0, hK, hNw, hAO⟩ := X
  dsimp only at hd
  cases ins
  case return_ =>
    simp only [ev_rok] at hr
    split at hr
    · rename_i hM
      cases hr
      have := ev_nil h1
      subst this
      exact W.vret hx hb (hret.trans hM) (hq none trivial) hf hd hlocks
    · cases hr
  case ireturn =>
    simp only [ev_rok] at hr
    split at hr
    · split at hr
      · rename_i a' ty hM hz
        cases hr
        simp only [Bool.and_eq_true, decide_eq_true_eq] at hz
        obtain ⟨w, ws, rfl, e1, g1⟩ := ev_cons h1
        have := ev_nil g1
        subst this
        obtain ⟨hn, -⟩ := ev_fit_ok e1 hz.2
        obtain ⟨x, rfl, -⟩ := ev_isI e1 hz.1.1
        exact W.zret hx hb (hret.trans hM) hn (hq (some _) e1) hf hd hlocks
      · cases hr
    · cases hr
  case lreturn =>
    simp only [ev_rok] at hr
    split at hr
    · split at hr
      · rename_i a' ty hM hz
        cases hr
        simp only [Bool.and_eq_true] at hz
        obtain ⟨w, ws, rfl, e1, g1⟩ := ev_cons h1
        have := ev_nil g1
        subst this
        obtain ⟨x, rfl, -⟩ := ev_isL e1 hz.2
        have := ev_tyJ_ok hz.1
        subst this
        exact W.lret hx hb (hret.trans hM) (hq (some _) e1) hf hd hlocks
      · cases hr
    · cases hr
  case areturn =>
    simp only [ev_rok] at hr
    split at hr
    · split at hr
      · rename_i a' ty hM hz
        cases hr
        rw [Bool.and_eq_true] at hz
        obtain ⟨w, ws, rfl, e1, g1⟩ := ev_cons h1
        have := ev_nil g1
        subst this
        have hty : (∃ n, ty = .object n) ∨ ∃ t, ty = .array t := by
          have h3 := hz.1
          cases ty <;> first | exact Or.inl ⟨_, rfl⟩ | exact Or.inr ⟨_, rfl⟩ | exact absurd h3 (by simp [ev_fs])
        exact W.aret hx hb (hret.trans hM) hty (ev_isA e1 (by simpa using hz.2)) (hq (some _) e1) hf hd hlocks
      · cases hr
    · cases hr
  all_goals (exact absurd hr (by simp [ev_rok]))
theorem ev_goodW (h2 : ∀ w ∈ Tg, (w.onTables && w.keeps) = true ∨ ∃ ty, w = .arrayClass ty) {ws : List Cond} (h : ∀ w ∈ ws, w ∈ Tg) : GoodIn Tg ws := fun w hw => ⟨h w hw, h2 w (h w hw)⟩
theorem ev_ws_in {M' : ev_M} (hk : ev_mok Tg Tn AO G TY PG M') : ∀ w ∈ ev_ws Tg M', w ∈ Tg := fun w hw => by
  rcases List.mem_cons.mp hw with rfl | h
  · exact hk.2.1
  · exact h
/-- a call, when the called method has a contract -/
theorem ev_mkrun {M' : ev_M} {sort u v idx : Nat} {z : Int} {ins : Instr} {As rest cst : List Value} {Pc : Array Value → State → Prop} {Qc : Array Value → State → Outcome → State → Prop} {free : Addr → Prop} {h : ev_Q} (Fx : ev_Fx Tg Tn G TY) (X : ev_Cx D tys Tg Tn AO G M p s m args meth c) (hk : ev_mok Tg Tn AO G TY PG M')
    (hins : (sort = 0 ∧ ins = .invokestatic idx) ∨ (sort = 1 ∧ ins = .invokevirtual idx) ∨ (sort = 2 ∧ ins = .invokespecial idx)) (hu9 : u < 900) (hsort : ev_mK M' % 10 = sort) (lk : ev_lok Tg Tn AO G TY PG (ev_mN M).cls (ev_mK M) (ins, 3, u, v, z)) (hu : PG[u]? = some M')
    (hM : Met l (ev_mN M') (ev_ws Tg M') (ev_rm M') Pc Qc (ev_mY M') (ev_mS M') free) (hfb : FrameBlind Pc) (hPc : ∀ U : State, U.heap = H → s.WarmedH U.vm → Pc As.toArray U) (hlen : As.length = if sort = 0 then ev_mP M' else ev_mP M' + 1)
    (hrecv : sort ≠ 0 → ∃ (i : Nat) (As' : List Value), As = .ref (B + i) :: As' ∧ (sort = 1 → ∃ c2 : ev_C, ev_hg h i = some c2 ∧ c2.1 = v)) (hR : ev_R D G.1 tys B b h H) (hsz : ls.size = ev_mL M) (hst : cst = As.reverse ++ rest) (hW : (rest.map fun v => v.category).sum ≤ 8) (hd : decode (ev_mB M) pc = .ok (ins, 3)) (hF : ev_mF M' + 1 ≤ R.frames) (hO : 8 + (ev_mL M' + 11) + ev_mO M' ≤ R.locals) (hc : cells + ev_mY M' ≤ R.cells) (hs : slots + ev_mS M' ≤ R.slots) :
    va_Run p l e R s m args below meth c H locs cells slots (ev_mY M') (ev_mS M') (F0 m pc ls cst) rest (Qc As.toArray) free := by
  obtain ⟨hx, hb, hml, hown, hts, hret, hlocks, hin0, hK, hNw, hAO⟩ := X
  obtain ⟨f1, f2, f3, f4, f5⟩ := Fx
  have hwsin := ev_ws_in hk
  obtain ⟨m1, m2, m3, m4, m5, m6, m7, m8⟩ := hk
  have hG : GoodIn Tg (ev_ws Tg M') := ev_goodW f2 hwsin
  have hfix : CallFix p m c (ev_mB M) (ev_mL M) s args Tg (ev_mN M).cls := ⟨hx, hb, hml, hown, hts⟩
  subst hst
  rcases hins with ⟨rfl, rfl⟩ | ⟨rfl, rfl⟩ | ⟨rfl, rfl⟩
  · obtain ⟨-, M2, k1, k2⟩ : u < 900 ∧ ∃ M2 : ev_M, PG[u]? = some M2 ∧ Cond.methodLink (ev_mN M).cls idx (ev_mN M2) ∈ Tg := by
      rcases lk with ⟨k0, -⟩ | ⟨k0, -⟩ | k0
      · dsimp only at k0; omega
      · dsimp only at k0; omega
      · exact k0
    have e1 := Option.some.inj (hu.symm.trans k1)
    subst e1
    exact va_runS hfix hM ⟨callB_of (ev_mP M') hts hG rfl rfl rfl (hts _ m3) (hts _ k2) m4 ⟨hF, hO⟩, hts _ (m5 hsort)⟩ ⟨hfb, hPc⟩ rfl (by simpa using hlen) hsz rfl (lv_room hW) hd ⟨hc, hs⟩
  · obtain ⟨M2, k1, k2, T, N, k3⟩ := lk
    have e1 := Option.some.inj (hu.symm.trans k1)
    subst e1
    obtain ⟨i, As', rfl, hc2⟩ := hrecv (by decide)
    obtain ⟨c2, hc2, hcv⟩ := hc2 rfl
    obtain ⟨V, ⟨cellV, g1, g2, g3, -⟩, -⟩ := ev_obj hR f1 k3 hc2 hcv
    have hcls := (hK.1 v _ k3).2
    refine va_runV (C := (ev_mN M').cls) (As := As') (b := B + i) hfix hM ⟨callB_of (ev_mP M') hts hG rfl rfl rfl (hts _ m3) (hts _ k2) m4 ⟨hF, hO⟩, hts _ (m6 hsort).1, hts _ (m6 hsort).2⟩ ⟨hfb, ⟨cellV, g1, by rw [g3]; rfl, by rw [g2]; exact hcls.1⟩, hPc⟩ rfl (by simpa using hlen) hsz (by simp) (lv_room hW) hd ⟨hc, hs⟩
  · obtain ⟨i, As', rfl, -⟩ := hrecv (by decide)
    obtain ⟨n1, n2, n3⟩ := m7 hsort
    rcases lk with ⟨k0, -⟩ | ⟨-, M2, k1, k2⟩
    · dsimp only at k0; omega
    · have e1 := Option.some.inj (hu.symm.trans k1)
      subst e1
      have hw : ev_ws Tg M' = Cond.code (ev_mN M') (ev_mB M') (ev_mL M') none :: Tg := by unfold ev_ws; rw [n3]
      rcases k2 with k2 | ⟨host, k2⟩
      · exact va_runI (As := As') (b := B + i) hfix hM ⟨callB_of (ev_mP M') hts hG hw rfl rfl (hts _ m3) (hts _ k2) m4 ⟨hF, hO⟩, n1, hts _ n2⟩ ⟨hfb, hPc⟩ rfl (by simpa using hlen) hsz (by simp) (lv_room hW) hd ⟨hc, hs⟩
      · exact va_runIN (As := As') (b := B + i) hfix hM ⟨va_cnB (ev_mP M') hts hG hw rfl rfl (hNw _ k2) (hts _ m3) m4 ⟨hF, hO⟩, n1, hts _ n2⟩ ⟨hfb, hPc⟩ rfl (by simpa using hlen) hsz (by simp) (lv_room hW) hd ⟨hc, hs⟩
end EVC
end
section
section EVM
variable (G : ev_G) (PG : List ev_M) (fin : Option ev_A → ev_Q → Bool) (stop : ev_S → Bool)
/-- what is left to be shown behind a return -/
def ev_P (n : Nat) (fs : List ev_F) (a : Option ev_A) (h : ev_Q) (sg : List ev_A) : Prop := match fs with
  | [] => fin a h = true
  | (M, pc, lv, st, bc, bs) :: fs' => ∃ k, k < n ∧ ev_run G PG fin stop k ((M, pc, lv, a.toList ++ st, bc, bs) :: fs', h, sg) = true
theorem ev_P_mono {n k : Nat} (hk : k ≤ n) {fs : List ev_F} {a : Option ev_A} {h : ev_Q} {sg : List ev_A} (q : ev_P G PG fin stop k fs a h sg) : ev_P G PG fin stop n fs a h sg := by
  cases fs with
  | nil => exact q
  | cons f fs =>
    obtain ⟨j, h1, h2⟩ := q
    exact ⟨j, Nat.lt_of_lt_of_le h1 hk, h2⟩
variable (l : Launch) (D : va_G) (tys : List (ClassId × FieldType)) (Tg Tn : List Cond) (AO : List String) (o : Bool) (B b L : Nat) (xs : Nat → Int32)
def ev_RH (n : Nat) (fs : List ev_F) (M : ev_M) (p : Program) (e : Env) (R : Room) (s : State) (m : MethodId) (args : Array Value) (below : List Frame) (meth : Method) (c : Code) (Q : State → Prop) (mc ms : Nat) : Prop :=
  ∀ (H : Heap) (locs : List Loc) (cells slots : Nat) (ls : Array Slot) (pc : Nat) (cst : List Value) (E : ev_E) (st : List ev_A) (a : Option ev_A) (h : ev_Q) (sg : List ev_A), ev_P G PG fin stop n fs a h sg → ev_at M pc = some E → E.2.1 = 1 → ev_rok E M st = some a → ev_g1 B b cst st → ev_R D G.1 tys B b h H → ev_Lo B s.heap H locs → ev_Sd o B b L xs s sg → cells ≤ mc → slots ≤ ms → W p l e R s m args below meth c H locs cells slots Q (F0 m pc ls cst)
theorem ev_RH_mono {n k : Nat} (hk : k ≤ n) {fs : List ev_F} {M : ev_M} {p : Program} {e : Env} {R : Room} {s : State} {m : MethodId} {args : Array Value} {below : List Frame} {meth : Method} {c : Code} {Q : State → Prop} {mc ms : Nat} (q : ev_RH G PG fin stop l D tys o B b L xs n fs M p e R s m args below meth c Q mc ms) : ev_RH G PG fin stop l D tys o B b L xs k fs M p e R s m args below meth c Q mc ms :=
  fun H locs cells slots ls pc cst E st a h sg hP => q H locs cells slots ls pc cst E st a h sg (ev_P_mono G PG fin stop hk hP)
variable (dk : ev_M → Prop)
def ev_Goal (n : Nat) (S : ev_S) : Prop := match S with
  | ([], _, _) => True
  | ((M, pc, lv, st, bc, bs) :: fs, h, sg) => dk M → (∀ f ∈ fs, dk f.1) → ∀ (p : Program) (e : Env) (R : Room) (s : State) (m : MethodId) (args : Array Value) (below : List Frame) (meth : Method) (c : Code) (Q : State → Prop) (H : Heap) (locs : List Loc) (cells slots : Nat) (ls : Array Slot) (clv : List (Nat × Value)) (cst : List Value) (mc ms : Nat),
    ev_Cx D tys Tg Tn AO G M p s m args meth c → lv_has ls (ev_mL M) clv → ev_g2 B b clv lv → ev_g1 B b cst st → ev_R D G.1 tys B b h H → ev_Lo B s.heap H locs → ev_Sd o B b L xs s sg → cells + bc ≤ mc → slots + bs ≤ ms → mc ≤ R.cells → ms ≤ R.slots → ev_mF M ≤ R.frames → ev_mO M ≤ R.locals → ev_RH G PG fin stop l D tys o B b L xs n fs M p e R s m args below meth c Q mc ms →
    W p l e R s m args below meth c H locs cells slots Q (F0 m pc ls cst)
/-- a method of which it is only known that it answers some long, and changes nothing -/
def ev_Hv (M : ev_M) : Prop := ∀ ys : List Int64, ys.length = ev_mP M → Met l (ev_mN M) (ev_ws Tg M) (ev_rm M) (fun a _ => a = (ys.map Value.long).toArray) (fun _ st oc t => (∃ x : Int64, oc = .returned (some (.long x))) ∧ t.heap = st.heap) (ev_mY M) (ev_mS M) (fun _ => False)
end EVM
theorem ev_longs {B b : Nat} : ∀ {vs : List Value} {as : List ev_A}, ev_g1 B b vs as → as.all (fun a => a.1 == 1) = true → ∃ ys : List Int64, vs = ys.map Value.long
  | [], [], _, _ => ⟨[], rfl⟩
  | [], _ :: _, h, _ => h.elim
  | _ :: _, [], h, _ => h.elim
  | v :: vs, a :: as, h, q => by
    rw [List.all_cons, Bool.and_eq_true] at q
    obtain ⟨ys, e⟩ := ev_longs h.2 q.2
    obtain ⟨x, e2, -⟩ := ev_isL h.1 q.1
    exact ⟨x :: ys, by rw [e2, e]; rfl⟩
theorem ev_Kw_warm {D : va_G} {cl : List vw_C} {tys : List (ClassId × FieldType)} {Tn : List Cond} {AO : List String} {s U : State} (f3 : ∀ w ∈ Tn, (∃ a i x n d hh, w = Cond.fieldLinkNest a i x n d hh) ∨ ∃ a i x hh, w = Cond.methodLinkNest a i x hh) (hW : s.WarmedH U.vm) (h : ev_Kw D cl tys Tn AO s) : ev_Kw D cl tys Tn AO U := by
  refine ⟨va_K.moved hW.alike h.1, fun w hw => ?_, fun n hn => va_AO.moved hW.alike (h.2.2 n hn)⟩
  have h2 := h.2.1 w hw
  rcases f3 w hw with ⟨a, i, x, n, d, hh, rfl⟩ | ⟨a, i, x, hh, rfl⟩
  · exact va_Nw.warmF hW h2
  · exact va_Nw.warmM hW h2
theorem ev_Kw_vm {D : va_G} {cl : List vw_C} {tys : List (ClassId × FieldType)} {Tn : List Cond} {AO : List String} {s U : State} (f3 : ∀ w ∈ Tn, (∃ a i x n d hh, w = Cond.fieldLinkNest a i x n d hh) ∨ ∃ a i x hh, w = Cond.methodLinkNest a i x hh) (hW : s.vm = U.vm) (h : ev_Kw D cl tys Tn AO s) : ev_Kw D cl tys Tn AO U := by
  have hal : s.vm.Alike U.vm := by rw [hW]; exact Vm.Alike.refl _
  refine ⟨va_K.moved hal h.1, fun w hw => ?_, fun n hn => va_AO.moved hal (h.2.2 n hn)⟩
  have h2 := h.2.1 w hw
  rcases f3 w hw with ⟨a, i, x, n, d, hh, rfl⟩ | ⟨a, i, x, hh, rfl⟩
  · exact va_Nw.same rfl hW h2
  · exact va_Nw.same rfl hW h2
end
section
theorem ev_cl_inv {PG : List ev_M} {sort : Nat} {E : ev_E} {M : ev_M} {pc : Nat} {lv : List (Nat × ev_A)} {st : List ev_A} {bc bs : Nat} {fs : List ev_F} {h : ev_Q} {sg : List ev_A} {Lc : List ev_S} (hcl : ev_cl PG sort E M pc lv st bc bs fs h sg = some Lc) :
    ∃ (M' : ev_M) (nn : Nat), PG[E.2.2.1]? = some M' ∧ nn = (if sort == 0 then ev_mP M' else ev_mP M' + 1) ∧ ev_cok sort E M M' h (st.take nn).reverse (st.drop nn) bc bs = true ∧
      ((ev_mK M' < 10 ∧ Lc = [((M', 0, ev_args 0 (st.take nn).reverse, [], ev_mY M', ev_mS M') :: (M, pc + 3, lv, st.drop nn, bc - ev_mY M', bs - ev_mS M') :: fs, h, sg)]) ∨
       (10 ≤ ev_mK M' ∧ (st.take nn).all (fun a => a.1 == 1) = true ∧ Lc = [((M, pc + 3, lv, ev_tL :: st.drop nn, bc - ev_mY M', bs - ev_mS M') :: fs, h, sg)])) := by
  unfold ev_cl at hcl
  split at hcl
  · rename_i M' hM'
    rw [ev_nth_eq] at hM'
    generalize hnn : (if sort == 0 then ev_mP M' else ev_mP M' + 1) = nn at hcl
    refine ⟨M', nn, hM', hnn.symm, ?_⟩
    split at hcl
    · rename_i hok
      refine ⟨hok, ?_⟩
      split at hcl
      · rename_i hk
        cases hcl
        exact Or.inl ⟨hk, rfl⟩
      · rename_i hk
        split at hcl
        · rename_i ha
          cases hcl
          exact Or.inr ⟨by omega, ha, rfl⟩
        · cases hcl
    · cases hcl
  · cases hcl
section EVN
variable {p : Program} {l : Launch} {e : Env} {R : Room} {s : State} {m : MethodId} {args : Array Value} {below : List Frame} {meth : Method} {c : Code} {H : Heap} {locs : List Loc} {cells slots : Nat} {Q : State → Prop}
variable {pc : Nat} {o : Bool} {ls : Array Slot} {B b L : Nat} {xs : Nat → Int32} {D : va_G} {tys : List (ClassId × FieldType)} {Tg Tn : List Cond} {AO : List String} {G : ev_G} {TY : Nat → Nat → FieldType} {PG : List ev_M} {M : ev_M} {dk : ev_M → Prop} {fin : Option ev_A → ev_Q → Bool} {stop : ev_S → Bool}
variable {lv : List (Nat × ev_A)} {h : ev_Q} {sg st : List ev_A} {bc bs mc ms k : Nat} {cst : List Value} {clv : List (Nat × Value)} {fs : List ev_F}
theorem ev_call_ok {sort idx : Nat} {E : ev_E} {Lc : List ev_S} (Fx : ev_Fx Tg Tn G TY) (hM : ∀ M ∈ PG, ev_mok Tg Tn AO G TY PG M) (hdk : ∀ M ∈ PG, dk M) (hPl : PG.length ≤ 900) (hv : ∀ M ∈ PG, 10 ≤ ev_mK M → ev_Hv l Tg M) (ih : ∀ j, j ≤ k → ∀ S, ev_run G PG fin stop j S = true → ev_Goal G PG fin stop l D tys Tg Tn AO o B b L xs dk j S)
    (hins : (sort = 0 ∧ E.1 = .invokestatic idx) ∨ (sort = 1 ∧ E.1 = .invokevirtual idx) ∨ (sort = 2 ∧ E.1 = .invokespecial idx)) (hcl : ev_cl PG sort E M pc lv st bc bs fs h sg = some Lc) (hall : ∀ S ∈ Lc, ev_run G PG fin stop k S = true) (hMem : dk M) (hfs : ∀ f ∈ fs, dk f.1) (X : ev_Cx D tys Tg Tn AO G M p s m args meth c) (lk : ev_lok Tg Tn AO G TY PG (ev_mN M).cls (ev_mK M) E) (hd : decode (ev_mB M) pc = .ok (E.1, E.2.1))
    (hl : lv_has ls (ev_mL M) clv) (h2 : ev_g2 B b clv lv) (h1 : ev_g1 B b cst st) (hR : ev_R D G.1 tys B b h H) (hL : ev_Lo B s.heap H locs) (hS : ev_Sd o B b L xs s sg) (hc : cells + bc ≤ mc) (hs : slots + bs ≤ ms) (hmc : mc ≤ R.cells) (hms : ms ≤ R.slots) (hF : ev_mF M ≤ R.frames) (hO : ev_mO M ≤ R.locals) (hRH : ev_RH G PG fin stop l D tys o B b L xs (k + 1) fs M p e R s m args below meth c Q mc ms) : W p l e R s m args below meth c H locs cells slots Q (F0 m pc ls cst) := by
  obtain ⟨M', nn, hu, hnn, hok, hcase⟩ := ev_cl_inv hcl
  have hM'm : M' ∈ PG := List.mem_of_getElem? hu
  have hk := hM M' hM'm
  obtain ⟨ins, len, u, v, z⟩ := E
  have hu9 : u < 900 := by
    have : u < PG.length := (List.getElem?_eq_some_iff.mp hu).1
    omega
  unfold ev_cok at hok
  simp only [Bool.and_eq_true, decide_eq_true_eq, beq_iff_eq] at hok
  obtain ⟨⟨⟨⟨⟨⟨⟨⟨⟨o1, o2⟩, o3⟩, o4⟩, o5⟩, o6⟩, o7⟩, o8⟩, o9⟩, o10⟩ := hok
  subst o1
  obtain ⟨gT, gD⟩ := ev_g1_take nn h1
  have gA := ev_g1_rev gT
  have hst : cst = (cst.take nn).reverse.reverse ++ cst.drop nn := by rw [List.reverse_reverse, List.take_append_drop]
  have hlen : (cst.take nn).reverse.length = if sort = 0 then ev_mP M' else ev_mP M' + 1 := by
    rw [ev_g1_len gA, o3]
  have hW8 : ((cst.drop nn).map fun v => v.category).sum ≤ 8 := by rw [ev_szc gD]; exact o6
  have hrecv : sort ≠ 0 → ∃ (i : Nat) (As' : List Value), (cst.take nn).reverse = .ref (B + i) :: As' ∧ (sort = 1 → ∃ c2 : ev_C, ev_hg h i = some c2 ∧ c2.1 = v) := by
    intro h0
    generalize (cst.take nn).reverse = As at gA
    generalize (st.take nn).reverse = as at gA o4
    rcases hins with ⟨rfl, -⟩ | ⟨rfl, -⟩ | ⟨rfl, -⟩
    · exact absurd rfl h0
    · simp only [ev_recv] at o4
      split at o4
      · rename_i t z1 z2 as'
        rw [Bool.and_eq_true] at o4
        obtain ⟨w, ws, rfl, e1, -⟩ := ev_cons gA
        have := ev_ref2 e1 o4.1
        subst this
        refine ⟨_, _, rfl, fun _ => ?_⟩
        have o4b := o4.2
        split at o4b
        · rename_i c2 hc2
          exact ⟨c2, hc2, by simpa using o4b⟩
        · cases o4b
      · cases o4
    · simp only [ev_isR] at o4
      split at o4
      · rename_i t z1 z2 as'
        obtain ⟨w, ws, rfl, e1, -⟩ := ev_cons gA
        have := ev_ref2 e1 o4
        subst this
        exact ⟨_, _, rfl, fun q => absurd q (by decide)⟩
      · cases o4
  rcases hcase with ⟨hK10, rfl⟩ | ⟨hK10, hlong, rfl⟩
  · have hrun := hall _ (List.mem_singleton.mpr rfl)
    have hMet : Met l (ev_mN M') (ev_ws Tg M') (ev_rm M') (fun a U => a = ((cst.take nn).reverse).toArray ∧ ev_R D G.1 tys B b h U.heap ∧ ev_Kw D G.1 tys Tn AO U ∧ ev_Sd o B b L xs U sg) (fun _ st0 oc t => ∃ (a : Option ev_A) (v : Option Value) (h' : ev_Q) (sg' : List ev_A), oc = .returned v ∧ ev_vr B b v a ∧ ev_R D G.1 tys B b h' t.heap ∧ (∀ q : Nat, q < B → t.heap[q]? = st0.heap[q]?) ∧ ev_Sc sg' L xs ∧ (sg' ≠ [] → o = true) ∧ ev_P G PG fin stop k ((M, pc + 3, lv, st.drop nn, bc - ev_mY M', bs - ev_mS M') :: fs) a h' sg') (ev_mY M') (ev_mS M') (fun q => B ≤ q) := by
      refine Met.ofW (cc := ev_mB M') (maxL := ev_mL M') (ret := ev_mR M') hk.1 rfl ?_
      intro p' e' s' m' args' below' meth' c' s₁' Bd hml' hv'
      obtain ⟨rfl, hR', hKw', hS'⟩ := hv'
      have hts' := atoms_spec (ws := ev_ws Tg M') Bd.pre
      rw [lg_entry_eq]
      have hl' := lv_entry ((cst.take nn).reverse) (n := ev_mL M') (by rw [ev_lgsl, ev_szc gA]; exact o5)
      have hcx : ev_Cx D tys Tg Tn AO G M' p' s' m' _ meth' c' := ⟨Bd.exec, Bd.bytes, hml', findClass_of_methodNamed Bd.named, fun w hw => hts' w (List.mem_cons_of_mem _ hw), Bd.returns, Bd.notSynchronized, fun q => (name_of_methodNamed Bd.named Bd.method).1.trans (hk.2.2.2.2.2.2.1 (by rw [q])).1, hKw'⟩
      refine ih k (Nat.le_refl _) _ hrun (hdk _ hM'm) (fun f hf => ?_) p' e' _ s' m' _ below' meth' c' _ s'.heap [] 0 0 _ _ [] (ev_mY M') (ev_mS M') hcx hl' (ev_args_ok gA) trivial hR' ⟨fun _ _ => rfl, fun _ q => by cases q⟩ hS' (by omega) (by omega) (Nat.le_refl _) (Nat.le_refl _) (Nat.le_refl _) (Nat.le_refl _) ?_
      · rcases List.mem_cons.mp hf with rfl | q
        · exact hMem
        · exact hfs f q
      · intro H1 locs1 cells1 slots1 ls1 pc1 cst1 E1 st1 a1 h1' sg1 hP hat hlen1 hrok g1' hR1 hLo1 hSd1 hc1 hs1
        refine W.widen hc1 hs1 ?_
        have hd1 := (hk.2.2.2.2.2.2.2 pc1 E1 hat).1
        rw [hlen1] at hd1
        refine ev_retrow hcx hd1 hrok g1' (fun v0 hv0 t0 ht0 _ => ⟨a1, v0, h1', sg1, rfl, hv0, by rw [ht0]; exact hR1, fun q hq => by rw [ht0]; exact hLo1.1 q hq, hSd1.1, hSd1.2.1, hP⟩) hLo1.2
    refine ev_call (ev_mkrun (h := h) Fx X hk hins hu9 o2 lk hu hMet ?_ ?_ hlen hrecv hR hl.1 hst hW8 hd (by omega) (by omega) (by omega) (by omega)) ?_
    · intro a U g mk q
      obtain ⟨q1, q2, q3, q4, q5, q6⟩ := q
      exact ⟨q1, q2, ev_Kw_vm (s := U) (U := U.calling g mk a) Fx.2.2.1 rfl q3, q4, q5, fun ho => ⟨(q6 ho).1, va_X.moved (u := U) (U := U.calling g mk a) (Vm.Alike.refl U.vm) (q6 ho).2⟩⟩
    · intro U hU hW
      refine ⟨rfl, by rw [hU]; exact hR, ev_Kw_warm Fx.2.2.1 hW X.2.2.2.2.2.2.2.2, hS.1, hS.2.1, fun ho => ?_⟩
      obtain ⟨q1, q2⟩ := hS.2.2 ho
      exact ⟨q1, va_X.moved hW.alike (q2.kept (by rw [hU]; exact hL.1 b q1))⟩
    · intro v0 st₀ t Lx h0 hq hLx
      obtain ⟨a, v', h', sg', e1, hvr, hR', hlo, hsc, hsn, j, hj, hrunj⟩ := hq
      cases e1
      exact ih j (by omega) _ hrunj hMem hfs p e R s m args below meth c Q t.heap _ _ _ ls clv _ mc ms X hl h2 (ev_vr_st hvr gD) hR' ⟨fun q hq => by rw [hlo q hq, h0]; exact hL.1 q hq, fun q hq => (List.mem_append.mp hq).elim (hL.2 q) (hLx q)⟩ ⟨hsc, hsn, hS.2.2⟩ (by omega) (by omega) hmc hms hF hO (ev_RH_mono G PG fin stop l D tys o B b L xs (by omega) hRH)
  · have hrun := hall _ (List.mem_singleton.mpr rfl)
    obtain ⟨ys, hys⟩ := ev_longs gT hlong
    have hAs : (cst.take nn).reverse = (ys.reverse).map Value.long := by rw [hys, List.map_reverse]
    have hylen : (ys.reverse).length = ev_mP M' := by
      have e1 := hlen
      rw [hAs, List.length_map] at e1
      rcases hins with ⟨rfl, -⟩ | ⟨rfl, -⟩ | ⟨rfl, -⟩
      · simpa using e1
      · obtain ⟨i, As', e2, -⟩ := hrecv (by decide)
        rw [hAs] at e2
        cases hy : ys.reverse with
        | nil => rw [hy] at e2; cases e2
        | cons y0 y1 => rw [hy] at e2; cases e2
      · obtain ⟨i, As', e2, -⟩ := hrecv (by decide)
        rw [hAs] at e2
        cases hy : ys.reverse with
        | nil => rw [hy] at e2; cases e2
        | cons y0 y1 => rw [hy] at e2; cases e2
    have hMet := hv M' hM'm hK10 ys.reverse hylen
    refine ev_call (ev_mkrun (h := h) Fx X hk hins hu9 o2 lk hu hMet ?_ ?_ hlen hrecv hR hl.1 hst hW8 hd (by omega) (by omega) (by omega) (by omega)) ?_
    · intro a U g mk q
      exact q
    · intro U hU hW
      show _ = _
      rw [hAs]
    · intro v0 st₀ t Lx h0 hq hLx
      obtain ⟨⟨x, e1⟩, e2⟩ := hq
      cases e1
      have e3 : t.heap = H := e2.trans h0
      rw [e3]
      exact ih k (Nat.le_refl _) _ hrun hMem hfs p e R s m args below meth c Q H _ _ _ ls clv _ mc ms X hl h2 ⟨ev_tL_ok x, gD⟩ hR ⟨hL.1, fun q hq => (List.mem_append.mp hq).elim (hL.2 q) (fun q' => (hLx q q').elim)⟩ hS (by omega) (by omega) hmc hms hF hO (ev_RH_mono G PG fin stop l D tys o B b L xs (by omega) hRH)
end EVN
end
section
section EVK
variable {l : Launch} {o : Bool} {B b L : Nat} {xs : Nat → Int32} {D : va_G} {tys : List (ClassId × FieldType)} {Tg Tn : List Cond} {AO : List String} {G : ev_G} {TY : Nat → Nat → FieldType} {PG : List ev_M} {dk : ev_M → Prop} {fin : Option ev_A → ev_Q → Bool} {stop : ev_S → Bool}
/-- the abstract machine says nothing wrong: a run that is found good is one that the machine makes -/
theorem ev_sound (Fx : ev_Fx Tg Tn G TY) (hM : ∀ M ∈ PG, ev_mok Tg Tn AO G TY PG M) (hdk : ∀ M ∈ PG, dk M) (hdd : ∀ M, dk M → ∀ (pc : Nat) (E : ev_E), ev_at M pc = some E → decode (ev_mB M) pc = .ok (E.1, E.2.1) ∧ ev_lok Tg Tn AO G TY PG (ev_mN M).cls (ev_mK M) E) (hPl : PG.length ≤ 900) (ht : tys.map Prod.snd = G.2.1) (hv : ∀ M ∈ PG, 10 ≤ ev_mK M → ev_Hv l Tg M) (hstop : ∀ (n : Nat) (S : ev_S), stop S = true → ev_Goal G PG fin stop l D tys Tg Tn AO o B b L xs dk n S) :
    ∀ (n : Nat) (S : ev_S), ev_run G PG fin stop n S = true → ev_Goal G PG fin stop l D tys Tg Tn AO o B b L xs dk n S := by
  intro n
  induction n using Nat.strongRecOn with
  | ind n ih =>
    intro S hS
    cases n with
    | zero => cases hS
    | succ k =>
      have ih' : ∀ j, j ≤ k → ∀ S, ev_run G PG fin stop j S = true → ev_Goal G PG fin stop l D tys Tg Tn AO o B b L xs dk j S := fun j hj => ih j (by omega)
      unfold ev_run at hS
      split at hS
      · rename_i hst
        exact hstop _ _ hst
      · split at hS
        · cases hS
        · rename_i Ls hnext
          have hall : ∀ S ∈ Ls, ev_run G PG fin stop k S = true := fun S' h' => List.all_eq_true.mp hS S' h'
          obtain ⟨frs, h, sg⟩ := S
          cases frs with
          | nil => trivial
          | cons f fs =>
            obtain ⟨M, pc, lv, st, bc, bs⟩ := f
            intro hMem hfs p e R s m args below meth c Q H locs cells slots ls clv cst mc ms X hl h2 h1 hR hL hSd hc hs hmc hms hF hO hRH
            have hRH' := ev_RH_mono G PG fin stop l D tys o B b L xs (Nat.le_succ k) hRH
            unfold ev_next at hnext
            dsimp only at hnext
            split at hnext
            · cases hnext
            · rename_i E hat
              obtain ⟨hd, lk⟩ := hdd M hMem pc E hat
              split at hnext
              · split at hnext
                · rename_i len lv' st' hpu hlen
                  cases hnext
                  rw [beq_iff_eq] at hlen
                  subst hlen
                  exact ev_pure_ok X.1 X.2.1 hd hpu hl h2 h1 (fun ls' clv' cst' a1 a2 a3 => ih' k (Nat.le_refl _) _ (hall _ (List.mem_singleton.mpr rfl)) hMem hfs p e R s m args below meth c Q H locs cells slots ls' clv' cst' mc ms X a1 a2 a3 hR hL hSd hc hs hmc hms hF hO hRH')
                · cases hnext
              · split at hnext
                · rename_i Lb hbr
                  cases hnext
                  exact ev_br_ok X.1 X.2.1 hd hbr h1 (fun q hq cst' a3 => ih' k (Nat.le_refl _) _ (hall _ (List.mem_map.mpr ⟨q, hq, rfl⟩)) hMem hfs p e R s m args below meth c Q H locs cells slots ls clv cst' mc ms X hl h2 a3 hR hL hSd hc hs hmc hms hF hO hRH')
                · split at hnext
                  · rename_i Lq hhp
                    cases hnext
                    exact ev_hp_ok Fx X lk hd hhp ht hR hL hSd h1 hl.1 (by omega) (by omega) hF hO (fun q hq H1 locs1 cst1 cells1 slots1 a1 a2 a3 a4 a5 a6 => ih' k (Nat.le_refl _) _ (hall _ (List.mem_map.mpr ⟨q, hq, rfl⟩)) hMem hfs p e R s m args below meth c Q H1 locs1 cells1 slots1 ls clv cst1 mc ms X hl h2 a4 a1 a2 a3 (by omega) (by omega) hmc hms hF hO hRH')
                  · split at hnext
                    · rename_i a hrok
                      split at hnext
                      · rename_i hlen
                        rw [beq_iff_eq] at hlen
                        refine hRH H locs cells slots ls pc cst E st a h sg ?_ hat hlen hrok h1 hR hL hSd (by omega) (by omega)
                        unfold ev_back at hnext
                        cases fs with
                        | nil =>
                          dsimp only at hnext
                          split at hnext
                          · rename_i hf
                            exact hf
                          · cases hnext
                        | cons f2 fs2 =>
                          obtain ⟨M2, pc2, lv2, st2, bc2, bs2⟩ := f2
                          dsimp only at hnext
                          cases hnext
                          exact ⟨k, Nat.lt_succ_self k, hall _ (List.mem_singleton.mpr rfl)⟩
                      · cases hnext
                    · split at hnext
                      · rename_i idx hi
                        exact ev_call_ok Fx hM hdk hPl hv ih' (Or.inr (Or.inl ⟨rfl, hi⟩)) hnext hall hMem hfs X lk hd hl h2 h1 hR hL hSd hc hs hmc hms hF hO hRH
                      · rename_i idx hi
                        exact ev_call_ok Fx hM hdk hPl hv ih' (Or.inl ⟨rfl, hi⟩) hnext hall hMem hfs X lk hd hl h2 h1 hR hL hSd hc hs hmc hms hF hO hRH
                      · rename_i idx hi
                        exact ev_call_ok Fx hM hdk hPl hv ih' (Or.inr (Or.inr ⟨rfl, hi⟩)) hnext hall hMem hfs X lk hd hl h2 h1 hR hL hSd hc hs hmc hms hF hO hRH
                      · cases hnext
end EVK
end
section
/-! the tables' words, checked by program -/
def ev_isN (w : Cond) : Bool := match w with
  | .fieldLinkNest _ _ _ _ _ _ => true
  | .methodLinkNest _ _ _ _ => true
  | _ => false
/-- words with a key and their place in the tables -/
abbrev ev_N : Type := List (Nat × Nat × Cond)
/-- the tables come in pieces: a place is its piece's number, times 1000, and the place there -/
def ev_nok (TT : List (List Cond)) (nd : ev_N) : Bool := nd.all (fun q => match ev_nth TT (q.2.1 / 1000) with
  | some l => decide (ev_nth l (q.2.1 % 1000) = some q.2.2)
  | none => false)
def ev_fd : ev_N → Nat → Option Cond
  | [], _ => none
  | q :: r, k => if q.1 == k then some q.2.2 else ev_fd r k
def ev_has (nd : ev_N) (k : Nat) (w : Cond) : Bool := (match ev_fd nd k with
  | some w' => decide (w' = w)
  | none => false) && goodWord w
theorem ev_fd_ok : ∀ {nd : ev_N} {k : Nat} {w : Cond}, ev_fd nd k = some w → ∃ q ∈ nd, q.2.2 = w
  | [], _, _, h => by simp [ev_fd] at h
  | q :: r, k, w, h => by
    unfold ev_fd at h
    split at h
    · cases h
      exact ⟨q, List.mem_cons_self, rfl⟩
    · obtain ⟨q', h1, h2⟩ := ev_fd_ok h
      exact ⟨q', List.mem_cons_of_mem _ h1, h2⟩
def ev_hasF (nd : ev_N) (own : String) (idx : Nat) (C n d : String) : Bool := match ev_fd nd idx with
  | some (.fieldLinkNest a i x n' d' _) => decide (a = own) && decide (i = idx) && decide (x = C) && decide (n' = n) && decide (d' = d)
  | _ => false
def ev_hasM (nd : ev_N) (own : String) (idx : Nat) (y : MethodName) : Bool := match ev_fd nd idx with
  | some (.methodLinkNest a i x _) => decide (a = own) && decide (i = idx) && decide (x = y)
  | _ => false
theorem ev_nok_in {TT : List (List Cond)} {nd : ev_N} (h : ev_nok TT nd = true) {q : Nat × Nat × Cond} (hq : q ∈ nd) : q.2.2 ∈ TT.flatten := by
  have h1 := List.all_eq_true.mp h q hq
  split at h1
  · rename_i l hl
    rw [decide_eq_true_eq, ev_nth_eq] at h1
    rw [ev_nth_eq] at hl
    exact List.mem_flatten.mpr ⟨l, List.mem_of_getElem? hl, List.mem_of_getElem? h1⟩
  · cases h1
theorem ev_has_ok {TT : List (List Cond)} {nd : ev_N} (h : ev_nok TT nd = true) {k : Nat} {w : Cond} (hw : ev_has nd k w = true) : w ∈ TT.flatten.filter goodWord := by
  unfold ev_has at hw
  rw [Bool.and_eq_true] at hw
  obtain ⟨h1, h3⟩ := hw
  split at h1
  · rename_i w' hw'
    rw [decide_eq_true_eq] at h1
    subst h1
    obtain ⟨q, m1, m2⟩ := ev_fd_ok hw'
    rw [← m2]
    exact List.mem_filter.mpr ⟨ev_nok_in h m1, by rw [m2]; exact h3⟩
  · cases h1
theorem ev_hasF_ok {Tn : List Cond} {nd : ev_N} (h : ∀ q ∈ nd, ev_isN q.2.2 = true → q.2.2 ∈ Tn) {own C n d : String} {idx : Nat} (hw : ev_hasF nd own idx C n d = true) : ∃ host, Cond.fieldLinkNest own idx C n d host ∈ Tn := by
  unfold ev_hasF at hw
  split at hw
  · rename_i a j x n' d' host hf
    simp only [Bool.and_eq_true, decide_eq_true_eq] at hw
    obtain ⟨⟨⟨⟨rfl, rfl⟩, rfl⟩, rfl⟩, rfl⟩ := hw
    obtain ⟨q, m1, m2⟩ := ev_fd_ok hf
    have h3 := h q m1 (by rw [m2]; rfl)
    rw [m2] at h3
    exact ⟨host, h3⟩
  · cases hw
theorem ev_hasM_ok {Tn : List Cond} {nd : ev_N} (h : ∀ q ∈ nd, ev_isN q.2.2 = true → q.2.2 ∈ Tn) {own : String} {idx : Nat} {y : MethodName} (hw : ev_hasM nd own idx y = true) : ∃ host, Cond.methodLinkNest own idx y host ∈ Tn := by
  unfold ev_hasM at hw
  split at hw
  · rename_i a j x host hf
    simp only [Bool.and_eq_true, decide_eq_true_eq] at hw
    obtain ⟨⟨rfl, rfl⟩, rfl⟩ := hw
    obtain ⟨q, m1, m2⟩ := ev_fd_ok hf
    have h3 := h q m1 (by rw [m2]; rfl)
    rw [m2] at h3
    exact ⟨host, h3⟩
  · cases hw
/-- a method of the tables under its number -/
def ev_lm (PG : List ev_M) (u : Nat) (f : ev_M → Bool) : Bool := match ev_nth PG u with
  | some M' => f M'
  | none => false
def ev_lc (G : ev_G) (u : Nat) (f : vw_C → Bool) : Bool := match ev_nth G.1 u with
  | some r => f r
  | none => false
def ev_la (G : ev_G) (u : Nat) (f : String → Bool) : Bool := match ev_nth G.2.1 u with
  | some (.object n) => f n
  | _ => false
theorem ev_lm_ok {PG : List ev_M} {u : Nat} {f : ev_M → Bool} (h : ev_lm PG u f = true) : ∃ M', PG[u]? = some M' ∧ f M' = true := by
  unfold ev_lm at h
  split at h
  · rename_i M' hM
    rw [ev_nth_eq] at hM
    exact ⟨M', hM, h⟩
  · cases h
theorem ev_lc_ok {G : ev_G} {u : Nat} {f : vw_C → Bool} (h : ev_lc G u f = true) : ∃ C T N, G.1[u]? = some (C, T, N) ∧ f (C, T, N) = true := by
  unfold ev_lc at h
  split at h
  · rename_i r hr
    rw [ev_nth_eq] at hr
    obtain ⟨C, T, N⟩ := r
    exact ⟨C, T, N, hr, h⟩
  · cases h
theorem ev_la_ok {G : ev_G} {u : Nat} {f : String → Bool} (h : ev_la G u f = true) : ∃ n, G.2.1[u]? = some (.object n) ∧ f n = true := by
  unfold ev_la at h
  split at h
  · rename_i n hn
    rw [ev_nth_eq] at hn
    exact ⟨n, hn, h⟩
  · cases h
def ev_lchk (AO : List String) (G : ev_G) (TY : Nat → Nat → FieldType) (PG : List ev_M) (nd : ev_N) (own : String) (kd : Nat) (E : ev_E) : Bool := match E.1 with
  | .getfield idx => ev_lc G E.2.2.1 fun r => decide (E.2.2.2.1 < r.2.2) && decide ((r.2.1 E.2.2.2.1).1 = r.1) && (ev_has nd idx (.fieldLink own idx r.1 (r.2.1 E.2.2.2.1).2.1 (r.2.1 E.2.2.2.1).2.2.1) || ev_hasF nd own idx r.1 (r.2.1 E.2.2.2.1).2.1 (r.2.1 E.2.2.2.1).2.2.1)
  | .putfield idx => ev_lc G E.2.2.1 fun r => decide (E.2.2.2.1 < r.2.2) && decide ((r.2.1 E.2.2.2.1).1 = r.1) && (ev_has nd idx (.fieldLink own idx r.1 (r.2.1 E.2.2.2.1).2.1 (r.2.1 E.2.2.2.1).2.2.1) || (ev_hasF nd own idx r.1 (r.2.1 E.2.2.2.1).2.1 (r.2.1 E.2.2.2.1).2.2.1 && decide ((r.2.1 E.2.2.2.1).2.2.2 = false))) && (decide ((r.2.1 E.2.2.2.1).2.2.2 = false) || (decide (r.1 = own) && decide (kd = 2))) && decide (ev_fs (TY E.2.2.1 E.2.2.2.1) = E.2.2.2.2.toNat)
  | .new idx => ev_lc G E.2.2.1 fun r => ev_has nd idx (.classLink own idx r.1) && ev_has nd (20000 + E.2.2.1) (.instantiable r.1 r.2.2) && ev_has nd (30000 + E.2.2.1) (.initialized r.1)
  | .newarray a => decide (ev_nth G.2.1 E.2.2.1 = some (newarray.typeOf a)) && decide (ev_fs (newarray.typeOf a) < 3) && ev_has nd (40000 + E.2.2.1) (.arrayClass (newarray.typeOf a))
  | .anewarray idx => ev_la G E.2.2.1 fun n => ev_has nd idx (.classLink own idx n) && decide (n ∈ AO)
  | .ldc idx => ev_has nd idx (.constant own idx (Int32.ofInt E.2.2.2.2))
  | .ldc2_w idx => ev_has nd idx (.constantLong own idx (Int64.ofInt E.2.2.2.2))
  | .invokevirtual idx => ev_lm PG E.2.2.1 fun M' => ev_has nd idx (.methodLink own idx (ev_mN M')) && ev_lc G E.2.2.2.1 fun r => decide (r.1 = (ev_mN M').cls)
  | .invokestatic idx => if E.2.2.1 == 998 then ev_has nd idx (.methodLink own idx Lib.Math.max.name) && ev_has nd 50008 (.static Lib.Math.max.name) && ev_has nd 50010 (.initialized "java/lang/Math") && ev_has nd 50011 (.code Lib.Math.max.name Lib.Math.max.code 2 (some .int)) else if E.2.2.1 == 997 then ev_has nd idx (.methodLink own idx Lib.Math.min.name) && ev_has nd 50009 (.static Lib.Math.min.name) && ev_has nd 50010 (.initialized "java/lang/Math") && ev_has nd 50012 (.code Lib.Math.min.name Lib.Math.min.code 2 (some .int)) else decide (E.2.2.1 < 900) && ev_lm PG E.2.2.1 fun M' => ev_has nd idx (.methodLink own idx (ev_mN M'))
  | .invokespecial idx => if E.2.2.1 == 999 then ev_has nd idx (.methodLink own idx objectInit) && ev_has nd 50006 (.instanceMethod objectInit) && ev_has nd 50007 (.code objectInit ⟨#[0xb1]⟩ 1 none) else ev_lm PG E.2.2.1 fun M' => ev_has nd idx (.methodLink own idx (ev_mN M')) || ev_hasM nd own idx (ev_mN M')
  | _ => true
theorem ev_nest_in {TT : List (List Cond)} {nd : ev_N} (h : ev_nok TT nd = true) : ∀ q ∈ nd, ev_isN q.2.2 = true → q.2.2 ∈ TT.flatten.filter ev_isN := fun _ hq h2 => List.mem_filter.mpr ⟨ev_nok_in h hq, h2⟩
theorem ev_lchk_ok {TT : List (List Cond)} {Tn : List Cond} {AO : List String} {G : ev_G} {TY : Nat → Nat → FieldType} {PG : List ev_M} {nd : ev_N} {own : String} {kd : Nat} {E : ev_E} (hn : ev_nok TT nd = true) (hT : ∀ q ∈ nd, ev_isN q.2.2 = true → q.2.2 ∈ Tn) (h : ev_lchk AO G TY PG nd own kd E = true) : ev_lok (TT.flatten.filter goodWord) Tn AO G TY PG own kd E := by
  obtain ⟨ins, len, u, v, z⟩ := E
  cases ins
  case getfield idx =>
    obtain ⟨C, T', N, h1, h2⟩ := ev_lc_ok h
    simp only [Bool.and_eq_true, decide_eq_true_eq, Bool.or_eq_true] at h2
    refine ⟨C, T', N, h1, h2.1.1, h2.1.2, ?_⟩
    rcases h2.2 with q | q
    · exact Or.inl (ev_has_ok hn q)
    · exact Or.inr (ev_hasF_ok hT q)
  case putfield idx =>
    obtain ⟨C, T', N, h1, h2⟩ := ev_lc_ok h
    simp only [Bool.and_eq_true, decide_eq_true_eq, Bool.or_eq_true] at h2
    obtain ⟨⟨⟨⟨q1, q2⟩, q3⟩, q4⟩, q5⟩ := h2
    refine ⟨C, T', N, h1, q1, q2, ?_, ?_, q5⟩
    · rcases q3 with q | ⟨q, q'⟩
      · exact Or.inl (ev_has_ok hn q)
      · exact Or.inr ⟨ev_hasF_ok hT q, q'⟩
    · intro hf
      rcases q4 with q | q
      · dsimp only at hf
        rw [hf] at q; cases q
      · exact q
  case new idx =>
    obtain ⟨C, T', N, h1, h2⟩ := ev_lc_ok h
    simp only [Bool.and_eq_true] at h2
    exact ⟨C, T', N, h1, ev_has_ok hn h2.1.1, ev_has_ok hn h2.1.2, ev_has_ok hn h2.2⟩
  case newarray a =>
    simp only [ev_lchk, Bool.and_eq_true, decide_eq_true_eq, ev_nth_eq] at h
    exact ⟨h.1.1, h.1.2, ev_has_ok hn h.2⟩
  case anewarray idx =>
    obtain ⟨n, h1, h2⟩ := ev_la_ok h
    simp only [Bool.and_eq_true, decide_eq_true_eq] at h2
    exact ⟨n, h1, ev_has_ok hn h2.1, h2.2⟩
  case ldc idx => exact ev_has_ok hn h
  case ldc2_w idx => exact ev_has_ok hn h
  case invokevirtual idx =>
    obtain ⟨M', h1, h2⟩ := ev_lm_ok h
    rw [Bool.and_eq_true] at h2
    obtain ⟨C, T', N, h3, h4⟩ := ev_lc_ok h2.2
    rw [decide_eq_true_eq] at h4
    dsimp only at h4
    subst h4
    exact ⟨M', h1, ev_has_ok hn h2.1, T', N, h3⟩
  case invokestatic idx =>
    simp only [ev_lchk] at h
    split at h
    · rename_i hu
      simp only [Bool.and_eq_true] at h
      exact Or.inl ⟨by simpa using hu, ev_has_ok hn h.1.1.1, ev_has_ok hn h.1.1.2, ev_has_ok hn h.1.2, ev_has_ok hn h.2⟩
    · split at h
      · rename_i hu
        simp only [Bool.and_eq_true] at h
        exact Or.inr (Or.inl ⟨by simpa using hu, ev_has_ok hn h.1.1.1, ev_has_ok hn h.1.1.2, ev_has_ok hn h.1.2, ev_has_ok hn h.2⟩)
      · rw [Bool.and_eq_true, decide_eq_true_eq] at h
        obtain ⟨M', h1, h2⟩ := ev_lm_ok h.2
        exact Or.inr (Or.inr ⟨h.1, M', h1, ev_has_ok hn h2⟩)
  case invokespecial idx =>
    simp only [ev_lchk] at h
    split at h
    · rename_i hu
      simp only [Bool.and_eq_true] at h
      exact Or.inl ⟨by simpa using hu, ev_has_ok hn h.1.1, ev_has_ok hn h.1.2, ev_has_ok hn h.2⟩
    · rename_i hu
      obtain ⟨M', h1, h2⟩ := ev_lm_ok h
      rw [Bool.or_eq_true] at h2
      refine Or.inr ⟨by simpa using hu, M', h1, ?_⟩
      rcases h2 with q | q
      · exact Or.inl (ev_has_ok hn q)
      · exact Or.inr (ev_hasM_ok hT q)
  all_goals exact trivial
/-- a method's instructions are its bytes, and its words stand in the tables -/
def ev_cchk (AO : List String) (G : ev_G) (TY : Nat → Nat → FieldType) (PG : List ev_M) (nd : ev_N) (M : ev_M) : Bool := (List.range (32 * (ev_mC M).length)).all fun pc => match ev_at M pc with
  | none => true
  | some E => decide (decode (ev_mB M) pc = .ok (E.1, E.2.1)) && ev_lchk AO G TY PG nd (ev_mN M).cls (ev_mK M) E
def ev_hchk (nd : ev_N) (M : ev_M) : Bool := plainName (ev_mN M).cls && ev_has nd 50002 (.initialized (ev_mN M).cls) && decide ((ev_mN M).cls ≠ "java/lang/invoke/MethodHandle") && decide ((ev_mN M).cls ≠ "java/lang/invoke/VarHandle") && decide ((parseMethodDescriptor (ev_mN M).desc).map (fun d => d.parameters.length) = some (ev_mP M)) && (match ev_mK M % 10 with
  | 0 => ev_has nd 50003 (.static (ev_mN M))
  | 1 => ev_has nd 50004 (.instanceMethod (ev_mN M)) && ev_has nd 50005 (.selects (ev_mN M).cls (ev_mN M) (ev_mN M))
  | _ => decide ((ev_mN M).name = "<init>") && ev_has nd 50004 (.instanceMethod (ev_mN M)) && decide (ev_mR M = none))
theorem ev_at_lt {M : ev_M} {pc : Nat} {E : ev_E} (h : ev_at M pc = some E) : pc < 32 * (ev_mC M).length := by
  unfold ev_at at h
  split at h
  · rename_i ch hch
    rw [ev_nth_eq] at hch
    have := (List.getElem?_eq_some_iff.mp hch).1
    omega
  · cases h
theorem ev_mchk_okT {TT : List (List Cond)} {Tn : List Cond} {AO : List String} {G : ev_G} {TY : Nat → Nat → FieldType} {PG : List ev_M} (nd : ev_N) {M : ev_M} (hc : Cond.code (ev_mN M) (ev_mB M) (ev_mL M) (ev_mR M) ∈ TT.flatten.filter goodWord) (hn : ev_nok TT nd = true) (hT : ∀ q ∈ nd, ev_isN q.2.2 = true → q.2.2 ∈ Tn) (h1 : ev_hchk nd M = true) (h2 : ev_cchk AO G TY PG nd M = true) : ev_mok (TT.flatten.filter goodWord) Tn AO G TY PG M := by
  unfold ev_hchk at h1
  simp only [Bool.and_eq_true, decide_eq_true_eq] at h1
  obtain ⟨⟨⟨⟨⟨a1, a3⟩, a4⟩, a5⟩, a6⟩, a7⟩ := h1
  refine ⟨a1, hc, ev_has_ok hn a3, ⟨a4, a5, a6⟩, fun q => ?_, fun q => ?_, fun q => ?_, fun pc E hE => ?_⟩
  · rw [q] at a7
    exact ev_has_ok hn a7
  · rw [q] at a7
    have a8 : (ev_has nd 50004 (.instanceMethod (ev_mN M)) && ev_has nd 50005 (.selects (ev_mN M).cls (ev_mN M) (ev_mN M))) = true := a7
    rw [Bool.and_eq_true] at a8
    exact ⟨ev_has_ok hn a8.1, ev_has_ok hn a8.2⟩
  · rw [q] at a7
    have a8 : (decide ((ev_mN M).name = "<init>") && ev_has nd 50004 (.instanceMethod (ev_mN M)) && decide (ev_mR M = none)) = true := a7
    rw [Bool.and_eq_true, Bool.and_eq_true, decide_eq_true_eq, decide_eq_true_eq] at a8
    exact ⟨a8.1.1, ev_has_ok hn a8.1.2, a8.2⟩
  · have h3 := List.all_eq_true.mp h2 pc (List.mem_range.mpr (ev_at_lt hE))
    rw [hE] at h3
    dsimp only at h3
    rw [Bool.and_eq_true, decide_eq_true_eq] at h3
    exact ⟨h3.1, ev_lchk_ok hn hT h3.2⟩
theorem ev_mchk_ok {TT : List (List Cond)} {AO : List String} {G : ev_G} {TY : Nat → Nat → FieldType} {PG : List ev_M} (nd : ev_N) {M : ev_M} (hc : Cond.code (ev_mN M) (ev_mB M) (ev_mL M) (ev_mR M) ∈ TT.flatten.filter goodWord) (hn : ev_nok TT nd = true) (h1 : ev_hchk nd M = true) (h2 : ev_cchk AO G TY PG nd M = true) : ev_mok (TT.flatten.filter goodWord) (TT.flatten.filter ev_isN) AO G TY PG M := ev_mchk_okT nd hc hn (ev_nest_in hn) h1 h2
theorem ev_dchk_ok {TT : List (List Cond)} {AO : List String} {G : ev_G} {TY : Nat → Nat → FieldType} {PG : List ev_M} (nd : ev_N) {M : ev_M} (hn : ev_nok TT nd = true) (h2 : ev_cchk AO G TY PG nd M = true) (pc : Nat) (E : ev_E) (hE : ev_at M pc = some E) : decode (ev_mB M) pc = .ok (E.1, E.2.1) ∧ ev_lok (TT.flatten.filter goodWord) (TT.flatten.filter ev_isN) AO G TY PG (ev_mN M).cls (ev_mK M) E := by
  have h3 := List.all_eq_true.mp h2 pc (List.mem_range.mpr (ev_at_lt hE))
  rw [hE] at h3
  dsimp only at h3
  rw [Bool.and_eq_true, decide_eq_true_eq] at h3
  exact ⟨h3.1, ev_lchk_ok hn (ev_nest_in hn) h3.2⟩
end
section
/-! methods over longs alone: loops with a counter, and the contract 'some long comes back' -/
def ev_le (a a' : ev_A) : Bool := a.1 == a'.1 && decide (a.1 < 2) && decide (a'.2.1 ≤ a.2.1) && decide (a.2.2 ≤ a'.2.2)
theorem ev_le_ok {B b : Nat} {v : Value} {a a' : ev_A} (h : ev_g B b v a) (q : ev_le a a' = true) : ev_g B b v a' := by
  obtain ⟨t, l1, h1⟩ := a
  obtain ⟨t', l2, h2⟩ := a'
  simp only [ev_le, Bool.and_eq_true, decide_eq_true_eq, beq_iff_eq] at q
  obtain ⟨⟨⟨rfl, q1⟩, q2⟩, q3⟩ := q
  match t, q1, h with
  | 0, _, h =>
    obtain ⟨x, e, a1, a2⟩ := h
    exact ⟨x, e, Int.le_trans q2 a1, Int.le_trans a2 q3⟩
  | 1, _, h =>
    obtain ⟨x, e, a1, a2⟩ := h
    exact ⟨x, e, Int.le_trans q2 a1, Int.le_trans a2 q3⟩
  | n + 2, q1, _ => exact absurd q1 (by omega)
def ev_cov (lv : List (Nat × ev_A)) : List (Nat × ev_A) → Bool
  | [] => true
  | q :: r => (match ev_look lv q.1 with
    | some a => ev_le a q.2
    | none => false) && ev_cov lv r
theorem ev_cov_ok {B b nL : Nat} {ls : Array Slot} {clv : List (Nat × Value)} {lv : List (Nat × ev_A)} (hl : lv_has ls nL clv) (h2 : ev_g2 B b clv lv) : ∀ {lw : List (Nat × ev_A)}, ev_cov lv lw = true → ∃ clw, lv_has ls nL clw ∧ ev_g2 B b clw lw
  | [], _ => ⟨[], ⟨hl.1, hl.2.1, fun _ q => by cases q⟩, trivial⟩
  | q :: r, h => by
    unfold ev_cov at h
    rw [Bool.and_eq_true] at h
    obtain ⟨clw, h3, h4⟩ := ev_cov_ok hl h2 h.2
    have h5 := h.1
    split at h5
    · rename_i a ha
      obtain ⟨k, v, e1, e2⟩ := ev_look_ok h2 ha
      refine ⟨(q.1, v) :: clw, ⟨hl.1, hl.2.1, fun x hx => ?_⟩, ⟨rfl, ev_le_ok e2 h5⟩, h4⟩
      rcases List.mem_cons.mp hx with rfl | hx
      · exact lv_at hl k e1
      · exact h3.2.2 x hx
    · cases h5
/-- a run stops at the loop's head, when its locals are within these -/
def ev_stp (idb : ev_M → Bool) (pc0 : Nat) (lw : List (Nat × ev_A)) (S : ev_S) : Bool := match S with
  | ([(M, pc, lv, st, bc, bs)], h, sg) => pc == pc0 && idb M && st.isEmpty && bc == 0 && bs == 0 && h.1 == 0 && h.2.isEmpty && sg.isEmpty && ev_cov lv lw
  | _ => false
def ev_nostop : ev_S → Bool := fun _ => false
/-- some long, and no cell was made -/
def ev_finL (a : Option ev_A) (h : ev_Q) : Bool := (match a with
  | some x => x.1 == 1
  | none => false) && h.1 == 0 && h.2.isEmpty
section EVL
variable {l : Launch} {D : va_G} {tys : List (ClassId × FieldType)} {Tg Tn : List Cond} {AO : List String} {o : Bool} {B b L : Nat} {xs : Nat → Int32} {G : ev_G} {TY : Nat → Nat → FieldType} {PG : List ev_M} {dk : ev_M → Prop} {fin : Option ev_A → ev_Q → Bool} {M0 : ev_M}
theorem ev_loop (idb : ev_M → Bool) (hid : ∀ M, dk M → idb M = true → M = M0) (pc0 N n : Nat) (lw : Nat → List (Nat × ev_A)) (Fx : ev_Fx Tg Tn G TY) (hM : ∀ M ∈ PG, ev_mok Tg Tn AO G TY PG M) (hdk : ∀ M ∈ PG, dk M) (hdd : ∀ M, dk M → ∀ (pc : Nat) (E : ev_E), ev_at M pc = some E → decode (ev_mB M) pc = .ok (E.1, E.2.1) ∧ ev_lok Tg Tn AO G TY PG (ev_mN M).cls (ev_mK M) E) (hPl : PG.length ≤ 900) (ht : tys.map Prod.snd = G.2.1) (hv : ∀ M ∈ PG, 10 ≤ ev_mK M → ev_Hv l Tg M)
    (hb : ev_run G PG fin ev_nostop n ([(M0, pc0, lw N, [], 0, 0)], (0, []), []) = true) (hs : ∀ j, j < N → ev_run G PG fin (ev_stp idb pc0 (lw (j + 1))) n ([(M0, pc0, lw j, [], 0, 0)], (0, []), []) = true) :
    ∀ (i : Nat), i ≤ N → ev_Goal G PG fin ev_nostop l D tys Tg Tn AO o B b L xs dk 0 ([(M0, pc0, lw (N - i), [], 0, 0)], (0, []), []) := by
  intro i
  induction i with
  | zero =>
    intro _
    have q := ev_sound (l := l) (D := D) (o := o) (B := B) (b := b) (L := L) (xs := xs) (fin := fin) (stop := ev_nostop) Fx hM hdk hdd hPl ht hv (fun _ _ h => by cases h) n _ hb
    exact fun h1 h2 p e R s m args below meth c Q H locs cells slots ls clv cst mc ms a1 a2 a3 a4 a5 a6 a7 a8 a9 a10 a11 a12 a13 a14 => q h1 h2 p e R s m args below meth c Q H locs cells slots ls clv cst mc ms a1 a2 a3 a4 a5 a6 a7 a8 a9 a10 a11 a12 a13 a14
  | succ i ih =>
    intro hi
    have ih := ih (by omega)
    have e1 : N - i = (N - (i + 1)) + 1 := by omega
    rw [e1] at ih
    have q := ev_sound (l := l) (D := D) (o := o) (B := B) (b := b) (L := L) (xs := xs) (fin := fin) (stop := ev_stp idb pc0 (lw (N - (i + 1) + 1))) (dk := dk) Fx hM hdk hdd hPl ht hv ?_ n _ (hs (N - (i + 1)) (by omega))
    · exact fun h1 h2 p e R s m args below meth c Q H locs cells slots ls clv cst mc ms a1 a2 a3 a4 a5 a6 a7 a8 a9 a10 a11 a12 a13 a14 => q h1 h2 p e R s m args below meth c Q H locs cells slots ls clv cst mc ms a1 a2 a3 a4 a5 a6 a7 a8 a9 a10 a11 a12 a13 a14
    · intro n2 S hS
      unfold ev_stp at hS
      split at hS
      · rename_i M pc lv st bc bs h sg
        obtain ⟨hn, hl⟩ := h
        simp only [Bool.and_eq_true, beq_iff_eq, List.isEmpty_iff] at hS
        obtain ⟨⟨⟨⟨⟨⟨⟨⟨rfl, g1⟩, rfl⟩, rfl⟩, rfl⟩, rfl⟩, rfl⟩, rfl⟩, g2⟩ := hS
        intro h1 h2 p e R s m args below meth c Q H locs cells slots ls clv cst mc ms a1 a2 a3 a4 a5 a6 a7 a8 a9 a10 a11 a12 a13 a14
        have hMM := hid M h1 g1
        subst hMM
        obtain ⟨clw, c1, c2⟩ := ev_cov_ok a2 a3 g2
        exact ih h1 h2 p e R s m args below meth c Q H locs cells slots ls clw cst mc ms a1 c1 c2 a4 a5 a6 a7 a8 a9 a10 a11 a12 a13 a14
      · cases hS
end EVL
theorem ev_tops {B b : Nat} : ∀ (ys : List Int64), ev_g1 B b (ys.map Value.long) (List.replicate ys.length ev_tL)
  | [] => trivial
  | y :: ys => ⟨ev_tL_ok y, ev_tops ys⟩
theorem ev_fx_e {Tg : List Cond} (h : ∀ w ∈ Tg, (w.onTables && w.keeps) = true ∨ ∃ ty, w = .arrayClass ty) : ev_Fx Tg [] ([], [], []) (fun _ _ => .int) :=
  ⟨Nat.zero_le _, h, fun _ q => (by cases q), fun ci C T N q => (by simp at q), fun ci c q => (by simp at q)⟩
/-- the contract of a method over longs -/
theorem ev_hv_of {l : Launch} {Tg : List Cond} {PG : List ev_M} {dk : ev_M → Prop} {stop : ev_S → Bool} {M : ev_M} {n : Nat} (hk : ev_mok Tg [] [] ([], [], []) (fun _ _ => .int) PG M) (hdk : dk M) (hdd : ∀ (pc : Nat) (E : ev_E), ev_at M pc = some E → decode (ev_mB M) pc = .ok (E.1, E.2.1)) (hK2 : ev_mK M ≠ 2)
    (hg : ∀ (D : va_G) (B : Nat), ev_Goal ([], [], []) PG ev_finL stop l D [] Tg [] [] false B 0 0 (fun _ => 0) dk n ([(M, 0, ev_args 0 (List.replicate (ev_mP M) ev_tL), [], ev_mY M, ev_mS M)], (0, []), [])) (hsz : ev_sz (List.replicate (ev_mP M) ev_tL) ≤ ev_mL M) : ev_Hv l Tg M := by
  intro ys hlen
  refine Met.ofW (cc := ev_mB M) (maxL := ev_mL M) (ret := ev_mR M) hk.1 rfl ?_
  intro p e s m args below meth c s₁ Bd hml hv
  subst hv
  have hts := atoms_spec (ws := ev_ws Tg M) Bd.pre
  have gA : ev_g1 s.heap.size 0 (ys.map Value.long) (List.replicate (ev_mP M) ev_tL) := by rw [← hlen]; exact ev_tops ys
  rw [lg_entry_eq]
  have hl := lv_entry (ys.map Value.long) (n := ev_mL M) (by rw [ev_lgsl, ev_szc gA]; exact hsz)
  have hcx : ev_Cx ((fun _ => 0, fun _ _ => 0) : va_G) [] Tg [] [] (([], [], []) : ev_G) M p s m _ meth c := ⟨Bd.exec, Bd.bytes, hml, findClass_of_methodNamed Bd.named, fun w hw => hts w (List.mem_cons_of_mem _ hw), Bd.returns, Bd.notSynchronized, fun q => absurd q hK2, ⟨fun c q hq => (by simp at hq), fun k q hq => (by simp at hq)⟩, fun _ q => (by cases q), fun _ q => (by cases q)⟩
  refine hg _ s.heap.size hdk (fun _ q => by cases q) p e _ s m _ below meth c _ s.heap [] 0 0 _ _ [] (ev_mY M) (ev_mS M) hcx hl (ev_args_ok gA) trivial ⟨rfl, fun i c q => (by simp [ev_hg, ev_nth] at q)⟩ ⟨fun _ _ => rfl, fun _ q => (by cases q)⟩ ⟨⟨by decide, fun a q => (by simp at q), fun j a q => (by simp at q)⟩, fun q => absurd rfl q, fun q => (by cases q)⟩ (by omega) (by omega) (Nat.le_refl _) (Nat.le_refl _) (Nat.le_refl _) (Nat.le_refl _) ?_
  intro H1 locs1 cells1 slots1 ls1 pc1 cst1 E1 st1 a1 h1' sg1 hP hat hlen1 hrok g1' hR1 hLo1 hSd1 hc1 hs1
  refine va_forget hLo1.2 ?_
  refine W.widen hc1 hs1 ?_
  have hd1 := hdd pc1 E1 hat
  rw [hlen1] at hd1
  have hf : ev_finL a1 h1' = true := hP
  obtain ⟨hn, hll⟩ := h1'
  unfold ev_finL at hf
  rw [Bool.and_eq_true, Bool.and_eq_true, List.isEmpty_iff, beq_iff_eq] at hf
  obtain ⟨⟨f1, rfl⟩, rfl⟩ := hf
  have hH : H1 = s.heap := by
    apply Array.ext_getElem?
    intro i
    by_cases hi : i < s.heap.size
    · exact hLo1.1 i hi
    · rw [Array.getElem?_eq_none (by rw [hR1.1]; simp; omega), Array.getElem?_eq_none (by omega)]
  refine ev_retrow hcx hd1 hrok g1' (fun v0 hv0 t0 ht0 _ => ⟨?_, by rw [ht0, hH]⟩) (fun _ q => by cases q)
  cases a1 with
  | none => cases f1
  | some a =>
    cases v0 with
    | none => exact hv0.elim
    | some v =>
      obtain ⟨x, rfl, -⟩ := ev_isL hv0 f1
      exact ⟨x, rfl⟩
end
section
/-! the same machine for the kernel: raw recursors, an instruction's handler is a closed term (so it is worked out once) -/
def ev_nk (G : ev_G) (PG : List ev_M) (fin : Option ev_A → ev_Q → Bool) (S : ev_S) (K : ev_S → Bool) : Bool := match ev_next G PG fin S with
  | none => false
  | some L => L.all K
abbrev ev_K : Type := List (Nat × ev_A) → List ev_A → Nat → Nat → List ev_F → ev_Q → List ev_A → (ev_S → Bool) → Bool
noncomputable def fx_nth {α : Type} (l : List α) : Nat → Option α := List.rec (fun _ => none) (fun a _ ih n => Nat.rec (some a) (fun m _ => ih m) n) l
theorem fx_nth_eq {α : Type} : ∀ (l : List α) (n : Nat), fx_nth l n = ev_nth l n
  | [], _ => rfl
  | a :: l, 0 => rfl
  | a :: l, n + 1 => fx_nth_eq l n
theorem fx_beq (a b : Nat) : Nat.beq a b = (a == b) := by
  rw [Bool.eq_iff_iff, Nat.beq_eq, beq_iff_eq]
noncomputable def fx_look (l : List (Nat × ev_A)) (i : Nat) : Option ev_A := List.rec none (fun q _ ih => Bool.rec ih (some q.2) (Nat.beq q.1 i)) l
theorem fx_look_eq : ∀ (l : List (Nat × ev_A)) (i : Nat), fx_look l i = ev_look l i
  | [], _ => rfl
  | q :: l, i => by
    have ih := fx_look_eq l i
    show (Bool.rec (fx_look l i) (some q.2) (Nat.beq q.1 i) : Option ev_A) = _
    unfold ev_look
    cases h : Nat.beq q.1 i with
    | true =>
      have : (q.1 == i) = true := by rw [← fx_beq]; exact h
      rw [this]; rfl
    | false =>
      have : (q.1 == i) = false := by rw [← fx_beq]; exact h
      rw [this]; exact ih
noncomputable def fx_hg (h : ev_Q) (i : Nat) : Option ev_C := Option.rec none (fun l => fx_nth l (i % 16)) (fx_nth h.2 (i / 16))
theorem fx_hg_eq (h : ev_Q) (i : Nat) : fx_hg h i = ev_hg h i := by
  unfold fx_hg ev_hg
  rw [fx_nth_eq]
  cases ev_nth h.2 (i / 16) with
  | none => rfl
  | some l => exact fx_nth_eq l _
noncomputable def fx_le (a b : Int) : Bool := Int.rec (fun n => Int.rec (fun m => Nat.ble n m) (fun _ => false) b) (fun n => Int.rec (fun _ => true) (fun m => Nat.ble m n) b) a
theorem fx_le_eq (a b : Int) : fx_le a b = decide (a ≤ b) := by
  cases a with
  | ofNat n => cases b with
    | ofNat m =>
      show Nat.ble n m = _
      rw [Bool.eq_iff_iff, Nat.ble_eq, decide_eq_true_eq]
      exact (Int.ofNat_le).symm
    | negSucc m =>
      show false = _
      symm
      rw [decide_eq_false_iff_not]
      have h1 : Int.ofNat n = (n : Int) := rfl
      omega
  | negSucc n => cases b with
    | ofNat m =>
      show true = _
      symm
      rw [decide_eq_true_eq]
      have h1 : Int.ofNat m = (m : Int) := rfl
      omega
    | negSucc m =>
      show Nat.ble m n = _
      rw [Bool.eq_iff_iff, Nat.ble_eq, decide_eq_true_eq]
      omega
noncomputable def fx_eq (a b : Int) : Bool := Int.rec (fun n => Int.rec (fun m => Nat.beq n m) (fun _ => false) b) (fun n => Int.rec (fun _ => false) (fun m => Nat.beq n m) b) a
theorem fx_eq_eq (a b : Int) : fx_eq a b = decide (a = b) := by
  cases a with
  | ofNat n => cases b with
    | ofNat m =>
      show Nat.beq n m = _
      rw [Bool.eq_iff_iff, Nat.beq_eq, decide_eq_true_eq]
      constructor
      · intro h; rw [h]
      · intro h; exact Int.ofNat.inj h
    | negSucc m => rfl
  | negSucc n => cases b with
    | ofNat m => rfl
    | negSucc m =>
      show Nat.beq n m = _
      rw [Bool.eq_iff_iff, Nat.beq_eq, decide_eq_true_eq]
      constructor
      · intro h; rw [h]
      · intro h; exact Int.negSucc.inj h
noncomputable def fx_and (a b : Bool) : Bool := Bool.rec false b a
noncomputable def fx_not (a : Bool) : Bool := Bool.rec true false a
theorem fx_and_eq (a b : Bool) : fx_and a b = (a && b) := by cases a <;> rfl
theorem fx_not_eq (a : Bool) : fx_not a = !a := by cases a <;> rfl
/-- both ways of a branch, as far as they may be -/
noncomputable def fx_two (t f x y : Bool) : Bool := Bool.rec (Bool.rec true y f) (Bool.rec false (Bool.rec true y f) x) t
theorem fx_two_ok {t f x y : Bool} (h : fx_two t f x y = true) : (t = true → x = true) ∧ (f = true → y = true) := by
  cases t <;> cases f <;> cases x <;> cases y <;> first | exact absurd h (by decide) | decide
noncomputable def fx_fN {α : Type} (n : Nat) (k : Nat → α) : α := Nat.rec (k 0) (fun m _ => k (Nat.succ m)) n
theorem fx_fN_eq {α : Type} (n : Nat) (k : Nat → α) : fx_fN n k = k n := by cases n <;> rfl
noncomputable def fx_fI {α : Type} (z : Int) (k : Int → α) : α := Int.rec (fun n => fx_fN n (fun n => k (Int.ofNat n))) (fun n => fx_fN n (fun n => k (Int.negSucc n))) z
theorem fx_fI_eq {α : Type} (z : Int) (k : Int → α) : fx_fI z k = k z := by
  cases z with
  | ofNat n => exact fx_fN_eq n (fun n => k (Int.ofNat n))
  | negSucc n => exact fx_fN_eq n (fun n => k (Int.negSucc n))
noncomputable def fx_tn (z : Int) : Nat := Int.rec (fun n => n) (fun _ => 0) z
theorem fx_tn_eq (z : Int) : fx_tn z = z.toNat := by cases z <;> rfl
section FX
variable (G : ev_G) (PG : List ev_M) (fin : Option ev_A → ev_Q → Bool)
def fx_slow (M : ev_M) (pc : Nat) : Option ev_K := some (fun lv st bc bs fs h sg K => ev_nk G PG fin ((M, pc, lv, st, bc, bs) :: fs, h, sg) K)
/-- what a handler must be -/
def fx_ok (M : ev_M) (pc : Nat) (o : Option ev_K) : Prop := ∀ F, o = some F → ∀ lv st bc bs fs h sg K, F lv st bc bs fs h sg K = true → ev_nk G PG fin ((M, pc, lv, st, bc, bs) :: fs, h, sg) K = true
theorem fx_slow_ok (M : ev_M) (pc : Nat) : fx_ok G PG fin M pc (fx_slow G PG fin M pc) := by
  intro F hF lv st bc bs fs h sg K hK
  cases hF
  exact hK
variable {G PG fin}
theorem fx_pure_ok {M : ev_M} {pc : Nat} {E : ev_E} {lv lv' : List (Nat × ev_A)} {st st' : List ev_A} {bc bs : Nat} {fs : List ev_F} {h : ev_Q} {sg : List ev_A} {K : ev_S → Bool} (hat : ev_at M pc = some E) (hp : ev_pure (ev_mL M) E.1 lv st = some (E.2.1, lv', st')) (hK : K ((M, pc + E.2.1, lv', st', bc, bs) :: fs, h, sg) = true) : ev_nk G PG fin ((M, pc, lv, st, bc, bs) :: fs, h, sg) K = true := by
  unfold ev_nk ev_next
  dsimp only
  rw [hat]
  dsimp only
  rw [hp]
  simp [hK]
theorem fx_br_ok {M : ev_M} {pc : Nat} {E : ev_E} {lv : List (Nat × ev_A)} {st : List ev_A} {bc bs : Nat} {fs : List ev_F} {h : ev_Q} {sg : List ev_A} {K : ev_S → Bool} {L : List (Nat × List ev_A)} (hat : ev_at M pc = some E) (hp : ev_pure (ev_mL M) E.1 lv st = none) (hb : ev_br pc E.2.1 E.1 st = some L) (hK : ∀ q ∈ L, K ((M, q.1, lv, q.2, bc, bs) :: fs, h, sg) = true) : ev_nk G PG fin ((M, pc, lv, st, bc, bs) :: fs, h, sg) K = true := by
  unfold ev_nk ev_next
  dsimp only
  rw [hat]
  dsimp only
  rw [hp]
  dsimp only
  rw [hb]
  dsimp only
  rw [List.all_eq_true]
  intro x hx
  obtain ⟨q, h1, rfl⟩ := List.mem_map.mp hx
  exact hK q h1
theorem fx_hp_ok {M : ev_M} {pc : Nat} {E : ev_E} {lv : List (Nat × ev_A)} {st : List ev_A} {bc bs : Nat} {fs : List ev_F} {h : ev_Q} {sg : List ev_A} {K : ev_S → Bool} {q : ev_Q × List ev_A × List ev_A × Nat × Nat} (hat : ev_at M pc = some E) (hp : ev_pure (ev_mL M) E.1 lv st = none) (hb : ev_br pc E.2.1 E.1 st = none) (hh : ev_hp G M E h sg st bc bs = some [q]) (hK : K ((M, pc + E.2.1, lv, q.2.2.1, q.2.2.2.1, q.2.2.2.2) :: fs, q.1, q.2.1) = true) : ev_nk G PG fin ((M, pc, lv, st, bc, bs) :: fs, h, sg) K = true := by
  unfold ev_nk ev_next
  dsimp only
  rw [hat]
  dsimp only
  rw [hp]
  dsimp only
  rw [hb]
  dsimp only
  rw [hh]
  simp [hK]
/-- a constant -/
noncomputable def fx_const (M : ev_M) (pc' : Nat) (z : Int) : Option ev_K := fx_fN pc' fun pc' => fx_fI z fun z => some fun lv st bc bs fs h sg K => K ((M, pc', lv, (0, z, z) :: st, bc, bs) :: fs, h, sg)
theorem fx_const_ok {M : ev_M} {pc : Nat} {E : ev_E} {z : Int} (hat : ev_at M pc = some E) (hp : ∀ lv st, ev_pure (ev_mL M) E.1 lv st = some (E.2.1, lv, (0, z, z) :: st)) : fx_ok G PG fin M pc (fx_const M (pc + E.2.1) z) := by
  intro F hF lv st bc bs fs h sg K hK
  unfold fx_const at hF
  rw [fx_fN_eq, fx_fI_eq] at hF
  cases hF
  exact fx_pure_ok hat (hp lv st) hK
/-- a local: ok says which tags may be -/
noncomputable def fx_ld (M : ev_M) (pc' i : Nat) (ok : Nat → Bool) : Option ev_K := fx_fN pc' fun pc' => fx_fN i fun i => some fun lv st bc bs fs h sg K => Option.rec false (fun a => Bool.rec false (K ((M, pc', lv, a :: st, bc, bs) :: fs, h, sg)) (ok a.1)) (fx_look lv i)
theorem fx_ld_ok {M : ev_M} {pc i : Nat} {E : ev_E} {ok : Nat → Bool} (hat : ev_at M pc = some E) (hp : ∀ lv st a, ev_look lv i = some a → ok a.1 = true → ev_pure (ev_mL M) E.1 lv st = some (E.2.1, lv, a :: st)) : fx_ok G PG fin M pc (fx_ld M (pc + E.2.1) i ok) := by
  intro F hF lv st bc bs fs h sg K hK
  unfold fx_ld at hF
  rw [fx_fN_eq, fx_fN_eq] at hF
  cases hF
  dsimp only at hK
  rw [fx_look_eq] at hK
  cases hl : ev_look lv i with
  | none => rw [hl] at hK; cases hK
  | some a =>
    rw [hl] at hK
    dsimp only at hK
    cases ho : ok a.1 with
    | false => rw [ho] at hK; cases hK
    | true =>
      rw [ho] at hK
      exact fx_pure_ok hat (hp lv st a hl ho) hK
noncomputable def fx_goto (M : ev_M) (pc' : Nat) : Option ev_K := fx_fN pc' fun pc' => some fun lv st bc bs fs h sg K => K ((M, pc', lv, st, bc, bs) :: fs, h, sg)
/-- may a comparison hold, may it fail -/
noncomputable def fx_rT (cd : ClassFile.Cond) (l1 h1 l2 h2 : Int) : Bool := ClassFile.Cond.rec (fx_and (fx_le l1 h2) (fx_le l2 h1)) (fx_not (fx_and (fx_and (fx_eq l1 h1) (fx_eq l2 h2)) (fx_eq l1 l2))) (fx_not (fx_le h2 l1)) (fx_le l2 h1) (fx_not (fx_le h1 l2)) (fx_le l1 h2) cd
noncomputable def fx_rF (cd : ClassFile.Cond) (l1 h1 l2 h2 : Int) : Bool := ClassFile.Cond.rec (fx_not (fx_and (fx_and (fx_eq l1 h1) (fx_eq l2 h2)) (fx_eq l1 l2))) (fx_and (fx_le l1 h2) (fx_le l2 h1)) (fx_le l2 h1) (fx_not (fx_le h2 l1)) (fx_le l1 h2) (fx_not (fx_le h1 l2)) cd
theorem fx_nle (a b : Int) : (!decide (a ≤ b)) = decide (b < a) := by
  by_cases h : a ≤ b
  · simp [h, Int.not_lt.mpr h]
  · simp [h, Int.not_le.mp h]
theorem fx_rel_eq (cd : ClassFile.Cond) (l1 h1 l2 h2 : Int) : (fx_rT cd l1 h1 l2 h2, fx_rF cd l1 h1 l2 h2) = ev_rel cd l1 h1 l2 h2 := by
  cases cd <;> simp only [fx_rT, fx_rF, ev_rel, fx_and_eq, fx_not_eq, fx_le_eq, fx_eq_eq, fx_nle]
noncomputable def fx_b1 (M : ev_M) (pcT pcF : Nat) (cd : ClassFile.Cond) : Option ev_K := fx_fN pcT fun pcT => fx_fN pcF fun pcF => some fun lv st bc bs fs h sg K => List.rec false (fun a r _ => Bool.rec false (fx_two (fx_rT cd a.2.1 a.2.2 0 0) (fx_rF cd a.2.1 a.2.2 0 0) (K ((M, pcT, lv, r, bc, bs) :: fs, h, sg)) (K ((M, pcF, lv, r, bc, bs) :: fs, h, sg))) (Nat.beq a.1 0)) st
noncomputable def fx_b2 (M : ev_M) (pcT pcF : Nat) (cd : ClassFile.Cond) : Option ev_K := fx_fN pcT fun pcT => fx_fN pcF fun pcF => some fun lv st bc bs fs h sg K => List.rec false (fun y r0 _ => List.rec false (fun x r _ => Bool.rec false (fx_two (fx_rT cd x.2.1 x.2.2 y.2.1 y.2.2) (fx_rF cd x.2.1 x.2.2 y.2.1 y.2.2) (K ((M, pcT, lv, r, bc, bs) :: fs, h, sg)) (K ((M, pcF, lv, r, bc, bs) :: fs, h, sg))) (fx_and (Nat.beq x.1 0) (Nat.beq y.1 0))) r0) st
theorem fx_two_mem {pc : Nat} {off : Int} {q : Bool × Bool} {r : List ev_A} (h0 : 0 ≤ (pc : Int) + off) : ∃ L, ev_two pc off q r = some L ∧ ∀ x ∈ L, (q.1 = true ∧ x = (((pc : Int) + off).toNat, r)) ∨ (q.2 = true ∧ x = (pc + 3, r)) := by
  unfold ev_two
  rw [if_pos h0]
  refine ⟨_, rfl, fun x hx => ?_⟩
  obtain ⟨a, b⟩ := q
  cases a <;> cases b <;> simp at hx ⊢
  · exact hx
  · exact hx
  · exact hx
theorem fx_b1_ok {M : ev_M} {pc : Nat} {E : ev_E} {cd : ClassFile.Cond} {off : Int} (hat : ev_at M pc = some E) (hi : E.1 = .ifCond cd off) (hl : E.2.1 = 3) (h0 : 0 ≤ (pc : Int) + off) : fx_ok G PG fin M pc (fx_b1 M ((pc : Int) + off).toNat (pc + 3) cd) := by
  intro F hF lv st bc bs fs h sg K hK
  unfold fx_b1 at hF
  rw [fx_fN_eq, fx_fN_eq] at hF
  cases hF
  dsimp only at hK
  cases st with
  | nil => cases hK
  | cons a r =>
    obtain ⟨t, l1, h1⟩ := a
    dsimp only at hK
    cases ht : Nat.beq t 0 with
    | false => rw [ht] at hK; cases hK
    | true =>
      rw [ht] at hK
      dsimp only at hK
      obtain ⟨k1, k2⟩ := fx_two_ok hK
      have hr := fx_rel_eq cd l1 h1 0 0
      obtain ⟨L, hL, hm⟩ := fx_two_mem (pc := pc) (off := off) (q := ev_rel cd l1 h1 0 0) (r := r) h0
      refine fx_br_ok (L := L) hat (by rw [hi]; rfl) ?_ ?_
      · rw [hi, hl]
        have ht' : (t == 0) = true := by rw [← fx_beq]; exact ht
        simp only [ev_br, ev_b1, ht', if_true]
        exact hL
      · intro x hx
        rcases hm x hx with ⟨q1, rfl⟩ | ⟨q1, rfl⟩
        · exact k1 (by rw [← hr] at q1; exact q1)
        · exact k2 (by rw [← hr] at q1; exact q1)
theorem fx_b2_ok {M : ev_M} {pc : Nat} {E : ev_E} {cd : ClassFile.Cond} {off : Int} (hat : ev_at M pc = some E) (hi : E.1 = .if_icmp cd off) (hl : E.2.1 = 3) (h0 : 0 ≤ (pc : Int) + off) : fx_ok G PG fin M pc (fx_b2 M ((pc : Int) + off).toNat (pc + 3) cd) := by
  intro F hF lv st bc bs fs h sg K hK
  unfold fx_b2 at hF
  rw [fx_fN_eq, fx_fN_eq] at hF
  cases hF
  dsimp only at hK
  cases st with
  | nil => cases hK
  | cons y r0 =>
    cases r0 with
    | nil => cases hK
    | cons x r =>
      obtain ⟨t2, l2, h2⟩ := y
      obtain ⟨t1, l1, h1⟩ := x
      dsimp only at hK
      cases ht : fx_and (Nat.beq t1 0) (Nat.beq t2 0) with
      | false => rw [ht] at hK; cases hK
      | true =>
        rw [ht] at hK
        dsimp only at hK
        rw [fx_and_eq] at ht
        obtain ⟨k1, k2⟩ := fx_two_ok hK
        have hr := fx_rel_eq cd l1 h1 l2 h2
        obtain ⟨L, hL, hm⟩ := fx_two_mem (pc := pc) (off := off) (q := ev_rel cd l1 h1 l2 h2) (r := r) h0
        refine fx_br_ok (L := L) hat (by rw [hi]; rfl) ?_ ?_
        · rw [hi, hl]
          have ht' : (t1 == 0 && t2 == 0) = true := by rw [← fx_beq, ← fx_beq]; exact ht
          simp only [ev_br, ev_b2, ht', if_true]
          exact hL
        · intro q hx
          rcases hm q hx with ⟨q1, rfl⟩ | ⟨q1, rfl⟩
          · exact k1 (by rw [← hr] at q1; exact q1)
          · exact k2 (by rw [← hr] at q1; exact q1)
theorem fx_goto_ok {M : ev_M} {pc : Nat} {E : ev_E} {off : Int} (hat : ev_at M pc = some E) (hi : E.1 = .goto off) (hl : E.2.1 = 3) (h0 : 0 ≤ (pc : Int) + off) : fx_ok G PG fin M pc (fx_goto M ((pc : Int) + off).toNat) := by
  intro F hF lv st bc bs fs h sg K hK
  unfold fx_goto at hF
  rw [fx_fN_eq] at hF
  cases hF
  refine fx_br_ok (L := [(((pc : Int) + off).toNat, st)]) hat (by rw [hi]; rfl) ?_ ?_
  · rw [hi, hl]
    simp only [ev_br]
    rw [if_pos (by simp [h0])]
  · intro x hx
    rw [List.mem_singleton.mp hx]
    exact hK
end FX
end
section
/-! more handlers -/
/-- locals without those that a store at i overwrites -/
noncomputable def fx_flt (i : Nat) (l : List (Nat × ev_A)) : (List (Nat × ev_A) → Bool) → Bool := List.rec (fun k => k []) (fun q _ ih k => Bool.rec (Bool.rec (ih fun t => k (q :: t)) (ih k) (fx_and (Nat.beq (Nat.succ q.1) i) (Nat.beq q.2.1 1))) (ih k) (Nat.beq q.1 i)) l
theorem fx_flt_eq (i : Nat) : ∀ (l : List (Nat × ev_A)) (k : List (Nat × ev_A) → Bool), fx_flt i l k = k (l.filter (fun q => !(q.1 == i) && !(q.1 + 1 == i && q.2.1 == 1)))
  | [], _ => rfl
  | q :: l, k => by
    have ih := fx_flt_eq i l
    show (Bool.rec (Bool.rec (fx_flt i l fun t => k (q :: t)) (fx_flt i l k) (fx_and (Nat.beq (Nat.succ q.1) i) (Nat.beq q.2.1 1))) (fx_flt i l k) (Nat.beq q.1 i) : Bool) = _
    rw [List.filter_cons]
    cases h1 : Nat.beq q.1 i with
    | true =>
      rw [fx_beq] at h1
      rw [h1]
      simpa using ih k
    | false =>
      rw [fx_beq] at h1
      rw [h1]
      cases h2 : fx_and (Nat.beq (Nat.succ q.1) i) (Nat.beq q.2.1 1) with
      | true =>
        rw [fx_and_eq, fx_beq, fx_beq] at h2
        have h2' : (q.1 + 1 == i && q.2.1 == 1) = true := h2
        rw [h2']
        simpa using ih k
      | false =>
        rw [fx_and_eq, fx_beq, fx_beq] at h2
        have h2' : (q.1 + 1 == i && q.2.1 == 1) = false := h2
        rw [h2']
        simpa using ih (fun t => k (q :: t))
noncomputable def fx_tk (n : Nat) : List ev_A → List ev_A → (List ev_A → List ev_A → Bool) → Bool := Nat.rec (fun st acc k => k acc st) (fun _ ih st acc k => List.rec false (fun a r _ => ih r (a :: acc) k) st) n
theorem fx_tk_ok : ∀ (n : Nat) (st acc : List ev_A) (k : List ev_A → List ev_A → Bool), fx_tk n st acc k = true → n ≤ st.length ∧ k ((st.take n).reverse ++ acc) (st.drop n) = true
  | 0, st, acc, k, h => ⟨Nat.zero_le _, h⟩
  | n + 1, [], acc, k, h => by cases h
  | n + 1, a :: st, acc, k, h => by
    obtain ⟨h1, h2⟩ := fx_tk_ok n st (a :: acc) k h
    refine ⟨by simpa using h1, ?_⟩
    simpa using h2
noncomputable def fx_sz (l : List ev_A) : Nat := List.rec 0 (fun a _ ih => Bool.rec (Nat.succ ih) (Nat.succ (Nat.succ ih)) (Nat.beq a.1 1)) l
theorem fx_sz_eq : ∀ (l : List ev_A), fx_sz l = ev_sz l
  | [] => rfl
  | a :: l => by
    have ih := fx_sz_eq l
    show (Bool.rec (Nat.succ (fx_sz l)) (Nat.succ (Nat.succ (fx_sz l))) (Nat.beq a.1 1) : Nat) = _
    unfold ev_sz at ih ⊢
    rw [List.map_cons, List.sum_cons, ← ih, ← fx_beq]
    cases Nat.beq a.1 1 with
    | true => show fx_sz l + 2 = 2 + fx_sz l; omega
    | false => show fx_sz l + 1 = 1 + fx_sz l; omega
noncomputable def fx_args (l : List ev_A) : Nat → (List (Nat × ev_A) → Bool) → Bool := List.rec (fun _ k => k []) (fun a _ ih i k => fx_fN i fun i => Bool.rec (ih (Nat.succ i) fun t => k ((i, a) :: t)) (ih (Nat.succ (Nat.succ i)) fun t => k ((i, a) :: t)) (Nat.beq a.1 1)) l
theorem fx_args_eq : ∀ (l : List ev_A) (i : Nat) (k : List (Nat × ev_A) → Bool), fx_args l i k = k (ev_args i l)
  | [], _, _ => rfl
  | a :: l, i, k => by
    show fx_fN i (fun i => (Bool.rec (fx_args l (Nat.succ i) fun t => k ((i, a) :: t)) (fx_args l (Nat.succ (Nat.succ i)) fun t => k ((i, a) :: t)) (Nat.beq a.1 1) : Bool)) = _
    rw [fx_fN_eq]
    unfold ev_args
    rw [← fx_beq]
    cases Nat.beq a.1 1 with
    | true => exact fx_args_eq l (i + 2) _
    | false => exact fx_args_eq l (i + 1) _
section FX2
variable {G : ev_G} {PG : List ev_M} {fin : Option ev_A → ev_Q → Bool}
noncomputable def fx_add (M : ev_M) (pc' : Nat) : Option ev_K := fx_fN pc' fun pc' => some fun lv st bc bs fs h sg K => List.rec false (fun y r0 _ => List.rec false (fun x r _ => Bool.rec false (fx_fI (x.2.1 + y.2.1) fun l => fx_fI (x.2.2 + y.2.2) fun u => Bool.rec (K ((M, pc', lv, ev_tI :: r, bc, bs) :: fs, h, sg)) (K ((M, pc', lv, (0, l, u) :: r, bc, bs) :: fs, h, sg)) (fx_and (fx_le (-2147483648) l) (fx_le u 2147483647))) (fx_and (Nat.beq x.1 0) (Nat.beq y.1 0))) r0) st
noncomputable def fx_sub (M : ev_M) (pc' : Nat) : Option ev_K := fx_fN pc' fun pc' => some fun lv st bc bs fs h sg K => List.rec false (fun y r0 _ => List.rec false (fun x r _ => Bool.rec false (fx_fI (x.2.1 - y.2.2) fun l => fx_fI (x.2.2 - y.2.1) fun u => Bool.rec (K ((M, pc', lv, ev_tI :: r, bc, bs) :: fs, h, sg)) (K ((M, pc', lv, (0, l, u) :: r, bc, bs) :: fs, h, sg)) (fx_and (fx_le (-2147483648) l) (fx_le u 2147483647))) (fx_and (Nat.beq x.1 0) (Nat.beq y.1 0))) r0) st
theorem fx_add_ok {M : ev_M} {pc : Nat} {E : ev_E} (hat : ev_at M pc = some E) (hi : E.1 = .iadd) (hl : E.2.1 = 1) : fx_ok G PG fin M pc (fx_add M (pc + 1)) := by
  intro F hF lv st bc bs fs h sg K hK
  unfold fx_add at hF
  rw [fx_fN_eq] at hF
  cases hF
  dsimp only at hK
  cases st with
  | nil => cases hK
  | cons y r0 =>
    cases r0 with
    | nil => cases hK
    | cons x r =>
      obtain ⟨t2, l2, h2⟩ := y
      obtain ⟨t1, l1, h1⟩ := x
      dsimp only at hK
      cases ht : fx_and (Nat.beq t1 0) (Nat.beq t2 0) with
      | false => rw [ht] at hK; cases hK
      | true =>
        rw [ht] at hK
        dsimp only at hK
        rw [fx_and_eq, fx_beq, fx_beq] at ht
        rw [fx_fI_eq, fx_fI_eq, fx_and_eq, fx_le_eq, fx_le_eq] at hK
        refine fx_pure_ok (lv' := lv) (st' := ev_add l1 h1 l2 h2 :: r) hat ?_ ?_
        · rw [hi, hl]
          simp only [ev_pure, ev_op2, ht, if_true]
        · rw [hl]
          unfold ev_add
          by_cases hq : -2147483648 ≤ l1 + l2 ∧ h1 + h2 ≤ 2147483647
          · rw [if_pos hq]
            have : (decide (-2147483648 ≤ l1 + l2) && decide (h1 + h2 ≤ 2147483647)) = true := by simp [hq]
            rw [this] at hK
            exact hK
          · rw [if_neg hq]
            have : (decide (-2147483648 ≤ l1 + l2) && decide (h1 + h2 ≤ 2147483647)) = false := by
              rw [Bool.eq_false_iff]; intro e; rw [Bool.and_eq_true, decide_eq_true_eq, decide_eq_true_eq] at e; exact hq e
            rw [this] at hK
            exact hK
theorem fx_sub_ok {M : ev_M} {pc : Nat} {E : ev_E} (hat : ev_at M pc = some E) (hi : E.1 = .isub) (hl : E.2.1 = 1) : fx_ok G PG fin M pc (fx_sub M (pc + 1)) := by
  intro F hF lv st bc bs fs h sg K hK
  unfold fx_sub at hF
  rw [fx_fN_eq] at hF
  cases hF
  dsimp only at hK
  cases st with
  | nil => cases hK
  | cons y r0 =>
    cases r0 with
    | nil => cases hK
    | cons x r =>
      obtain ⟨t2, l2, h2⟩ := y
      obtain ⟨t1, l1, h1⟩ := x
      dsimp only at hK
      cases ht : fx_and (Nat.beq t1 0) (Nat.beq t2 0) with
      | false => rw [ht] at hK; cases hK
      | true =>
        rw [ht] at hK
        dsimp only at hK
        rw [fx_and_eq, fx_beq, fx_beq] at ht
        rw [fx_fI_eq, fx_fI_eq, fx_and_eq, fx_le_eq, fx_le_eq] at hK
        refine fx_pure_ok (lv' := lv) (st' := ev_sub l1 h1 l2 h2 :: r) hat ?_ ?_
        · rw [hi, hl]
          simp only [ev_pure, ev_op2, ht, if_true]
        · rw [hl]
          unfold ev_sub
          by_cases hq : -2147483648 ≤ l1 - h2 ∧ h1 - l2 ≤ 2147483647
          · rw [if_pos hq]
            have : (decide (-2147483648 ≤ l1 - h2) && decide (h1 - l2 ≤ 2147483647)) = true := by simp [hq]
            rw [this] at hK
            exact hK
          · rw [if_neg hq]
            have : (decide (-2147483648 ≤ l1 - h2) && decide (h1 - l2 ≤ 2147483647)) = false := by
              rw [Bool.eq_false_iff]; intro e; rw [Bool.and_eq_true, decide_eq_true_eq, decide_eq_true_eq] at e; exact hq e
            rw [this] at hK
            exact hK
/-- a value of one slot into a local -/
noncomputable def fx_st (M : ev_M) (pc' i : Nat) (ok : Nat → Bool) : Option ev_K := fx_fN pc' fun pc' => fx_fN i fun i => some fun lv st bc bs fs h sg K => List.rec false (fun a r _ => Bool.rec false (fx_flt i lv fun lv => K ((M, pc', (i, a) :: lv, r, bc, bs) :: fs, h, sg)) (ok a.1)) st
theorem fx_st_ok {M : ev_M} {pc i : Nat} {E : ev_E} {ok : Nat → Bool} (hat : ev_at M pc = some E) (hp : ∀ lv a r, ok a.1 = true → ev_pure (ev_mL M) E.1 lv (a :: r) = some (E.2.1, ev_put1 lv i a, r)) : fx_ok G PG fin M pc (fx_st M (pc + E.2.1) i ok) := by
  intro F hF lv st bc bs fs h sg K hK
  unfold fx_st at hF
  rw [fx_fN_eq, fx_fN_eq] at hF
  cases hF
  dsimp only at hK
  cases st with
  | nil => cases hK
  | cons a r =>
    dsimp only at hK
    cases ho : ok a.1 with
    | false => rw [ho] at hK; cases hK
    | true =>
      rw [ho] at hK
      dsimp only at hK
      rw [fx_flt_eq] at hK
      exact fx_pure_ok hat (hp lv a r ho) hK
noncomputable def fx_inc (M : ev_M) (pc' i : Nat) (n : Int) : Option ev_K := fx_fN pc' fun pc' => fx_fN i fun i => fx_fI n fun n => some fun lv st bc bs fs h sg K => Option.rec false (fun a => Bool.rec false (fx_fI (a.2.1 + n) fun l => fx_fI (a.2.2 + n) fun u => Bool.rec (fx_flt i lv fun lv => K ((M, pc', (i, ev_tI) :: lv, st, bc, bs) :: fs, h, sg)) (fx_flt i lv fun lv => K ((M, pc', (i, (0, l, u)) :: lv, st, bc, bs) :: fs, h, sg)) (fx_and (fx_le (-2147483648) l) (fx_le u 2147483647))) (Nat.beq a.1 0)) (fx_look lv i)
theorem fx_inc_ok {M : ev_M} {pc i : Nat} {E : ev_E} {n : Int} (hat : ev_at M pc = some E) (hi : E.1 = .iinc i n) (hl : E.2.1 = 3) (hn : i < ev_mL M) : fx_ok G PG fin M pc (fx_inc M (pc + 3) i (Int32.ofInt n).toInt) := by
  intro F hF lv st bc bs fs h sg K hK
  unfold fx_inc at hF
  rw [fx_fN_eq, fx_fN_eq, fx_fI_eq] at hF
  cases hF
  dsimp only at hK
  rw [fx_look_eq] at hK
  cases hlk : ev_look lv i with
  | none => rw [hlk] at hK; cases hK
  | some a =>
    rw [hlk] at hK
    obtain ⟨t, l1, h1⟩ := a
    dsimp only at hK
    cases ht : Nat.beq t 0 with
    | false => rw [ht] at hK; cases hK
    | true =>
      rw [ht] at hK
      dsimp only at hK
      rw [fx_beq] at ht
      rw [fx_fI_eq, fx_fI_eq, fx_and_eq, fx_le_eq, fx_le_eq, fx_flt_eq, fx_flt_eq] at hK
      refine fx_pure_ok (lv' := ev_put1 lv i (ev_add l1 h1 (Int32.ofInt n).toInt (Int32.ofInt n).toInt)) (st' := st) hat ?_ ?_
      · rw [hi, hl]
        simp only [ev_pure, ev_inc, hlk, ht, hn, decide_true, Bool.and_self, if_true]
      · rw [hl]
        unfold ev_add ev_put1
        by_cases hq : -2147483648 ≤ l1 + (Int32.ofInt n).toInt ∧ h1 + (Int32.ofInt n).toInt ≤ 2147483647
        · rw [if_pos hq]
          have : (decide (-2147483648 ≤ l1 + (Int32.ofInt n).toInt) && decide (h1 + (Int32.ofInt n).toInt ≤ 2147483647)) = true := by rw [Bool.and_eq_true, decide_eq_true_eq, decide_eq_true_eq]; exact hq
          rw [this] at hK
          exact hK
        · rw [if_neg hq]
          have : (decide (-2147483648 ≤ l1 + (Int32.ofInt n).toInt) && decide (h1 + (Int32.ofInt n).toInt ≤ 2147483647)) = false := by
            rw [Bool.eq_false_iff]; intro e; rw [Bool.and_eq_true, decide_eq_true_eq, decide_eq_true_eq] at e; exact hq e
          rw [this] at hK
          exact hK
noncomputable def fx_cgk (c : ev_C) (j : Nat) (k : ev_A → Bool) : Bool := Option.rec (k c.2.2.1) (fun a => k a) (fx_look c.2.2.2 j)
theorem fx_cgk_eq (c : ev_C) (j : Nat) (k : ev_A → Bool) : fx_cgk c j k = k (ev_cg c j) := by
  unfold fx_cgk ev_cg
  rw [fx_look_eq]
  cases ev_look c.2.2.2 j <;> rfl
noncomputable def fx_get (M : ev_M) (pc' u v : Nat) : Option ev_K := fx_fN pc' fun pc' => fx_fN u fun u => fx_fN v fun v => some fun lv st bc bs fs h sg K => List.rec false (fun a r _ => Bool.rec false (Option.rec false (fun c => Bool.rec false (fx_cgk c v fun x => K ((M, pc', lv, x :: r, bc, bs) :: fs, h, sg)) (Nat.beq c.1 u)) (fx_hg h (fx_tn a.2.1))) (Nat.beq a.1 2)) st
theorem fx_get_ok {M : ev_M} {pc idx : Nat} {E : ev_E} (hat : ev_at M pc = some E) (hi : E.1 = .getfield idx) (hl : E.2.1 = 3) : fx_ok G PG fin M pc (fx_get M (pc + 3) E.2.2.1 E.2.2.2.1) := by
  intro F hF lv st bc bs fs h sg K hK
  unfold fx_get at hF
  rw [fx_fN_eq, fx_fN_eq, fx_fN_eq] at hF
  cases hF
  dsimp only at hK
  cases st with
  | nil => cases hK
  | cons a r =>
    obtain ⟨t, z, z'⟩ := a
    dsimp only at hK
    cases ht : Nat.beq t 2 with
    | false => rw [ht] at hK; cases hK
    | true =>
      rw [ht] at hK
      dsimp only at hK
      rw [fx_beq] at ht
      rw [fx_hg_eq, fx_tn_eq] at hK
      cases hc : ev_hg h z.toNat with
      | none => rw [hc] at hK; cases hK
      | some c =>
        rw [hc] at hK
        dsimp only at hK
        cases hu : Nat.beq c.1 E.2.2.1 with
        | false => rw [hu] at hK; cases hK
        | true =>
          rw [hu] at hK
          dsimp only at hK
          rw [fx_cgk_eq] at hK
          rw [fx_beq] at hu
          refine fx_hp_ok (q := (h, sg, ev_cg c E.2.2.2.1 :: r, bc, bs)) hat (by rw [hi]; rfl) (by rw [hi]; rfl) ?_ ?_
          · unfold ev_hp
            rw [hi]
            dsimp only
            rw [hl]
            simp only [ev_hget, ht, hc, hu, beq_self_eq_true, if_true]
          · rw [hl]; exact hK
end FX2
end
section
section FX3
variable (G : ev_G) (PG : List ev_M) (fin : Option ev_A → ev_Q → Bool)
/-- an int back to the caller -/
noncomputable def fx_ret (ok : ev_A → Bool) : Option ev_K := some fun _ st _ _ fs h sg K => List.rec false (fun a r _ => List.rec (Bool.rec false (List.rec (fin (some a) h) (fun f2 fs2 _ => Prod.rec (fun M2 r1 => Prod.rec (fun pc2 r2 => Prod.rec (fun lv2 r3 => Prod.rec (fun st2 r4 => Prod.rec (fun bc2 bs2 => K ((M2, pc2, lv2, a :: st2, bc2, bs2) :: fs2, h, sg)) r4) r3) r2) r1) f2) fs) (ok a)) (fun _ _ _ => false) r) st
variable {G PG fin}
theorem fx_ret_ok {M : ev_M} {pc : Nat} {E : ev_E} {ok : ev_A → Bool} (hat : ev_at M pc = some E) (hl : E.2.1 = 1) (hp : ∀ lv st, ev_pure (ev_mL M) E.1 lv st = none) (hb : ∀ st, ev_br pc E.2.1 E.1 st = none) (hh : ∀ h sg st bc bs, ev_hp G M E h sg st bc bs = none) (hr : ∀ a, ok a = true → ev_rok E M [a] = some (some a)) : fx_ok G PG fin M pc (fx_ret fin ok) := by
  intro F hF lv st bc bs fs h sg K hK
  cases hF
  cases st with
  | nil => cases hK
  | cons a r =>
    cases r with
    | cons a2 r2 => cases hK
    | nil =>
      dsimp only at hK
      cases ho : ok a with
      | false => rw [ho] at hK; cases hK
      | true =>
        rw [ho] at hK
        dsimp only at hK
        unfold ev_nk ev_next
        dsimp only
        rw [hat]
        dsimp only
        rw [hp]
        dsimp only
        rw [hb]
        dsimp only
        rw [hh]
        dsimp only
        rw [hr a ho]
        dsimp only
        rw [hl]
        cases fs with
        | nil =>
          have hK : fin (some a) h = true := hK
          simp [ev_back, hK]
        | cons f2 fs2 =>
          obtain ⟨M2, pc2, lv2, st2, bc2, bs2⟩ := f2
          have hK : K ((M2, pc2, lv2, a :: st2, bc2, bs2) :: fs2, h, sg) = true := hK
          simp [ev_back, hK]
variable (G PG fin)
/-- an element at a known place of an array of ints -/
noncomputable def fx_ald (M : ev_M) (pc pc' : Nat) : Option ev_K := fx_fN pc' fun pc' => some fun lv st bc bs fs h sg K => List.rec false (fun x r0 _ => List.rec false (fun y r _ => Bool.rec (ev_nk G PG fin ((M, pc, lv, st, bc, bs) :: fs, h, sg) K) (Option.rec false (fun c => Bool.rec false (fx_cgk c (fx_tn x.2.1) fun v => K ((M, pc', lv, v :: r, bc, bs) :: fs, h, sg)) (fx_and (fx_and (Nat.beq c.1 100) (Nat.ble (Nat.succ (fx_tn x.2.1)) c.2.1)) (fx_and (fx_and (Nat.beq x.1 0) (fx_eq x.2.1 x.2.2)) (fx_le 0 x.2.1)))) (fx_hg h (fx_tn y.2.1))) (Nat.beq y.1 2)) r0) st
noncomputable def fx_len (M : ev_M) (pc pc' : Nat) : Option ev_K := fx_fN pc' fun pc' => some fun lv st bc bs fs h sg K => List.rec false (fun y r _ => Bool.rec (ev_nk G PG fin ((M, pc, lv, st, bc, bs) :: fs, h, sg) K) (Option.rec false (fun c => Bool.rec false (K ((M, pc', lv, (0, Int.ofNat c.2.1, Int.ofNat c.2.1) :: r, bc, bs) :: fs, h, sg)) (fx_and (Nat.ble 100 c.1) (Nat.ble c.2.1 60000))) (fx_hg h (fx_tn y.2.1))) (Nat.beq y.1 2)) st
variable {G PG fin}
theorem fx_len_ok {M : ev_M} {pc : Nat} {E : ev_E} (hat : ev_at M pc = some E) (hi : E.1 = .arraylength) (hl : E.2.1 = 1) : fx_ok G PG fin M pc (fx_len G PG fin M pc (pc + 1)) := by
  intro F hF lv st bc bs fs h sg K hK
  unfold fx_len at hF
  rw [fx_fN_eq] at hF
  cases hF
  dsimp only at hK
  cases st with
  | nil => cases hK
  | cons y r =>
    obtain ⟨t, z, z'⟩ := y
    dsimp only at hK
    cases ht : Nat.beq t 2 with
    | false => rw [ht] at hK; exact hK
    | true =>
      rw [ht] at hK
      dsimp only at hK
      rw [fx_beq] at ht
      rw [fx_hg_eq, fx_tn_eq] at hK
      cases hc : ev_hg h z.toNat with
      | none => rw [hc] at hK; cases hK
      | some c =>
        rw [hc] at hK
        dsimp only at hK
        cases hu : fx_and (Nat.ble 100 c.1) (Nat.ble c.2.1 60000) with
        | false => rw [hu] at hK; cases hK
        | true =>
          rw [hu] at hK
          dsimp only at hK
          rw [fx_and_eq, Bool.and_eq_true, Nat.ble_eq, Nat.ble_eq] at hu
          refine fx_hp_ok (q := (h, sg, ev_I c.2.1 :: r, bc, bs)) hat (by rw [hi]; rfl) (by rw [hi]; rfl) ?_ ?_
          · unfold ev_hp
            rw [hi]
            dsimp only
            rw [hl]
            simp only [ev_hlen, ht, hc, hu, and_self, beq_self_eq_true, if_true]
          · rw [hl]; exact hK
theorem fx_ald_ok {M : ev_M} {pc : Nat} {E : ev_E} (hat : ev_at M pc = some E) (hi : E.1 = .iaload) (hl : E.2.1 = 1) (hG : ev_nth G.2.1 0 = some .int) : fx_ok G PG fin M pc (fx_ald G PG fin M pc (pc + 1)) := by
  intro F hF lv st bc bs fs h sg K hK
  unfold fx_ald at hF
  rw [fx_fN_eq] at hF
  cases hF
  dsimp only at hK
  cases st with
  | nil => cases hK
  | cons x r0 =>
    cases r0 with
    | nil => cases hK
    | cons y r =>
      obtain ⟨tx, l1, h1⟩ := x
      obtain ⟨t, z, z'⟩ := y
      dsimp only at hK
      cases ht : Nat.beq t 2 with
      | false => rw [ht] at hK; exact hK
      | true =>
        rw [ht] at hK
        dsimp only at hK
        rw [fx_beq] at ht
        rw [fx_hg_eq, fx_tn_eq z] at hK
        cases hc : ev_hg h z.toNat with
        | none => rw [hc] at hK; cases hK
        | some c =>
          rw [hc] at hK
          dsimp only at hK
          cases hu : fx_and (fx_and (Nat.beq c.1 100) (Nat.ble (Nat.succ (fx_tn l1)) c.2.1)) (fx_and (fx_and (Nat.beq tx 0) (fx_eq l1 h1)) (fx_le 0 l1)) with
          | false => rw [hu] at hK; cases hK
          | true =>
            rw [hu] at hK
            dsimp only at hK
            rw [fx_cgk_eq, fx_tn_eq] at hK
            rw [fx_and_eq, fx_and_eq, fx_and_eq, fx_and_eq, fx_beq, fx_beq, fx_eq_eq, fx_le_eq, fx_tn_eq] at hu
            simp only [Bool.and_eq_true, beq_iff_eq, decide_eq_true_eq, Nat.ble_eq] at hu
            obtain ⟨⟨u1, u2⟩, ⟨u3, u4⟩, u5⟩ := hu
            subst u3
            subst u4
            have hidx : ev_idx (0, l1, l1) = some l1.toNat := by simp [ev_idx, u5]
            have hald : ev_hald G ev_tyI h sg ((0, l1, l1) :: (t, z, z') :: r) bc bs = some [(h, sg, ev_cg c l1.toNat :: r, bc, bs)] := by
              unfold ev_hald
              dsimp only
              rw [hidx]
              dsimp only
              rw [ht]
              simp only [if_true]
              rw [hc]
              dsimp only
              rw [u1, hG]
              rw [if_pos ⟨Nat.le_refl _, u2, rfl⟩]
            refine fx_hp_ok (q := (h, sg, ev_cg c l1.toNat :: r, bc, bs)) hat (by rw [hi]; rfl) (by rw [hi]; rfl) ?_ ?_
            · unfold ev_hp
              rw [hi]
              dsimp only
              rw [hl]
              simp only [beq_self_eq_true, if_true]
              rw [hald]
              rfl
            · rw [hl]; exact hK
/-- a method of an object is called -/
noncomputable def fx_cv (M M' : ev_M) (pc' v P Y S Lm : Nat) (big : Bool) : Option ev_K := fx_fN pc' fun pc' => fx_fN v fun v => fx_fN P fun P => fx_fN Y fun Y => fx_fN S fun S => fx_fN Lm fun Lm => some fun lv st bc bs fs h sg K => fx_tk (Nat.succ P) st [] fun as r => List.rec false (fun a _ _ => Bool.rec false (Option.rec false (fun c => Bool.rec false (Bool.rec false (fx_args as 0 fun lv0 => fx_fN (bc - Y) fun bc1 => fx_fN (bs - S) fun bs1 => K ((M', 0, lv0, [], Y, S) :: (M, pc', lv, r, bc1, bs1) :: fs, h, sg)) (fx_and (fx_and (Nat.ble (fx_sz as) Lm) (Nat.ble (fx_sz r) 8)) (fx_and (Nat.ble Y bc) (Nat.ble S bs)))) (Nat.beq c.1 v)) (fx_hg h (fx_tn a.2.1))) (fx_and big (Nat.beq a.1 2))) as
theorem fx_cv_ok {M M' : ev_M} {pc idx : Nat} {E : ev_E} {big : Bool} (hat : ev_at M pc = some E) (hi : E.1 = .invokevirtual idx) (hM : ev_nth PG E.2.2.1 = some M') (hbig : big = (E.2.1 == 3 && ev_mK M' == 1 && decide (ev_mF M' + 1 ≤ ev_mF M) && decide (8 + (ev_mL M' + 11) + ev_mO M' ≤ ev_mO M))) : fx_ok G PG fin M pc (fx_cv M M' (pc + 3) E.2.2.2.1 (ev_mP M') (ev_mY M') (ev_mS M') (ev_mL M') big) := by
  intro F hF lv st bc bs fs h sg K hK
  unfold fx_cv at hF
  rw [fx_fN_eq, fx_fN_eq, fx_fN_eq, fx_fN_eq, fx_fN_eq, fx_fN_eq] at hF
  cases hF
  obtain ⟨hlen, hK⟩ := fx_tk_ok _ _ _ _ hK
  rw [List.append_nil] at hK
  have hlen2 : (st.take (ev_mP M' + 1)).reverse.length = ev_mP M' + 1 := by
    rw [List.length_reverse, List.length_take]; omega
  generalize has : (st.take (ev_mP M' + 1)).reverse = as at hK hlen2
  generalize hrr : st.drop (ev_mP M' + 1) = r at hK
  have hrr' : List.drop (ev_mP M').succ st = r := hrr
  try rw [hrr'] at hK
  cases as with
  | nil => cases hK
  | cons a as' =>
    obtain ⟨t, z, z'⟩ := a
    dsimp only at hK
    cases ht : fx_and big (Nat.beq t 2) with
    | false => rw [ht] at hK; cases hK
    | true =>
      rw [ht] at hK
      dsimp only at hK
      rw [fx_and_eq, Bool.and_eq_true, fx_beq] at ht
      rw [fx_hg_eq, fx_tn_eq] at hK
      cases hc : ev_hg h z.toNat with
      | none => rw [hc] at hK; cases hK
      | some c =>
        rw [hc] at hK
        dsimp only at hK
        cases hv : Nat.beq c.1 E.2.2.2.1 with
        | false => rw [hv] at hK; cases hK
        | true =>
          rw [hv] at hK
          dsimp only at hK
          rw [fx_beq] at hv
          cases hu : fx_and (fx_and (Nat.ble (fx_sz ((t, z, z') :: as')) (ev_mL M')) (Nat.ble (fx_sz r) 8)) (fx_and (Nat.ble (ev_mY M') bc) (Nat.ble (ev_mS M') bs)) with
          | false => rw [hu] at hK; cases hK
          | true =>
            rw [hu] at hK
            dsimp only at hK
            rw [fx_args_eq, fx_fN_eq, fx_fN_eq] at hK
            rw [fx_and_eq, fx_and_eq, fx_and_eq, fx_sz_eq, fx_sz_eq] at hu
            simp only [Bool.and_eq_true, Nat.ble_eq] at hu
            obtain ⟨⟨u1, u2⟩, u3, u4⟩ := hu
            obtain ⟨hb1, ht⟩ := ht
            rw [hbig] at hb1
            simp only [Bool.and_eq_true, decide_eq_true_eq, beq_iff_eq] at hb1
            obtain ⟨⟨⟨b1, b2⟩, b3⟩, b4⟩ := hb1
            have hok : ev_cok 1 E M M' h ((t, z, z') :: as') r bc bs = true := by
              unfold ev_cok
              simp only [ev_recv, hc, hv, ht, b1, b2, b3, b4, u1, u2, u3, u4, hlen2, Bool.and_self, decide_true, beq_self_eq_true, Bool.and_true]
              simp
            unfold ev_nk ev_next
            dsimp only
            rw [hat]
            dsimp only
            rw [hi]
            have e1 : ev_pure (ev_mL M) (.invokevirtual idx) lv st = none := rfl
            have e2 : ev_br pc E.2.1 (.invokevirtual idx) st = none := rfl
            have e3 : ev_hp G M E h sg st bc bs = none := by unfold ev_hp; rw [hi]
            have e4 : ev_rok E M st = none := by unfold ev_rok; rw [hi]
            rw [e1]
            dsimp only
            rw [e2]
            dsimp only
            rw [e3]
            dsimp only
            rw [e4]
            dsimp only
            unfold ev_cl
            rw [hM]
            have e5 : (if ((1 : Nat) == 0) = true then ev_mP M' else ev_mP M' + 1) = ev_mP M' + 1 := rfl
            dsimp only
            rw [e5, has, hrr, hok]
            simp only [if_true]
            rw [if_pos (by omega)]
            simp [hK]
end FX3
end
section
section FX4
variable (G : ev_G) (PG : List ev_M) (fin : Option ev_A → ev_Q → Bool)
def fx_t0 (t : Nat) : Bool := Nat.beq t 0
def fx_t1 (t : Nat) : Bool := Nat.beq t 1
def fx_tA (t : Nat) : Bool := Nat.ble 2 t
noncomputable def fx_rI (a : ev_A) : Bool := Nat.beq a.1 0
noncomputable def fx_rZ (a : ev_A) : Bool := fx_and (Nat.beq a.1 0) (fx_and (fx_le 0 a.2.1) (fx_le a.2.2 1))
/-- the handler of an instruction -/
noncomputable def fx_sel (M : ev_M) (pc : Nat) (E : ev_E) : Option ev_K := match E.1 with
  | .iconst n => if E.2.1 = 1 then fx_const M (pc + E.2.1) (Int32.ofInt n).toInt else fx_slow G PG fin M pc
  | .bipush n => if E.2.1 = 2 then fx_const M (pc + E.2.1) (Int8.ofInt n).toInt32.toInt else fx_slow G PG fin M pc
  | .sipush n => if E.2.1 = 3 then fx_const M (pc + E.2.1) (Int16.ofInt n).toInt32.toInt else fx_slow G PG fin M pc
  | .iload_n k => if E.2.1 = 1 then fx_ld M (pc + E.2.1) (k : Nat) fx_t0 else fx_slow G PG fin M pc
  | .iload i => if E.2.1 = 2 then fx_ld M (pc + E.2.1) i fx_t0 else fx_slow G PG fin M pc
  | .lload_n k => if E.2.1 = 1 then fx_ld M (pc + E.2.1) (k : Nat) fx_t1 else fx_slow G PG fin M pc
  | .lload i => if E.2.1 = 2 then fx_ld M (pc + E.2.1) i fx_t1 else fx_slow G PG fin M pc
  | .aload_n k => if E.2.1 = 1 then fx_ld M (pc + E.2.1) (k : Nat) fx_tA else fx_slow G PG fin M pc
  | .aload i => if E.2.1 = 2 then fx_ld M (pc + E.2.1) i fx_tA else fx_slow G PG fin M pc
  | .istore_n k => if E.2.1 = 1 ∧ (k : Nat) < ev_mL M then fx_st M (pc + E.2.1) (k : Nat) fx_t0 else fx_slow G PG fin M pc
  | .istore i => if E.2.1 = 2 ∧ i < ev_mL M then fx_st M (pc + E.2.1) i fx_t0 else fx_slow G PG fin M pc
  | .astore_n k => if E.2.1 = 1 ∧ (k : Nat) < ev_mL M then fx_st M (pc + E.2.1) (k : Nat) fx_tA else fx_slow G PG fin M pc
  | .astore i => if E.2.1 = 2 ∧ i < ev_mL M then fx_st M (pc + E.2.1) i fx_tA else fx_slow G PG fin M pc
  | .iinc i n => if E.2.1 = 3 ∧ i < ev_mL M then fx_inc M (pc + 3) i (Int32.ofInt n).toInt else fx_slow G PG fin M pc
  | .iadd => if E.2.1 = 1 then fx_add M (pc + 1) else fx_slow G PG fin M pc
  | .isub => if E.2.1 = 1 then fx_sub M (pc + 1) else fx_slow G PG fin M pc
  | .goto off => if E.2.1 = 3 ∧ 0 ≤ (pc : Int) + off then fx_goto M ((pc : Int) + off).toNat else fx_slow G PG fin M pc
  | .ifCond cd off => if E.2.1 = 3 ∧ 0 ≤ (pc : Int) + off then fx_b1 M ((pc : Int) + off).toNat (pc + 3) cd else fx_slow G PG fin M pc
  | .if_icmp cd off => if E.2.1 = 3 ∧ 0 ≤ (pc : Int) + off then fx_b2 M ((pc : Int) + off).toNat (pc + 3) cd else fx_slow G PG fin M pc
  | .getfield _ => if E.2.1 = 3 then fx_get M (pc + 3) E.2.2.1 E.2.2.2.1 else fx_slow G PG fin M pc
  | .arraylength => if E.2.1 = 1 then fx_len G PG fin M pc (pc + 1) else fx_slow G PG fin M pc
  | .iaload => if E.2.1 = 1 ∧ ev_nth G.2.1 0 = some .int then fx_ald G PG fin M pc (pc + 1) else fx_slow G PG fin M pc
  | .ireturn => if E.2.1 = 1 ∧ ev_mR M = some .int then fx_ret fin fx_rI else if E.2.1 = 1 ∧ ev_mR M = some .boolean then fx_ret fin fx_rZ else fx_slow G PG fin M pc
  | .invokevirtual _ => (match ev_nth PG E.2.2.1 with
    | some M' => fx_cv M M' (pc + 3) E.2.2.2.1 (ev_mP M') (ev_mY M') (ev_mS M') (ev_mL M') (E.2.1 == 3 && ev_mK M' == 1 && decide (ev_mF M' + 1 ≤ ev_mF M) && decide (8 + (ev_mL M' + 11) + ev_mO M' ≤ ev_mO M))
    | none => none)
  | _ => fx_slow G PG fin M pc
noncomputable def fx_h (M : ev_M) (pc : Nat) : Option ev_K := match ev_at M pc with
  | some E => fx_sel G PG fin M pc E
  | none => none
noncomputable def fx_step (S : ev_S) (K : ev_S → Bool) : Bool := Prod.rec (fun frs q => Prod.rec (fun h sg => List.rec false (fun f fs _ => Prod.rec (fun M r1 => Prod.rec (fun pc r2 => Prod.rec (fun lv r3 => Prod.rec (fun st r4 => Prod.rec (fun bc bs => Option.rec false (fun F => F lv st bc bs fs h sg K) (fx_h G PG fin M pc)) r4) r3) r2) r1) f) frs) q) S
noncomputable def fx_run (stop : ev_S → Bool) (n : Nat) : ev_S → Bool := Nat.rec (fun _ => false) (fun _ ih S => Bool.rec (fx_step G PG fin S ih) true (stop S)) n
variable {G PG fin}
theorem fx_sel_ok {M : ev_M} {pc : Nat} {E : ev_E} (hat : ev_at M pc = some E) : fx_ok G PG fin M pc (fx_sel G PG fin M pc E) := by
  have hs := fx_slow_ok G PG fin M pc
  have hA : ∀ {a : ev_A}, fx_tA a.1 = true → (a.1 == 0 || a.1 == 1) = false := by
    intro a h
    have : 2 ≤ a.1 := by simpa [fx_tA, Nat.ble_eq] using h
    rw [Bool.or_eq_false_iff]
    exact ⟨by simp; omega, by simp; omega⟩
  have h0 : ∀ {a : ev_A}, fx_t0 a.1 = true → (a.1 == 0) = true := fun h => by rw [← fx_beq]; exact h
  have h1 : ∀ {a : ev_A}, fx_t1 a.1 = true → (a.1 == 1) = true := fun h => by rw [← fx_beq]; exact h
  unfold fx_sel
  split
  · rename_i n hi
    split
    · rename_i hl; exact fx_const_ok hat (fun lv st => by rw [hi, hl]; rfl)
    · exact hs
  · rename_i n hi
    split
    · rename_i hl; exact fx_const_ok hat (fun lv st => by rw [hi, hl]; rfl)
    · exact hs
  · rename_i n hi
    split
    · rename_i hl; exact fx_const_ok hat (fun lv st => by rw [hi, hl]; rfl)
    · exact hs
  · rename_i k hi
    split
    · rename_i hl; exact fx_ld_ok hat (fun lv st a q1 q2 => by rw [hi, hl]; simp only [ev_pure, ev_ldI, q1, h0 q2, if_true])
    · exact hs
  · rename_i k hi
    split
    · rename_i hl; exact fx_ld_ok hat (fun lv st a q1 q2 => by rw [hi, hl]; simp only [ev_pure, ev_ldI, q1, h0 q2, if_true])
    · exact hs
  · rename_i k hi
    split
    · rename_i hl; exact fx_ld_ok hat (fun lv st a q1 q2 => by rw [hi, hl]; simp only [ev_pure, ev_ldL, q1, h1 q2, if_true])
    · exact hs
  · rename_i k hi
    split
    · rename_i hl; exact fx_ld_ok hat (fun lv st a q1 q2 => by rw [hi, hl]; simp only [ev_pure, ev_ldL, q1, h1 q2, if_true])
    · exact hs
  · rename_i k hi
    split
    · rename_i hl; exact fx_ld_ok hat (fun lv st a q1 q2 => by rw [hi, hl]; simp only [ev_pure, ev_ldA, q1, hA q2, Bool.false_eq_true, if_false])
    · exact hs
  · rename_i k hi
    split
    · rename_i hl; exact fx_ld_ok hat (fun lv st a q1 q2 => by rw [hi, hl]; simp only [ev_pure, ev_ldA, q1, hA q2, Bool.false_eq_true, if_false])
    · exact hs
  · rename_i k hi
    split
    · rename_i hl; exact fx_st_ok hat (fun lv a r q => by rw [hi, hl.1]; simp only [ev_pure, ev_stI, h0 q, hl.2, decide_true, Bool.and_self, if_true])
    · exact hs
  · rename_i k hi
    split
    · rename_i hl; exact fx_st_ok hat (fun lv a r q => by rw [hi, hl.1]; simp only [ev_pure, ev_stI, h0 q, hl.2, decide_true, Bool.and_self, if_true])
    · exact hs
  · rename_i k hi
    split
    · rename_i hl; exact fx_st_ok hat (fun lv a r q => by rw [hi, hl.1]; simp only [ev_pure, ev_stA, hA q, hl.2, decide_true, Bool.not_false, Bool.and_self, if_true])
    · exact hs
  · rename_i k hi
    split
    · rename_i hl; exact fx_st_ok hat (fun lv a r q => by rw [hi, hl.1]; simp only [ev_pure, ev_stA, hA q, hl.2, decide_true, Bool.not_false, Bool.and_self, if_true])
    · exact hs
  · rename_i i n hi
    split
    · rename_i hl; exact fx_inc_ok hat hi hl.1 hl.2
    · exact hs
  · rename_i hi
    split
    · rename_i hl; exact fx_add_ok hat hi hl
    · exact hs
  · rename_i hi
    split
    · rename_i hl; exact fx_sub_ok hat hi hl
    · exact hs
  · rename_i off hi
    split
    · rename_i hl; exact fx_goto_ok hat hi hl.1 hl.2
    · exact hs
  · rename_i cd off hi
    split
    · rename_i hl; exact fx_b1_ok hat hi hl.1 hl.2
    · exact hs
  · rename_i cd off hi
    split
    · rename_i hl; exact fx_b2_ok hat hi hl.1 hl.2
    · exact hs
  · rename_i idx hi
    split
    · rename_i hl; exact fx_get_ok hat hi hl
    · exact hs
  · rename_i hi
    split
    · rename_i hl; exact fx_len_ok hat hi hl
    · exact hs
  · rename_i hi
    split
    · rename_i hl; exact fx_ald_ok hat hi hl.1 hl.2
    · exact hs
  · rename_i hi
    have e1 : ∀ lv st, ev_pure (ev_mL M) E.1 lv st = none := fun lv st => by rw [hi]; rfl
    have e2 : ∀ st, ev_br pc E.2.1 E.1 st = none := fun st => by rw [hi]; rfl
    have e3 : ∀ h sg st bc bs, ev_hp G M E h sg st bc bs = none := fun h sg st bc bs => by unfold ev_hp; rw [hi]
    split
    · rename_i hl
      refine fx_ret_ok hat hl.1 e1 e2 e3 (fun a q => ?_)
      have q1 : (a.1 == 0) = true := by rw [← fx_beq]; exact q
      unfold ev_rok
      rw [hi, hl.2]
      simp only [ev_fs, ev_fit, q1]
      simp
    · split
      · rename_i hl
        refine fx_ret_ok hat hl.1 e1 e2 e3 (fun a q => ?_)
        unfold fx_rZ at q
        rw [fx_and_eq, fx_and_eq, fx_le_eq, fx_le_eq, fx_beq] at q
        simp only [Bool.and_eq_true, decide_eq_true_eq] at q
        unfold ev_rok
        rw [hi, hl.2]
        simp only [ev_fs, ev_fit, q.1, q.2.1, q.2.2]
        simp
      · exact hs
  · rename_i idx hi
    split
    · rename_i M' hM'
      exact fx_cv_ok hat hi hM' rfl
    · intro F hF; cases hF
  · exact hs
theorem fx_run_ok {stop : ev_S → Bool} : ∀ (n : Nat) (S : ev_S), fx_run G PG fin stop n S = true → ev_run G PG fin stop n S = true
  | 0, S, h => by cases h
  | n + 1, S, h => by
    have h : (Bool.rec (fx_step G PG fin S (fx_run G PG fin stop n)) true (stop S) : Bool) = true := h
    unfold ev_run
    cases hs : stop S with
    | true => rfl
    | false =>
      rw [hs] at h
      have h : fx_step G PG fin S (fx_run G PG fin stop n) = true := h
      obtain ⟨frs, hh, sg⟩ := S
      cases frs with
      | nil => cases h
      | cons f fs =>
        obtain ⟨M, pc, lv, st, bc, bs⟩ := f
        have h : (Option.rec false (fun F => F lv st bc bs fs hh sg (fx_run G PG fin stop n)) (fx_h G PG fin M pc) : Bool) = true := h
        cases hF : fx_h G PG fin M pc with
        | none => rw [hF] at h; cases h
        | some F =>
          rw [hF] at h
          have h : F lv st bc bs fs hh sg (fx_run G PG fin stop n) = true := h
          unfold fx_h at hF
          cases hat : ev_at M pc with
          | none => rw [hat] at hF; cases hF
          | some E =>
            rw [hat] at hF
            have q := fx_sel_ok (G := G) (PG := PG) (fin := fin) hat F hF lv st bc bs fs hh sg _ h
            unfold ev_nk at q
            simp only [Bool.false_eq_true, if_false]
            split at q
            · cases q
            · rename_i L hL
              rw [hL]
              rw [List.all_eq_true] at q ⊢
              exact fun x hx => fx_run_ok n x (q x hx)
end FX4
end
section
-- ===== PART A: goes FIRST, ahead of the names: the tables' words, and 'selects' of the private methods out of them =====
/-- a private method of a class that the tables say can be made, by its rows of tables_1 -/
def lw_okq (q : MethodName × Nat) : Prop := (q.1.cls ≠ "java/lang/invoke/MethodHandle" ∧ q.1.cls ≠ "java/lang/invoke/VarHandle") ∧ Cond.instantiable q.1.cls q.2 ∈ tables_1 ∧ Cond.privateMethod q.1 ∈ tables_1 ∧ Cond.instanceMethod q.1 ∈ tables_1
theorem lw_p0 : lw_okq (⟨"RatchetPost", "putOnTape", "(I)V"⟩, 15) := ⟨⟨by decide +kernel, by decide +kernel⟩, List.mem_of_getElem? (i := 15) (by decide +kernel), List.mem_of_getElem? (i := 304) (by decide +kernel), List.mem_of_getElem? (i := 305) (by decide +kernel)⟩
theorem lw_p1 : lw_okq (⟨"RatchetPost", "isUser", "(I)Z"⟩, 15) := ⟨⟨by decide +kernel, by decide +kernel⟩, List.mem_of_getElem? (i := 15) (by decide +kernel), List.mem_of_getElem? (i := 316) (by decide +kernel), List.mem_of_getElem? (i := 317) (by decide +kernel)⟩
theorem lw_p2 : lw_okq (⟨"RatchetPost", "arePair", "(II)Z"⟩, 15) := ⟨⟨by decide +kernel, by decide +kernel⟩, List.mem_of_getElem? (i := 15) (by decide +kernel), List.mem_of_getElem? (i := 422) (by decide +kernel), List.mem_of_getElem? (i := 423) (by decide +kernel)⟩
theorem lw_p3 : lw_okq (⟨"RatchetPost", "beginSession", "(II)I"⟩, 15) := ⟨⟨by decide +kernel, by decide +kernel⟩, List.mem_of_getElem? (i := 15) (by decide +kernel), List.mem_of_getElem? (i := 426) (by decide +kernel), List.mem_of_getElem? (i := 427) (by decide +kernel)⟩
theorem lw_p4 : lw_okq (⟨"RatchetPost", "secretOf", "(J)LRatchetPost$Secret;"⟩, 15) := ⟨⟨by decide +kernel, by decide +kernel⟩, List.mem_of_getElem? (i := 15) (by decide +kernel), List.mem_of_getElem? (i := 451) (by decide +kernel), List.mem_of_getElem? (i := 452) (by decide +kernel)⟩
theorem lw_p5 : lw_okq (⟨"RatchetPost$Turn", "isOf", "([LRatchetPost$Secret;)Z"⟩, 7) := ⟨⟨by decide +kernel, by decide +kernel⟩, List.mem_of_getElem? (i := 126) (by decide +kernel), List.mem_of_getElem? (i := 474) (by decide +kernel), List.mem_of_getElem? (i := 475) (by decide +kernel)⟩
theorem lw_p6 : lw_okq (⟨"RatchetPost$Row", "shiftInto", "(I)V"⟩, 2) := ⟨⟨by decide +kernel, by decide +kernel⟩, List.mem_of_getElem? (i := 173) (by decide +kernel), List.mem_of_getElem? (i := 617) (by decide +kernel), List.mem_of_getElem? (i := 618) (by decide +kernel)⟩
theorem lw_p7 : lw_okq (⟨"RatchetPost", "writeIn", "(LRatchetPost$Session;II)LRatchetPost$Letter;"⟩, 15) := ⟨⟨by decide +kernel, by decide +kernel⟩, List.mem_of_getElem? (i := 15) (by decide +kernel), List.mem_of_getElem? (i := 625) (by decide +kernel), List.mem_of_getElem? (i := 626) (by decide +kernel)⟩
theorem lw_p8 : lw_okq (⟨"RatchetPost", "isLetter", "(I)Z"⟩, 15) := ⟨⟨by decide +kernel, by decide +kernel⟩, List.mem_of_getElem? (i := 15) (by decide +kernel), List.mem_of_getElem? (i := 690) (by decide +kernel), List.mem_of_getElem? (i := 691) (by decide +kernel)⟩
theorem lw_p9 : lw_okq (⟨"RatchetPost", "faultAtTheDoor", "(LRatchetPost$Letter;I)I"⟩, 15) := ⟨⟨by decide +kernel, by decide +kernel⟩, List.mem_of_getElem? (i := 15) (by decide +kernel), List.mem_of_getElem? (i := 694) (by decide +kernel), List.mem_of_getElem? (i := 695) (by decide +kernel)⟩
theorem lw_p10 : lw_okq (⟨"RatchetPost$Envelope", "take", "(I)J"⟩, 16) := ⟨⟨by decide +kernel, by decide +kernel⟩, List.mem_of_getElem? (i := 25) (by decide +kernel), List.mem_of_getElem? (i := 702) (by decide +kernel), List.mem_of_getElem? (i := 703) (by decide +kernel)⟩
theorem lw_p11 : lw_okq (⟨"RatchetPost", "openWithBeginning", "(LRatchetPost$Person;)I"⟩, 15) := ⟨⟨by decide +kernel, by decide +kernel⟩, List.mem_of_getElem? (i := 15) (by decide +kernel), List.mem_of_getElem? (i := 707) (by decide +kernel), List.mem_of_getElem? (i := 708) (by decide +kernel)⟩
theorem lw_p12 : lw_okq (⟨"RatchetPost", "openIn", "(LRatchetPost$Person;I)I"⟩, 15) := ⟨⟨by decide +kernel, by decide +kernel⟩, List.mem_of_getElem? (i := 15) (by decide +kernel), List.mem_of_getElem? (i := 715) (by decide +kernel), List.mem_of_getElem? (i := 716) (by decide +kernel)⟩
theorem lw_p13 : lw_okq (⟨"RatchetPost$Opening", "countSteps", "(LRatchetPost$Session;LRatchetPost$Envelope;)I"⟩, 8) := ⟨⟨by decide +kernel, by decide +kernel⟩, List.mem_of_getElem? (i := 93) (by decide +kernel), List.mem_of_getElem? (i := 731) (by decide +kernel), List.mem_of_getElem? (i := 732) (by decide +kernel)⟩
theorem lw_p14 : lw_okq (⟨"RatchetPost$Opening", "step", "(II)V"⟩, 8) := ⟨⟨by decide +kernel, by decide +kernel⟩, List.mem_of_getElem? (i := 93) (by decide +kernel), List.mem_of_getElem? (i := 736) (by decide +kernel), List.mem_of_getElem? (i := 737) (by decide +kernel)⟩
theorem lw_p15 : lw_okq (⟨"RatchetPost$Opening", "keep", "(LRatchetPost$Session;II)V"⟩, 8) := ⟨⟨by decide +kernel, by decide +kernel⟩, List.mem_of_getElem? (i := 93) (by decide +kernel), List.mem_of_getElem? (i := 757) (by decide +kernel), List.mem_of_getElem? (i := 758) (by decide +kernel)⟩
def lw_privs_1 : List (MethodName × Nat) := [(⟨"RatchetPost", "putOnTape", "(I)V"⟩, 15), (⟨"RatchetPost", "isUser", "(I)Z"⟩, 15), (⟨"RatchetPost", "arePair", "(II)Z"⟩, 15), (⟨"RatchetPost", "beginSession", "(II)I"⟩, 15), (⟨"RatchetPost", "secretOf", "(J)LRatchetPost$Secret;"⟩, 15), (⟨"RatchetPost$Turn", "isOf", "([LRatchetPost$Secret;)Z"⟩, 7), (⟨"RatchetPost$Row", "shiftInto", "(I)V"⟩, 2), (⟨"RatchetPost", "writeIn", "(LRatchetPost$Session;II)LRatchetPost$Letter;"⟩, 15), (⟨"RatchetPost", "isLetter", "(I)Z"⟩, 15), (⟨"RatchetPost", "faultAtTheDoor", "(LRatchetPost$Letter;I)I"⟩, 15), (⟨"RatchetPost$Envelope", "take", "(I)J"⟩, 16), (⟨"RatchetPost", "openWithBeginning", "(LRatchetPost$Person;)I"⟩, 15), (⟨"RatchetPost", "openIn", "(LRatchetPost$Person;I)I"⟩, 15), (⟨"RatchetPost$Opening", "countSteps", "(LRatchetPost$Session;LRatchetPost$Envelope;)I"⟩, 8), (⟨"RatchetPost$Opening", "step", "(II)V"⟩, 8), (⟨"RatchetPost$Opening", "keep", "(LRatchetPost$Session;II)V"⟩, 8)]
theorem lw_r1 : ∀ q ∈ lw_privs_1, lw_okq q := List.forall_mem_cons.mpr ⟨lw_p0, List.forall_mem_cons.mpr ⟨lw_p1, List.forall_mem_cons.mpr ⟨lw_p2, List.forall_mem_cons.mpr ⟨lw_p3, List.forall_mem_cons.mpr ⟨lw_p4, List.forall_mem_cons.mpr ⟨lw_p5, List.forall_mem_cons.mpr ⟨lw_p6, List.forall_mem_cons.mpr ⟨lw_p7, List.forall_mem_cons.mpr ⟨lw_p8, List.forall_mem_cons.mpr ⟨lw_p9, List.forall_mem_cons.mpr ⟨lw_p10, List.forall_mem_cons.mpr ⟨lw_p11, List.forall_mem_cons.mpr ⟨lw_p12, List.forall_mem_cons.mpr ⟨lw_p13, List.forall_mem_cons.mpr ⟨lw_p14, List.forall_mem_cons.mpr ⟨lw_p15, fun _ h => absurd h List.not_mem_nil⟩⟩⟩⟩⟩⟩⟩⟩⟩⟩⟩⟩⟩⟩⟩⟩
theorem lw_p16 : lw_okq (⟨"RatchetPost", "openInNew", "(LRatchetPost$Person;)I"⟩, 15) := ⟨⟨by decide +kernel, by decide +kernel⟩, List.mem_of_getElem? (i := 15) (by decide +kernel), List.mem_of_getElem? (i := 776) (by decide +kernel), List.mem_of_getElem? (i := 777) (by decide +kernel)⟩
theorem lw_p17 : lw_okq (⟨"RatchetPost", "openWithoutBeginning", "(LRatchetPost$Person;)I"⟩, 15) := ⟨⟨by decide +kernel, by decide +kernel⟩, List.mem_of_getElem? (i := 15) (by decide +kernel), List.mem_of_getElem? (i := 807) (by decide +kernel), List.mem_of_getElem? (i := 808) (by decide +kernel)⟩
theorem lw_p18 : lw_okq (⟨"RatchetPost", "takeReading", "()V"⟩, 15) := ⟨⟨by decide +kernel, by decide +kernel⟩, List.mem_of_getElem? (i := 15) (by decide +kernel), List.mem_of_getElem? (i := 811) (by decide +kernel), List.mem_of_getElem? (i := 812) (by decide +kernel)⟩
theorem lw_p19 : lw_okq (⟨"RatchetPost$Turn", "isWorkedOut", "()Z"⟩, 7) := ⟨⟨by decide +kernel, by decide +kernel⟩, List.mem_of_getElem? (i := 126) (by decide +kernel), List.mem_of_getElem? (i := 923) (by decide +kernel), List.mem_of_getElem? (i := 924) (by decide +kernel)⟩
theorem lw_p20 : lw_okq (⟨"RatchetPost$Turn", "hasCommons", "()Z"⟩, 7) := ⟨⟨by decide +kernel, by decide +kernel⟩, List.mem_of_getElem? (i := 126) (by decide +kernel), List.mem_of_getElem? (i := 927) (by decide +kernel), List.mem_of_getElem? (i := 928) (by decide +kernel)⟩
theorem lw_p21 : lw_okq (⟨"RatchetPostModel", "isThere", "(I)Z"⟩, 87) := ⟨⟨by decide +kernel, by decide +kernel⟩, List.mem_of_getElem? (i := 941) (by decide +kernel), List.mem_of_getElem? (i := 1213) (by decide +kernel), List.mem_of_getElem? (i := 1214) (by decide +kernel)⟩
theorem lw_p22 : lw_okq (⟨"RatchetPostModel", "drawTerm", "(I)V"⟩, 87) := ⟨⟨by decide +kernel, by decide +kernel⟩, List.mem_of_getElem? (i := 941) (by decide +kernel), List.mem_of_getElem? (i := 1217) (by decide +kernel), List.mem_of_getElem? (i := 1218) (by decide +kernel)⟩
theorem lw_p23 : lw_okq (⟨"RatchetPostModel", "draw", "(I)V"⟩, 87) := ⟨⟨by decide +kernel, by decide +kernel⟩, List.mem_of_getElem? (i := 941) (by decide +kernel), List.mem_of_getElem? (i := 1221) (by decide +kernel), List.mem_of_getElem? (i := 1222) (by decide +kernel)⟩
theorem lw_p24 : lw_okq (⟨"RatchetPostModel", "term", "(IIIII)I"⟩, 87) := ⟨⟨by decide +kernel, by decide +kernel⟩, List.mem_of_getElem? (i := 941) (by decide +kernel), List.mem_of_getElem? (i := 1246) (by decide +kernel), List.mem_of_getElem? (i := 1247) (by decide +kernel)⟩
theorem lw_p25 : lw_okq (⟨"RatchetPostModel", "lend", "(I)V"⟩, 87) := ⟨⟨by decide +kernel, by decide +kernel⟩, List.mem_of_getElem? (i := 941) (by decide +kernel), List.mem_of_getElem? (i := 1250) (by decide +kernel), List.mem_of_getElem? (i := 1251) (by decide +kernel)⟩
theorem lw_p26 : lw_okq (⟨"RatchetPostModel", "onceInDirectory", "(I)I"⟩, 87) := ⟨⟨by decide +kernel, by decide +kernel⟩, List.mem_of_getElem? (i := 941) (by decide +kernel), List.mem_of_getElem? (i := 1266) (by decide +kernel), List.mem_of_getElem? (i := 1267) (by decide +kernel)⟩
theorem lw_p27 : lw_okq (⟨"RatchetPostModel", "beginNow", "(II)I"⟩, 87) := ⟨⟨by decide +kernel, by decide +kernel⟩, List.mem_of_getElem? (i := 941) (by decide +kernel), List.mem_of_getElem? (i := 1278) (by decide +kernel), List.mem_of_getElem? (i := 1279) (by decide +kernel)⟩
theorem lw_p28 : lw_okq (⟨"RatchetPostModel", "leastOnce", "(I)I"⟩, 87) := ⟨⟨by decide +kernel, by decide +kernel⟩, List.mem_of_getElem? (i := 941) (by decide +kernel), List.mem_of_getElem? (i := 1282) (by decide +kernel), List.mem_of_getElem? (i := 1283) (by decide +kernel)⟩
theorem lw_p29 : lw_okq (⟨"RatchetPostModel", "isSealRight", "(I)Z"⟩, 87) := ⟨⟨by decide +kernel, by decide +kernel⟩, List.mem_of_getElem? (i := 941) (by decide +kernel), List.mem_of_getElem? (i := 1286) (by decide +kernel), List.mem_of_getElem? (i := 1287) (by decide +kernel)⟩
theorem lw_p30 : lw_okq (⟨"RatchetPostModel", "secretOf", "(J)I"⟩, 87) := ⟨⟨by decide +kernel, by decide +kernel⟩, List.mem_of_getElem? (i := 941) (by decide +kernel), List.mem_of_getElem? (i := 1293) (by decide +kernel), List.mem_of_getElem? (i := 1294) (by decide +kernel)⟩
theorem lw_p31 : lw_okq (⟨"RatchetPostModel", "commonTerm", "(II)I"⟩, 87) := ⟨⟨by decide +kernel, by decide +kernel⟩, List.mem_of_getElem? (i := 941) (by decide +kernel), List.mem_of_getElem? (i := 1297) (by decide +kernel), List.mem_of_getElem? (i := 1298) (by decide +kernel)⟩
def lw_privs_2 : List (MethodName × Nat) := [(⟨"RatchetPost", "openInNew", "(LRatchetPost$Person;)I"⟩, 15), (⟨"RatchetPost", "openWithoutBeginning", "(LRatchetPost$Person;)I"⟩, 15), (⟨"RatchetPost", "takeReading", "()V"⟩, 15), (⟨"RatchetPost$Turn", "isWorkedOut", "()Z"⟩, 7), (⟨"RatchetPost$Turn", "hasCommons", "()Z"⟩, 7), (⟨"RatchetPostModel", "isThere", "(I)Z"⟩, 87), (⟨"RatchetPostModel", "drawTerm", "(I)V"⟩, 87), (⟨"RatchetPostModel", "draw", "(I)V"⟩, 87), (⟨"RatchetPostModel", "term", "(IIIII)I"⟩, 87), (⟨"RatchetPostModel", "lend", "(I)V"⟩, 87), (⟨"RatchetPostModel", "onceInDirectory", "(I)I"⟩, 87), (⟨"RatchetPostModel", "beginNow", "(II)I"⟩, 87), (⟨"RatchetPostModel", "leastOnce", "(I)I"⟩, 87), (⟨"RatchetPostModel", "isSealRight", "(I)Z"⟩, 87), (⟨"RatchetPostModel", "secretOf", "(J)I"⟩, 87), (⟨"RatchetPostModel", "commonTerm", "(II)I"⟩, 87)]
theorem lw_r2 : ∀ q ∈ lw_privs_2, lw_okq q := List.forall_mem_cons.mpr ⟨lw_p16, List.forall_mem_cons.mpr ⟨lw_p17, List.forall_mem_cons.mpr ⟨lw_p18, List.forall_mem_cons.mpr ⟨lw_p19, List.forall_mem_cons.mpr ⟨lw_p20, List.forall_mem_cons.mpr ⟨lw_p21, List.forall_mem_cons.mpr ⟨lw_p22, List.forall_mem_cons.mpr ⟨lw_p23, List.forall_mem_cons.mpr ⟨lw_p24, List.forall_mem_cons.mpr ⟨lw_p25, List.forall_mem_cons.mpr ⟨lw_p26, List.forall_mem_cons.mpr ⟨lw_p27, List.forall_mem_cons.mpr ⟨lw_p28, List.forall_mem_cons.mpr ⟨lw_p29, List.forall_mem_cons.mpr ⟨lw_p30, List.forall_mem_cons.mpr ⟨lw_p31, fun _ h => absurd h List.not_mem_nil⟩⟩⟩⟩⟩⟩⟩⟩⟩⟩⟩⟩⟩⟩⟩⟩
theorem lw_p32 : lw_okq (⟨"RatchetPostModel", "newSession", "(II)I"⟩, 87) := ⟨⟨by decide +kernel, by decide +kernel⟩, List.mem_of_getElem? (i := 941) (by decide +kernel), List.mem_of_getElem? (i := 1301) (by decide +kernel), List.mem_of_getElem? (i := 1302) (by decide +kernel)⟩
theorem lw_p33 : lw_okq (⟨"RatchetPostModel", "clear", "(I)V"⟩, 87) := ⟨⟨by decide +kernel, by decide +kernel⟩, List.mem_of_getElem? (i := 941) (by decide +kernel), List.mem_of_getElem? (i := 1305) (by decide +kernel), List.mem_of_getElem? (i := 1306) (by decide +kernel)⟩
theorem lw_p34 : lw_okq (⟨"RatchetPostModel", "turnSending", "(I)V"⟩, 87) := ⟨⟨by decide +kernel, by decide +kernel⟩, List.mem_of_getElem? (i := 941) (by decide +kernel), List.mem_of_getElem? (i := 1312) (by decide +kernel), List.mem_of_getElem? (i := 1313) (by decide +kernel)⟩
theorem lw_p35 : lw_okq (⟨"RatchetPostModel", "put", "(JI)V"⟩, 87) := ⟨⟨by decide +kernel, by decide +kernel⟩, List.mem_of_getElem? (i := 941) (by decide +kernel), List.mem_of_getElem? (i := 1335) (by decide +kernel), List.mem_of_getElem? (i := 1336) (by decide +kernel)⟩
theorem lw_p36 : lw_okq (⟨"RatchetPostModel", "sumOfBytes", "(II)J"⟩, 87) := ⟨⟨by decide +kernel, by decide +kernel⟩, List.mem_of_getElem? (i := 941) (by decide +kernel), List.mem_of_getElem? (i := 1339) (by decide +kernel), List.mem_of_getElem? (i := 1340) (by decide +kernel)⟩
theorem lw_p37 : lw_okq (⟨"RatchetPostModel", "isLetter", "(I)Z"⟩, 87) := ⟨⟨by decide +kernel, by decide +kernel⟩, List.mem_of_getElem? (i := 941) (by decide +kernel), List.mem_of_getElem? (i := 1347) (by decide +kernel), List.mem_of_getElem? (i := 1348) (by decide +kernel)⟩
theorem lw_p38 : lw_okq (⟨"RatchetPostModel", "readLetter", "(II)Z"⟩, 87) := ⟨⟨by decide +kernel, by decide +kernel⟩, List.mem_of_getElem? (i := 941) (by decide +kernel), List.mem_of_getElem? (i := 1371) (by decide +kernel), List.mem_of_getElem? (i := 1372) (by decide +kernel)⟩
theorem lw_p39 : lw_okq (⟨"RatchetPostModel", "bytesAt", "(II)J"⟩, 87) := ⟨⟨by decide +kernel, by decide +kernel⟩, List.mem_of_getElem? (i := 941) (by decide +kernel), List.mem_of_getElem? (i := 1375) (by decide +kernel), List.mem_of_getElem? (i := 1376) (by decide +kernel)⟩
theorem lw_p40 : lw_okq (⟨"RatchetPostModel", "comeFirst", "(IIII)I"⟩, 87) := ⟨⟨by decide +kernel, by decide +kernel⟩, List.mem_of_getElem? (i := 941) (by decide +kernel), List.mem_of_getElem? (i := 1379) (by decide +kernel), List.mem_of_getElem? (i := 1380) (by decide +kernel)⟩
theorem lw_p41 : lw_okq (⟨"RatchetPostModel", "open", "(III)I"⟩, 87) := ⟨⟨by decide +kernel, by decide +kernel⟩, List.mem_of_getElem? (i := 941) (by decide +kernel), List.mem_of_getElem? (i := 1383) (by decide +kernel), List.mem_of_getElem? (i := 1384) (by decide +kernel)⟩
theorem lw_p42 : lw_okq (⟨"RatchetPostModel", "keptAt", "(I)I"⟩, 87) := ⟨⟨by decide +kernel, by decide +kernel⟩, List.mem_of_getElem? (i := 941) (by decide +kernel), List.mem_of_getElem? (i := 1387) (by decide +kernel), List.mem_of_getElem? (i := 1388) (by decide +kernel)⟩
theorem lw_p43 : lw_okq (⟨"RatchetPostModel", "isTag", "(IJ)Z"⟩, 87) := ⟨⟨by decide +kernel, by decide +kernel⟩, List.mem_of_getElem? (i := 941) (by decide +kernel), List.mem_of_getElem? (i := 1391) (by decide +kernel), List.mem_of_getElem? (i := 1392) (by decide +kernel)⟩
theorem lw_p44 : lw_okq (⟨"RatchetPostModel", "dropKept", "(II)V"⟩, 87) := ⟨⟨by decide +kernel, by decide +kernel⟩, List.mem_of_getElem? (i := 941) (by decide +kernel), List.mem_of_getElem? (i := 1395) (by decide +kernel), List.mem_of_getElem? (i := 1396) (by decide +kernel)⟩
theorem lw_p45 : lw_okq (⟨"RatchetPostModel", "readText", "(J)V"⟩, 87) := ⟨⟨by decide +kernel, by decide +kernel⟩, List.mem_of_getElem? (i := 941) (by decide +kernel), List.mem_of_getElem? (i := 1399) (by decide +kernel), List.mem_of_getElem? (i := 1400) (by decide +kernel)⟩
theorem lw_p46 : lw_okq (⟨"RatchetPostModel", "keepUpTo", "(II)V"⟩, 87) := ⟨⟨by decide +kernel, by decide +kernel⟩, List.mem_of_getElem? (i := 941) (by decide +kernel), List.mem_of_getElem? (i := 1403) (by decide +kernel), List.mem_of_getElem? (i := 1404) (by decide +kernel)⟩
theorem lw_p47 : lw_okq (⟨"RatchetPostModel", "stepReceiving", "(I)V"⟩, 87) := ⟨⟨by decide +kernel, by decide +kernel⟩, List.mem_of_getElem? (i := 941) (by decide +kernel), List.mem_of_getElem? (i := 1407) (by decide +kernel), List.mem_of_getElem? (i := 1408) (by decide +kernel)⟩
def lw_privs_3 : List (MethodName × Nat) := [(⟨"RatchetPostModel", "newSession", "(II)I"⟩, 87), (⟨"RatchetPostModel", "clear", "(I)V"⟩, 87), (⟨"RatchetPostModel", "turnSending", "(I)V"⟩, 87), (⟨"RatchetPostModel", "put", "(JI)V"⟩, 87), (⟨"RatchetPostModel", "sumOfBytes", "(II)J"⟩, 87), (⟨"RatchetPostModel", "isLetter", "(I)Z"⟩, 87), (⟨"RatchetPostModel", "readLetter", "(II)Z"⟩, 87), (⟨"RatchetPostModel", "bytesAt", "(II)J"⟩, 87), (⟨"RatchetPostModel", "comeFirst", "(IIII)I"⟩, 87), (⟨"RatchetPostModel", "open", "(III)I"⟩, 87), (⟨"RatchetPostModel", "keptAt", "(I)I"⟩, 87), (⟨"RatchetPostModel", "isTag", "(IJ)Z"⟩, 87), (⟨"RatchetPostModel", "dropKept", "(II)V"⟩, 87), (⟨"RatchetPostModel", "readText", "(J)V"⟩, 87), (⟨"RatchetPostModel", "keepUpTo", "(II)V"⟩, 87), (⟨"RatchetPostModel", "stepReceiving", "(I)V"⟩, 87)]
theorem lw_r3 : ∀ q ∈ lw_privs_3, lw_okq q := List.forall_mem_cons.mpr ⟨lw_p32, List.forall_mem_cons.mpr ⟨lw_p33, List.forall_mem_cons.mpr ⟨lw_p34, List.forall_mem_cons.mpr ⟨lw_p35, List.forall_mem_cons.mpr ⟨lw_p36, List.forall_mem_cons.mpr ⟨lw_p37, List.forall_mem_cons.mpr ⟨lw_p38, List.forall_mem_cons.mpr ⟨lw_p39, List.forall_mem_cons.mpr ⟨lw_p40, List.forall_mem_cons.mpr ⟨lw_p41, List.forall_mem_cons.mpr ⟨lw_p42, List.forall_mem_cons.mpr ⟨lw_p43, List.forall_mem_cons.mpr ⟨lw_p44, List.forall_mem_cons.mpr ⟨lw_p45, List.forall_mem_cons.mpr ⟨lw_p46, List.forall_mem_cons.mpr ⟨lw_p47, fun _ h => absurd h List.not_mem_nil⟩⟩⟩⟩⟩⟩⟩⟩⟩⟩⟩⟩⟩⟩⟩⟩
theorem lw_p48 : lw_okq (⟨"RatchetPostModel", "turn", "(IIJ)V"⟩, 87) := ⟨⟨by decide +kernel, by decide +kernel⟩, List.mem_of_getElem? (i := 941) (by decide +kernel), List.mem_of_getElem? (i := 1411) (by decide +kernel), List.mem_of_getElem? (i := 1412) (by decide +kernel)⟩
theorem lw_p49 : lw_okq (⟨"RatchetPostModel", "toFront", "(II)V"⟩, 87) := ⟨⟨by decide +kernel, by decide +kernel⟩, List.mem_of_getElem? (i := 941) (by decide +kernel), List.mem_of_getElem? (i := 1415) (by decide +kernel), List.mem_of_getElem? (i := 1416) (by decide +kernel)⟩
theorem lw_p50 : lw_okq (⟨"RatchetPostModel", "comeLater", "(III)I"⟩, 87) := ⟨⟨by decide +kernel, by decide +kernel⟩, List.mem_of_getElem? (i := 941) (by decide +kernel), List.mem_of_getElem? (i := 1419) (by decide +kernel), List.mem_of_getElem? (i := 1420) (by decide +kernel)⟩
theorem lw_p51 : lw_okq (⟨"RatchetPostModel", "keptSecrets", "(I)I"⟩, 87) := ⟨⟨by decide +kernel, by decide +kernel⟩, List.mem_of_getElem? (i := 941) (by decide +kernel), List.mem_of_getElem? (i := 1427) (by decide +kernel), List.mem_of_getElem? (i := 1428) (by decide +kernel)⟩
theorem lw_p52 : lw_okq (⟨"RatchetPostModel", "sessionsOf", "(I)I"⟩, 87) := ⟨⟨by decide +kernel, by decide +kernel⟩, List.mem_of_getElem? (i := 941) (by decide +kernel), List.mem_of_getElem? (i := 1431) (by decide +kernel), List.mem_of_getElem? (i := 1432) (by decide +kernel)⟩
theorem lw_p53 : lw_okq (⟨"RatchetPostModel", "slotOf", "(III)I"⟩, 87) := ⟨⟨by decide +kernel, by decide +kernel⟩, List.mem_of_getElem? (i := 941) (by decide +kernel), List.mem_of_getElem? (i := 1443) (by decide +kernel), List.mem_of_getElem? (i := 1444) (by decide +kernel)⟩
theorem lw_p54 : lw_okq (⟨"RatchetPostModel", "lookInto", "(I)V"⟩, 87) := ⟨⟨by decide +kernel, by decide +kernel⟩, List.mem_of_getElem? (i := 941) (by decide +kernel), List.mem_of_getElem? (i := 1459) (by decide +kernel), List.mem_of_getElem? (i := 1460) (by decide +kernel)⟩
theorem lw_p55 : lw_okq (⟨"RatchetPostModel", "follows", "(I)Z"⟩, 87) := ⟨⟨by decide +kernel, by decide +kernel⟩, List.mem_of_getElem? (i := 941) (by decide +kernel), List.mem_of_getElem? (i := 1467) (by decide +kernel), List.mem_of_getElem? (i := 1468) (by decide +kernel)⟩
def lw_privs_4 : List (MethodName × Nat) := [(⟨"RatchetPostModel", "turn", "(IIJ)V"⟩, 87), (⟨"RatchetPostModel", "toFront", "(II)V"⟩, 87), (⟨"RatchetPostModel", "comeLater", "(III)I"⟩, 87), (⟨"RatchetPostModel", "keptSecrets", "(I)I"⟩, 87), (⟨"RatchetPostModel", "sessionsOf", "(I)I"⟩, 87), (⟨"RatchetPostModel", "slotOf", "(III)I"⟩, 87), (⟨"RatchetPostModel", "lookInto", "(I)V"⟩, 87), (⟨"RatchetPostModel", "follows", "(I)Z"⟩, 87)]
theorem lw_r4 : ∀ q ∈ lw_privs_4, lw_okq q := List.forall_mem_cons.mpr ⟨lw_p48, List.forall_mem_cons.mpr ⟨lw_p49, List.forall_mem_cons.mpr ⟨lw_p50, List.forall_mem_cons.mpr ⟨lw_p51, List.forall_mem_cons.mpr ⟨lw_p52, List.forall_mem_cons.mpr ⟨lw_p53, List.forall_mem_cons.mpr ⟨lw_p54, List.forall_mem_cons.mpr ⟨lw_p55, fun _ h => absurd h List.not_mem_nil⟩⟩⟩⟩⟩⟩⟩⟩
def lw_privs : List (MethodName × Nat) := lw_privs_1 ++ (lw_privs_2 ++ (lw_privs_3 ++ (lw_privs_4)))
def lw_tbl : List Cond := k2_sels lw_privs ++ tables_1
theorem lw_privs_ok : ∀ q ∈ lw_privs, lw_okq q := by
  show ∀ q ∈ lw_privs_1 ++ (lw_privs_2 ++ (lw_privs_3 ++ (lw_privs_4))), lw_okq q
  exact List.forall_mem_append.mpr ⟨lw_r1, List.forall_mem_append.mpr ⟨lw_r2, List.forall_mem_append.mpr ⟨lw_r3, lw_r4⟩⟩⟩
end
section
def RX0 : String := "RatchetPost$Envelope"
def TX0 : u_T := fun k => match k with
  | 0 => ("RatchetPost$Envelope", "bytes", "[I", false)
  | 1 => ("RatchetPost$Envelope", "at", "I", false)
  | 2 => ("RatchetPost$Envelope", "begins", "Z", false)
  | 3 => ("RatchetPost$Envelope", "from", "I", false)
  | 4 => ("RatchetPost$Envelope", "to", "I", false)
  | 5 => ("RatchetPost$Envelope", "identity", "J", false)
  | 6 => ("RatchetPost$Envelope", "beginningOpen", "J", false)
  | 7 => ("RatchetPost$Envelope", "lentNumber", "I", false)
  | 8 => ("RatchetPost$Envelope", "onceNumber", "I", false)
  | 9 => ("RatchetPost$Envelope", "open", "J", false)
  | 10 => ("RatchetPost$Envelope", "pn", "I", false)
  | 11 => ("RatchetPost$Envelope", "place", "I", false)
  | 12 => ("RatchetPost$Envelope", "textLength", "I", false)
  | 13 => ("RatchetPost$Envelope", "textAt", "I", false)
  | 14 => ("RatchetPost$Envelope", "sum", "J", false)
  | _ => ("RatchetPost$Envelope", "tag", "J", false)
def tyX0 : Nat → FieldType := fun k => match k with
  | 0 => .array .int
  | 1 => .int
  | 2 => .boolean
  | 3 => .int
  | 4 => .int
  | 5 => .long
  | 6 => .long
  | 7 => .int
  | 8 => .int
  | 9 => .long
  | 10 => .int
  | 11 => .int
  | 12 => .int
  | 13 => .int
  | 14 => .long
  | _ => .long
theorem nmX0 : ∀ a, a < 16 → ∀ b, b < 16 → a ≠ b → (TX0 a).2.1 ≠ (TX0 b).2.1 := by decide +kernel
theorem tyX0_ok : ∀ k, k < 16 → parseFieldDescriptor (TX0 k).2.2.1 = some (tyX0 k) := by decide +kernel
abbrev cX0_init : ByteArray := prog_2_method_1_code
def yX0_init : MethodName := ⟨RX0, "<init>", "()V"⟩
def RX1 : String := "RatchetPost$KeptKeys"
def TX1 : u_T := fun k => match k with
  | 0 => ("RatchetPost$KeptKeys", "opens", "[J", true)
  | 1 => ("RatchetPost$KeptKeys", "places", "[I", true)
  | 2 => ("RatchetPost$KeptKeys", "keys", "[J", true)
  | 3 => ("RatchetPost$KeptKeys", "turns", "[LRatchetPost$Turn;", true)
  | _ => ("RatchetPost$KeptKeys", "size", "I", false)
def tyX1 : Nat → FieldType := fun k => match k with
  | 0 => .array .long
  | 1 => .array .int
  | 2 => .array .long
  | 3 => .array (.object "RatchetPost$Turn")
  | _ => .int
theorem nmX1 : ∀ a, a < 5 → ∀ b, b < 5 → a ≠ b → (TX1 a).2.1 ≠ (TX1 b).2.1 := by decide +kernel
theorem tyX1_ok : ∀ k, k < 5 → parseFieldDescriptor (TX1 k).2.2.1 = some (tyX1 k) := by decide +kernel
def RX2 : String := "RatchetPost$Letter"
def TX2 : u_T := fun k => match k with
  | 0 => ("RatchetPost$Letter", "bytes", "[I", true)
  | 1 => ("RatchetPost$Letter", "filled", "I", false)
  | 2 => ("RatchetPost$Letter", "turn", "LRatchetPost$Turn;", true)
  | _ => ("RatchetPost$Letter", "place", "I", true)
def tyX2 : Nat → FieldType := fun k => match k with
  | 0 => .array .int
  | 1 => .int
  | 2 => .object "RatchetPost$Turn"
  | _ => .int
theorem nmX2 : ∀ a, a < 4 → ∀ b, b < 4 → a ≠ b → (TX2 a).2.1 ≠ (TX2 b).2.1 := by decide +kernel
theorem tyX2_ok : ∀ k, k < 4 → parseFieldDescriptor (TX2 k).2.2.1 = some (tyX2 k) := by decide +kernel
def RX3 : String := "RatchetPost$Numbers"
def TX3 : u_T := fun k => match k with
  | _ => ("", "", "", false)
def tyX3 : Nat → FieldType := fun k => match k with
  | _ => .int
theorem nmX3 : ∀ a, a < 0 → ∀ b, b < 0 → a ≠ b → (TX3 a).2.1 ≠ (TX3 b).2.1 := by decide +kernel
theorem tyX3_ok : ∀ k, k < 0 → parseFieldDescriptor (TX3 k).2.2.1 = some (tyX3 k) := by decide +kernel
abbrev cX3_isOpen : ByteArray := prog_5_method_2_code
def yX3_isOpen : MethodName := ⟨RX3, "isOpen", "(J)Z"⟩
abbrev cX3_times : ByteArray := prog_5_method_3_code
def yX3_times : MethodName := ⟨RX3, "times", "(JJ)J"⟩
abbrev cX3_power : ByteArray := prog_5_method_4_code
def yX3_power : MethodName := ⟨RX3, "power", "(JJ)J"⟩
abbrev cX3_rest : ByteArray := prog_5_method_5_code
def yX3_rest : MethodName := ⟨RX3, "rest", "(JJ)J"⟩
abbrev cX3_secretOf : ByteArray := prog_5_method_6_code
def yX3_secretOf : MethodName := ⟨RX3, "secretOf", "(J)J"⟩
abbrev cX3_timesModuloQ : ByteArray := prog_5_method_7_code
def yX3_timesModuloQ : MethodName := ⟨RX3, "timesModuloQ", "(JJ)J"⟩
abbrev cX3_sealSum : ByteArray := prog_5_method_8_code
def yX3_sealSum : MethodName := ⟨RX3, "sealSum", "(JJ)J"⟩
abbrev cX3_sealProof : ByteArray := prog_5_method_9_code
def yX3_sealProof : MethodName := ⟨RX3, "sealProof", "(LRatchetPost$Secret;JJ)J"⟩
abbrev cX3_mix : ByteArray := prog_5_method_11_code
def yX3_mix : MethodName := ⟨RX3, "mix", "(JJ)J"⟩
def RX4 : String := "RatchetPost$Opening"
def TX4 : u_T := fun k => match k with
  | 0 => ("RatchetPost$Opening", "keys", "[J", true)
  | 1 => ("RatchetPost$Opening", "keptAt", "I", false)
  | 2 => ("RatchetPost$Opening", "turns", "Z", false)
  | 3 => ("RatchetPost$Opening", "oldCount", "I", false)
  | 4 => ("RatchetPost$Opening", "newCount", "I", false)
  | 5 => ("RatchetPost$Opening", "root", "J", false)
  | 6 => ("RatchetPost$Opening", "chain", "J", false)
  | _ => ("RatchetPost$Opening", "key", "J", false)
def tyX4 : Nat → FieldType := fun k => match k with
  | 0 => .array .long
  | 1 => .int
  | 2 => .boolean
  | 3 => .int
  | 4 => .int
  | 5 => .long
  | 6 => .long
  | _ => .long
theorem nmX4 : ∀ a, a < 8 → ∀ b, b < 8 → a ≠ b → (TX4 a).2.1 ≠ (TX4 b).2.1 := by decide +kernel
theorem tyX4_ok : ∀ k, k < 8 → parseFieldDescriptor (TX4 k).2.2.1 = some (tyX4 k) := by decide +kernel
abbrev cX4_init : ByteArray := prog_6_method_1_code
def yX4_init : MethodName := ⟨RX4, "<init>", "()V"⟩
def RX5 : String := "RatchetPost$Person"
def TX5 : u_T := fun k => match k with
  | 0 => ("RatchetPost$Person", "seed", "J", true)
  | 1 => ("RatchetPost$Person", "drawn", "I", false)
  | 2 => ("RatchetPost$Person", "drawnLast", "LRatchetPost$Secret;", false)
  | 3 => ("RatchetPost$Person", "identity", "LRatchetPost$Secret;", false)
  | 4 => ("RatchetPost$Person", "lentNumber", "I", false)
  | 5 => ("RatchetPost$Person", "lentOpen", "J", false)
  | 6 => ("RatchetPost$Person", "sealOpen", "J", false)
  | 7 => ("RatchetPost$Person", "sealProof", "J", false)
  | 8 => ("RatchetPost$Person", "lentKeys", "[LRatchetPost$Secret;", true)
  | 9 => ("RatchetPost$Person", "onceKeys", "[LRatchetPost$Secret;", true)
  | 10 => ("RatchetPost$Person", "onceUsed", "[Z", true)
  | 11 => ("RatchetPost$Person", "onceMade", "I", false)
  | 12 => ("RatchetPost$Person", "onceTaken", "I", false)
  | 13 => ("RatchetPost$Person", "rows", "[LRatchetPost$Row;", true)
  | 14 => ("RatchetPost$Person", "seenOpens", "[J", true)
  | 15 => ("RatchetPost$Person", "seenLents", "[I", true)
  | _ => ("RatchetPost$Person", "seenCount", "I", false)
def tyX5 : Nat → FieldType := fun k => match k with
  | 0 => .long
  | 1 => .int
  | 2 => .object "RatchetPost$Secret"
  | 3 => .object "RatchetPost$Secret"
  | 4 => .int
  | 5 => .long
  | 6 => .long
  | 7 => .long
  | 8 => .array (.object "RatchetPost$Secret")
  | 9 => .array (.object "RatchetPost$Secret")
  | 10 => .array .boolean
  | 11 => .int
  | 12 => .int
  | 13 => .array (.object "RatchetPost$Row")
  | 14 => .array .long
  | 15 => .array .int
  | _ => .int
theorem nmX5 : ∀ a, a < 17 → ∀ b, b < 17 → a ≠ b → (TX5 a).2.1 ≠ (TX5 b).2.1 := by decide +kernel
theorem tyX5_ok : ∀ k, k < 17 → parseFieldDescriptor (TX5 k).2.2.1 = some (tyX5 k) := by decide +kernel
abbrev cX5_init : ByteArray := prog_7_method_1_code
def yX5_init : MethodName := ⟨RX5, "<init>", "(JI)V"⟩
abbrev cX5_isRegistered : ByteArray := prog_7_method_2_code
def yX5_isRegistered : MethodName := ⟨RX5, "isRegistered", "()Z"⟩
abbrev cX5_drawSecret : ByteArray := prog_7_method_3_code
def yX5_drawSecret : MethodName := ⟨RX5, "drawSecret", "()LRatchetPost$Secret;"⟩
abbrev cX5_enrol : ByteArray := prog_7_method_5_code
def yX5_enrol : MethodName := ⟨RX5, "enrol", "()V"⟩
abbrev cX5_makeLentKey : ByteArray := prog_7_method_6_code
def yX5_makeLentKey : MethodName := ⟨RX5, "makeLentKey", "()V"⟩
abbrev cX5_onceThere : ByteArray := prog_7_method_11_code
def yX5_onceThere : MethodName := ⟨RX5, "onceThere", "()I"⟩
abbrev cX5_leastOnce : ByteArray := prog_7_method_12_code
def yX5_leastOnce : MethodName := ⟨RX5, "leastOnce", "()I"⟩
abbrev cX5_onceSecretsKept : ByteArray := prog_7_method_17_code
def yX5_onceSecretsKept : MethodName := ⟨RX5, "onceSecretsKept", "()I"⟩
abbrev cX5_sessionsInAll : ByteArray := prog_7_method_18_code
def yX5_sessionsInAll : MethodName := ⟨RX5, "sessionsInAll", "()I"⟩
abbrev cX5_giveAway : ByteArray := prog_7_method_21_code
def yX5_giveAway : MethodName := ⟨RX5, "giveAway", "()V"⟩
def RX6 : String := "RatchetPost$Row"
def TX6 : u_T := fun k => match k with
  | 0 => ("RatchetPost$Row", "sessions", "[LRatchetPost$Session;", true)
  | _ => ("RatchetPost$Row", "size", "I", false)
def tyX6 : Nat → FieldType := fun k => match k with
  | 0 => .array (.object "RatchetPost$Session")
  | _ => .int
theorem nmX6 : ∀ a, a < 2 → ∀ b, b < 2 → a ≠ b → (TX6 a).2.1 ≠ (TX6 b).2.1 := by decide +kernel
theorem tyX6_ok : ∀ k, k < 2 → parseFieldDescriptor (TX6 k).2.2.1 = some (tyX6 k) := by decide +kernel
abbrev cX6_init : ByteArray := prog_8_method_1_code
def yX6_init : MethodName := ⟨RX6, "<init>", "()V"⟩
abbrev cX6_at : ByteArray := prog_8_method_2_code
def yX6_at : MethodName := ⟨RX6, "at", "(I)LRatchetPost$Session;"⟩
abbrev cX6_retireAll : ByteArray := prog_8_method_6_code
def yX6_retireAll : MethodName := ⟨RX6, "retireAll", "()I"⟩
abbrev cX6_giveAway : ByteArray := prog_8_method_8_code
def yX6_giveAway : MethodName := ⟨RX6, "giveAway", "()V"⟩
def RX7 : String := "RatchetPost$Secret"
def TX7 : u_T := fun k => match k with
  | 0 => ("RatchetPost$Secret", "value", "J", true)
  | 1 => ("RatchetPost$Secret", "open", "J", true)
  | 2 => ("RatchetPost$Secret", "drawnBefore", "LRatchetPost$Secret;", true)
  | _ => ("RatchetPost$Secret", "got", "Z", false)
def tyX7 : Nat → FieldType := fun k => match k with
  | 0 => .long
  | 1 => .long
  | 2 => .object "RatchetPost$Secret"
  | _ => .boolean
theorem nmX7 : ∀ a, a < 4 → ∀ b, b < 4 → a ≠ b → (TX7 a).2.1 ≠ (TX7 b).2.1 := by decide +kernel
theorem tyX7_ok : ∀ k, k < 4 → parseFieldDescriptor (TX7 k).2.2.1 = some (tyX7 k) := by decide +kernel
abbrev cX7_init : ByteArray := prog_9_method_1_code
def yX7_init : MethodName := ⟨RX7, "<init>", "(JJLRatchetPost$Secret;)V"⟩
abbrev cX7_give : ByteArray := prog_9_method_2_code
def yX7_give : MethodName := ⟨RX7, "give", "(LRatchetPost$Secret;)V"⟩
def RX8 : String := "RatchetPost$Session"
def TX8 : u_T := fun k => match k with
  | 0 => ("RatchetPost$Session", "begunHere", "Z", true)
  | 1 => ("RatchetPost$Session", "firstRoot", "J", true)
  | 2 => ("RatchetPost$Session", "beginningOpen", "J", true)
  | 3 => ("RatchetPost$Session", "beginningLent", "I", false)
  | 4 => ("RatchetPost$Session", "beginningOnce", "I", false)
  | 5 => ("RatchetPost$Session", "beginningGoes", "Z", false)
  | 6 => ("RatchetPost$Session", "root", "J", false)
  | 7 => ("RatchetPost$Session", "rootTurn", "LRatchetPost$Turn;", false)
  | 8 => ("RatchetPost$Session", "sending", "J", false)
  | 9 => ("RatchetPost$Session", "sendingTurn", "LRatchetPost$Turn;", false)
  | 10 => ("RatchetPost$Session", "receiving", "J", false)
  | 11 => ("RatchetPost$Session", "receivingTurn", "LRatchetPost$Turn;", false)
  | 12 => ("RatchetPost$Session", "own", "LRatchetPost$Secret;", false)
  | 13 => ("RatchetPost$Session", "other", "J", false)
  | 14 => ("RatchetPost$Session", "otherSecret", "LRatchetPost$Secret;", false)
  | 15 => ("RatchetPost$Session", "hasOther", "Z", false)
  | 16 => ("RatchetPost$Session", "ns", "I", false)
  | 17 => ("RatchetPost$Session", "nr", "I", false)
  | 18 => ("RatchetPost$Session", "pn", "I", false)
  | _ => ("RatchetPost$Session", "kept", "LRatchetPost$KeptKeys;", true)
def tyX8 : Nat → FieldType := fun k => match k with
  | 0 => .boolean
  | 1 => .long
  | 2 => .long
  | 3 => .int
  | 4 => .int
  | 5 => .boolean
  | 6 => .long
  | 7 => .object "RatchetPost$Turn"
  | 8 => .long
  | 9 => .object "RatchetPost$Turn"
  | 10 => .long
  | 11 => .object "RatchetPost$Turn"
  | 12 => .object "RatchetPost$Secret"
  | 13 => .long
  | 14 => .object "RatchetPost$Secret"
  | 15 => .boolean
  | 16 => .int
  | 17 => .int
  | 18 => .int
  | _ => .object "RatchetPost$KeptKeys"
theorem nmX8 : ∀ a, a < 20 → ∀ b, b < 20 → a ≠ b → (TX8 a).2.1 ≠ (TX8 b).2.1 := by decide +kernel
theorem tyX8_ok : ∀ k, k < 20 → parseFieldDescriptor (TX8 k).2.2.1 = some (tyX8 k) := by decide +kernel
def RX9 : String := "RatchetPost$Turn"
def TX9 : u_T := fun k => match k with
  | 0 => ("RatchetPost$Turn", "before", "LRatchetPost$Turn;", true)
  | 1 => ("RatchetPost$Turn", "pairs", "[LRatchetPost$Secret;", true)
  | 2 => ("RatchetPost$Turn", "newestAfter", "LRatchetPost$Turn;", false)
  | 3 => ("RatchetPost$Turn", "olderSister", "LRatchetPost$Turn;", false)
  | 4 => ("RatchetPost$Turn", "rootGot", "Z", false)
  | 5 => ("RatchetPost$Turn", "chainGotFrom", "I", false)
  | _ => ("RatchetPost$Turn", "keyGot", "[Z", true)
def tyX9 : Nat → FieldType := fun k => match k with
  | 0 => .object "RatchetPost$Turn"
  | 1 => .array (.object "RatchetPost$Secret")
  | 2 => .object "RatchetPost$Turn"
  | 3 => .object "RatchetPost$Turn"
  | 4 => .boolean
  | 5 => .int
  | _ => .array .boolean
theorem nmX9 : ∀ a, a < 7 → ∀ b, b < 7 → a ≠ b → (TX9 a).2.1 ≠ (TX9 b).2.1 := by decide +kernel
theorem tyX9_ok : ∀ k, k < 7 → parseFieldDescriptor (TX9 k).2.2.1 = some (tyX9 k) := by decide +kernel
abbrev cX9_init : ByteArray := prog_11_method_1_code
def yX9_init : MethodName := ⟨RX9, "<init>", "(LRatchetPost$Turn;[LRatchetPost$Secret;)V"⟩
abbrev cX9_giveRoot : ByteArray := prog_11_method_4_code
def yX9_giveRoot : MethodName := ⟨RX9, "giveRoot", "()V"⟩
def RX10 : String := "RatchetPost"
def TX10 : u_T := fun k => match k with
  | 0 => ("RatchetPost", "people", "[LRatchetPost$Person;", true)
  | 1 => ("RatchetPost", "letters", "[LRatchetPost$Letter;", true)
  | 2 => ("RatchetPost", "letterCount", "I", false)
  | 3 => ("RatchetPost", "copyCount", "I", false)
  | 4 => ("RatchetPost", "begunCount", "I", false)
  | 5 => ("RatchetPost", "madeCount", "I", false)
  | 6 => ("RatchetPost", "openedCount", "I", false)
  | 7 => ("RatchetPost", "lookCount", "I", false)
  | 8 => ("RatchetPost", "tape", "[I", true)
  | 9 => ("RatchetPost", "tapeSize", "I", false)
  | 10 => ("RatchetPost", "reading", "[I", true)
  | 11 => ("RatchetPost", "readingSize", "I", false)
  | 12 => ("RatchetPost", "envelope", "LRatchetPost$Envelope;", true)
  | 13 => ("RatchetPost", "opening", "LRatchetPost$Opening;", true)
  | _ => ("RatchetPost", "noTurn", "LRatchetPost$Turn;", true)
def tyX10 : Nat → FieldType := fun k => match k with
  | 0 => .array (.object "RatchetPost$Person")
  | 1 => .array (.object "RatchetPost$Letter")
  | 2 => .int
  | 3 => .int
  | 4 => .int
  | 5 => .int
  | 6 => .int
  | 7 => .int
  | 8 => .array .int
  | 9 => .int
  | 10 => .array .int
  | 11 => .int
  | 12 => .object "RatchetPost$Envelope"
  | 13 => .object "RatchetPost$Opening"
  | _ => .object "RatchetPost$Turn"
theorem nmX10 : ∀ a, a < 15 → ∀ b, b < 15 → a ≠ b → (TX10 a).2.1 ≠ (TX10 b).2.1 := by decide +kernel
theorem tyX10_ok : ∀ k, k < 15 → parseFieldDescriptor (TX10 k).2.2.1 = some (tyX10 k) := by decide +kernel
abbrev cX10_init : ByteArray := prog_1_method_1_code
def yX10_init : MethodName := ⟨RX10, "<init>", "(II)V"⟩
abbrev cX10_feed : ByteArray := prog_1_method_2_code
def yX10_feed : MethodName := ⟨RX10, "feed", "(IIIII)I"⟩
abbrev cX10_putOnTape : ByteArray := prog_1_method_3_code
def yX10_putOnTape : MethodName := ⟨RX10, "putOnTape", "(I)V"⟩
abbrev cX10_end : ByteArray := prog_1_method_4_code
def yX10_end : MethodName := ⟨RX10, "end", "(I)I"⟩
abbrev cX10_register : ByteArray := prog_1_method_5_code
def yX10_register : MethodName := ⟨RX10, "register", "(I)I"⟩
abbrev cX10_publish : ByteArray := prog_1_method_6_code
def yX10_publish : MethodName := ⟨RX10, "publish", "(II)I"⟩
abbrev cX10_rotate : ByteArray := prog_1_method_7_code
def yX10_rotate : MethodName := ⟨RX10, "rotate", "(I)I"⟩
abbrev cX10_write : ByteArray := prog_1_method_8_code
def yX10_write : MethodName := ⟨RX10, "write", "(II)I"⟩
abbrev cX10_begin : ByteArray := prog_1_method_9_code
def yX10_begin : MethodName := ⟨RX10, "begin", "(II)I"⟩
abbrev cX10_forget : ByteArray := prog_1_method_10_code
def yX10_forget : MethodName := ⟨RX10, "forget", "(II)I"⟩
abbrev cX10_come : ByteArray := prog_1_method_11_code
def yX10_come : MethodName := ⟨RX10, "come", "(II)I"⟩
abbrev cX10_byteOf : ByteArray := prog_1_method_12_code
def yX10_byteOf : MethodName := ⟨RX10, "byteOf", "(I)I"⟩
abbrev cX10_copy : ByteArray := prog_1_method_13_code
def yX10_copy : MethodName := ⟨RX10, "copy", "(I)I"⟩
abbrev cX10_spoil : ByteArray := prog_1_method_14_code
def yX10_spoil : MethodName := ⟨RX10, "spoil", "(III)I"⟩
abbrev cX10_letter : ByteArray := prog_1_method_15_code
def yX10_letter : MethodName := ⟨RX10, "letter", "(II)I"⟩
abbrev cX10_forge : ByteArray := prog_1_method_16_code
def yX10_forge : MethodName := ⟨RX10, "forge", "(IJ)I"⟩
abbrev cX10_user : ByteArray := prog_1_method_17_code
def yX10_user : MethodName := ⟨RX10, "user", "(II)I"⟩
abbrev cX10_number : ByteArray := prog_1_method_18_code
def yX10_number : MethodName := ⟨RX10, "number", "(II)J"⟩
abbrev cX10_session : ByteArray := prog_1_method_19_code
def yX10_session : MethodName := ⟨RX10, "session", "(IIII)I"⟩
abbrev cX10_inside : ByteArray := prog_1_method_20_code
def yX10_inside : MethodName := ⟨RX10, "inside", "(IIII)J"⟩
abbrev cX10_same : ByteArray := prog_1_method_21_code
def yX10_same : MethodName := ⟨RX10, "same", "(IIII)I"⟩
abbrev cX10_look : ByteArray := prog_1_method_22_code
def yX10_look : MethodName := ⟨RX10, "look", "(I)I"⟩
abbrev cX10_readable : ByteArray := prog_1_method_23_code
def yX10_readable : MethodName := ⟨RX10, "readable", "(I)I"⟩
abbrev cX10_count : ByteArray := prog_1_method_24_code
def yX10_count : MethodName := ⟨RX10, "count", "(I)I"⟩
abbrev cX10_isUser : ByteArray := prog_1_method_25_code
def yX10_isUser : MethodName := ⟨RX10, "isUser", "(I)Z"⟩
abbrev cX10_arePair : ByteArray := prog_1_method_26_code
def yX10_arePair : MethodName := ⟨RX10, "arePair", "(II)Z"⟩
abbrev cX10_isLetter : ByteArray := prog_1_method_27_code
def yX10_isLetter : MethodName := ⟨RX10, "isLetter", "(I)Z"⟩
abbrev cX10_oneIf : ByteArray := prog_1_method_28_code
def yX10_oneIf : MethodName := ⟨RX10, "oneIf", "(Z)I"⟩
def RX11 : String := "RatchetPostModel"
def TX11 : u_T := fun k => match k with
  | 0 => ("RatchetPostModel", "n", "I", true)
  | 1 => ("RatchetPostModel", "seeds", "[J", true)
  | 2 => ("RatchetPostModel", "terms", "I", false)
  | 3 => ("RatchetPostModel", "tSort", "[I", true)
  | 4 => ("RatchetPostModel", "tA", "[I", true)
  | 5 => ("RatchetPostModel", "tB", "[I", true)
  | 6 => ("RatchetPostModel", "tC", "[I", true)
  | 7 => ("RatchetPostModel", "tD", "[I", true)
  | 8 => ("RatchetPostModel", "isGot", "[Z", true)
  | 9 => ("RatchetPostModel", "isKnown", "[Z", true)
  | 10 => ("RatchetPostModel", "opens", "I", false)
  | 11 => ("RatchetPostModel", "openNumber", "[J", true)
  | 12 => ("RatchetPostModel", "openTerm", "[I", true)
  | 13 => ("RatchetPostModel", "isUser", "[Z", true)
  | 14 => ("RatchetPostModel", "draws", "[I", true)
  | 15 => ("RatchetPostModel", "identity", "[J", true)
  | 16 => ("RatchetPostModel", "identityOpen", "[J", true)
  | 17 => ("RatchetPostModel", "identityTerm", "[I", true)
  | 18 => ("RatchetPostModel", "lents", "[I", true)
  | 19 => ("RatchetPostModel", "lent", "[J", true)
  | 20 => ("RatchetPostModel", "lentOpen", "[J", true)
  | 21 => ("RatchetPostModel", "lentTerm", "[I", true)
  | 22 => ("RatchetPostModel", "directoryLent", "[J", true)
  | 23 => ("RatchetPostModel", "sealR", "[J", true)
  | 24 => ("RatchetPostModel", "sealT", "[J", true)
  | 25 => ("RatchetPostModel", "onces", "[I", true)
  | 26 => ("RatchetPostModel", "once", "[J", true)
  | 27 => ("RatchetPostModel", "onceOpen", "[J", true)
  | 28 => ("RatchetPostModel", "onceTerm", "[I", true)
  | 29 => ("RatchetPostModel", "onceThere", "[Z", true)
  | 30 => ("RatchetPostModel", "onceKept", "[Z", true)
  | 31 => ("RatchetPostModel", "drawn", "J", false)
  | 32 => ("RatchetPostModel", "drawnOpen", "J", false)
  | 33 => ("RatchetPostModel", "drawnTerm", "I", false)
  | 34 => ("RatchetPostModel", "order", "[I", true)
  | 35 => ("RatchetPostModel", "rowMany", "[I", true)
  | 36 => ("RatchetPostModel", "sRoot", "[J", true)
  | 37 => ("RatchetPostModel", "sSend", "[J", true)
  | 38 => ("RatchetPostModel", "hasSend", "[Z", true)
  | 39 => ("RatchetPostModel", "sRecv", "[J", true)
  | 40 => ("RatchetPostModel", "hasRecv", "[Z", true)
  | 41 => ("RatchetPostModel", "sOwn", "[J", true)
  | 42 => ("RatchetPostModel", "sOwnOpen", "[J", true)
  | 43 => ("RatchetPostModel", "sOther", "[J", true)
  | 44 => ("RatchetPostModel", "hasOther", "[Z", true)
  | 45 => ("RatchetPostModel", "sNs", "[I", true)
  | 46 => ("RatchetPostModel", "sNr", "[I", true)
  | 47 => ("RatchetPostModel", "sPn", "[I", true)
  | 48 => ("RatchetPostModel", "goesWith", "[Z", true)
  | 49 => ("RatchetPostModel", "isBegun", "[Z", true)
  | 50 => ("RatchetPostModel", "sE", "[J", true)
  | 51 => ("RatchetPostModel", "sLent", "[I", true)
  | 52 => ("RatchetPostModel", "sOnce", "[I", true)
  | 53 => ("RatchetPostModel", "tRoot", "[I", true)
  | 54 => ("RatchetPostModel", "tFirst", "[I", true)
  | 55 => ("RatchetPostModel", "tSend", "[I", true)
  | 56 => ("RatchetPostModel", "tRecv", "[I", true)
  | 57 => ("RatchetPostModel", "tOwn", "[I", true)
  | 58 => ("RatchetPostModel", "keptMany", "[I", true)
  | 59 => ("RatchetPostModel", "keptOpen", "[J", true)
  | 60 => ("RatchetPostModel", "keptPlace", "[I", true)
  | 61 => ("RatchetPostModel", "keptKey", "[J", true)
  | 62 => ("RatchetPostModel", "keptTerm", "[I", true)
  | 63 => ("RatchetPostModel", "begun", "I", false)
  | 64 => ("RatchetPostModel", "heard", "[I", true)
  | 65 => ("RatchetPostModel", "heardLent", "[I", true)
  | 66 => ("RatchetPostModel", "heardE", "[J", true)
  | 67 => ("RatchetPostModel", "tape", "[I", true)
  | 68 => ("RatchetPostModel", "taped", "I", false)
  | 69 => ("RatchetPostModel", "letterByte", "[I", true)
  | 70 => ("RatchetPostModel", "letterSize", "[I", true)
  | 71 => ("RatchetPostModel", "letterTerm", "[I", true)
  | 72 => ("RatchetPostModel", "letters", "I", false)
  | 73 => ("RatchetPostModel", "copies", "I", false)
  | 74 => ("RatchetPostModel", "reading", "[I", true)
  | 75 => ("RatchetPostModel", "readingSize", "I", false)
  | 76 => ("RatchetPostModel", "writeAt", "I", false)
  | 77 => ("RatchetPostModel", "lAt", "I", false)
  | 78 => ("RatchetPostModel", "lSize", "I", false)
  | 79 => ("RatchetPostModel", "headOpen", "J", false)
  | 80 => ("RatchetPostModel", "headPn", "I", false)
  | 81 => ("RatchetPostModel", "headN", "I", false)
  | 82 => ("RatchetPostModel", "textAt", "I", false)
  | 83 => ("RatchetPostModel", "textSize", "I", false)
  | 84 => ("RatchetPostModel", "opened", "I", false)
  | 85 => ("RatchetPostModel", "madeByLetters", "I", false)
  | _ => ("RatchetPostModel", "looks", "I", false)
def tyX11 : Nat → FieldType := fun k => match k with
  | 0 => .int
  | 1 => .array .long
  | 2 => .int
  | 3 => .array .int
  | 4 => .array .int
  | 5 => .array .int
  | 6 => .array .int
  | 7 => .array .int
  | 8 => .array .boolean
  | 9 => .array .boolean
  | 10 => .int
  | 11 => .array .long
  | 12 => .array .int
  | 13 => .array .boolean
  | 14 => .array .int
  | 15 => .array .long
  | 16 => .array .long
  | 17 => .array .int
  | 18 => .array .int
  | 19 => .array .long
  | 20 => .array .long
  | 21 => .array .int
  | 22 => .array .long
  | 23 => .array .long
  | 24 => .array .long
  | 25 => .array .int
  | 26 => .array .long
  | 27 => .array .long
  | 28 => .array .int
  | 29 => .array .boolean
  | 30 => .array .boolean
  | 31 => .long
  | 32 => .long
  | 33 => .int
  | 34 => .array .int
  | 35 => .array .int
  | 36 => .array .long
  | 37 => .array .long
  | 38 => .array .boolean
  | 39 => .array .long
  | 40 => .array .boolean
  | 41 => .array .long
  | 42 => .array .long
  | 43 => .array .long
  | 44 => .array .boolean
  | 45 => .array .int
  | 46 => .array .int
  | 47 => .array .int
  | 48 => .array .boolean
  | 49 => .array .boolean
  | 50 => .array .long
  | 51 => .array .int
  | 52 => .array .int
  | 53 => .array .int
  | 54 => .array .int
  | 55 => .array .int
  | 56 => .array .int
  | 57 => .array .int
  | 58 => .array .int
  | 59 => .array .long
  | 60 => .array .int
  | 61 => .array .long
  | 62 => .array .int
  | 63 => .int
  | 64 => .array .int
  | 65 => .array .int
  | 66 => .array .long
  | 67 => .array .int
  | 68 => .int
  | 69 => .array .int
  | 70 => .array .int
  | 71 => .array .int
  | 72 => .int
  | 73 => .int
  | 74 => .array .int
  | 75 => .int
  | 76 => .int
  | 77 => .int
  | 78 => .int
  | 79 => .long
  | 80 => .int
  | 81 => .int
  | 82 => .int
  | 83 => .int
  | 84 => .int
  | 85 => .int
  | _ => .int
theorem nmX11 : ∀ a, a < 87 → ∀ b, b < 87 → a ≠ b → (TX11 a).2.1 ≠ (TX11 b).2.1 := by decide +kernel
theorem tyX11_ok : ∀ k, k < 87 → parseFieldDescriptor (TX11 k).2.2.1 = some (tyX11 k) := by decide +kernel
abbrev cX11_init : ByteArray := prog_13_method_1_code
def yX11_init : MethodName := ⟨RX11, "<init>", "(II)V"⟩
abbrev cX11_mix : ByteArray := prog_13_method_2_code
def yX11_mix : MethodName := ⟨RX11, "mix", "(JJ)J"⟩
abbrev cX11_times : ByteArray := prog_13_method_4_code
def yX11_times : MethodName := ⟨RX11, "times", "(JJ)J"⟩
abbrev cX11_timesQ : ByteArray := prog_13_method_5_code
def yX11_timesQ : MethodName := ⟨RX11, "timesQ", "(JJ)J"⟩
abbrev cX11_power : ByteArray := prog_13_method_6_code
def yX11_power : MethodName := ⟨RX11, "power", "(JJ)J"⟩
abbrev cX11_modQ : ByteArray := prog_13_method_8_code
def yX11_modQ : MethodName := ⟨RX11, "modQ", "(J)J"⟩
abbrev cX11_asSecret : ByteArray := prog_13_method_9_code
def yX11_asSecret : MethodName := ⟨RX11, "asSecret", "(J)J"⟩
abbrev cX11_term : ByteArray := prog_13_method_10_code
def yX11_term : MethodName := ⟨RX11, "term", "(IIIII)I"⟩
abbrev cX11_draw : ByteArray := prog_13_method_13_code
def yX11_draw : MethodName := ⟨RX11, "draw", "(I)V"⟩
abbrev cX11_drawTerm : ByteArray := prog_13_method_14_code
def yX11_drawTerm : MethodName := ⟨RX11, "drawTerm", "(I)V"⟩
abbrev cX11_isThere : ByteArray := prog_13_method_15_code
def yX11_isThere : MethodName := ⟨RX11, "isThere", "(I)Z"⟩
abbrev cX11_lend : ByteArray := prog_13_method_16_code
def yX11_lend : MethodName := ⟨RX11, "lend", "(I)V"⟩
abbrev cX11_register : ByteArray := prog_13_method_17_code
def yX11_register : MethodName := ⟨RX11, "register", "(I)I"⟩
abbrev cX11_onceInDirectory : ByteArray := prog_13_method_18_code
def yX11_onceInDirectory : MethodName := ⟨RX11, "onceInDirectory", "(I)I"⟩
abbrev cX11_leastOnce : ByteArray := prog_13_method_19_code
def yX11_leastOnce : MethodName := ⟨RX11, "leastOnce", "(I)I"⟩
abbrev cX11_publish : ByteArray := prog_13_method_20_code
def yX11_publish : MethodName := ⟨RX11, "publish", "(II)I"⟩
abbrev cX11_rotate : ByteArray := prog_13_method_21_code
def yX11_rotate : MethodName := ⟨RX11, "rotate", "(I)I"⟩
abbrev cX11_begin : ByteArray := prog_13_method_29_code
def yX11_begin : MethodName := ⟨RX11, "begin", "(II)I"⟩
abbrev cX11_forget : ByteArray := prog_13_method_30_code
def yX11_forget : MethodName := ⟨RX11, "forget", "(II)I"⟩
abbrev cX11_feed : ByteArray := prog_13_method_31_code
def yX11_feed : MethodName := ⟨RX11, "feed", "(IIIII)I"⟩
abbrev cX11_end : ByteArray := prog_13_method_32_code
def yX11_end : MethodName := ⟨RX11, "end", "(I)I"⟩
abbrev cX11_write : ByteArray := prog_13_method_35_code
def yX11_write : MethodName := ⟨RX11, "write", "(II)I"⟩
abbrev cX11_isLetter : ByteArray := prog_13_method_36_code
def yX11_isLetter : MethodName := ⟨RX11, "isLetter", "(I)Z"⟩
abbrev cX11_copy : ByteArray := prog_13_method_37_code
def yX11_copy : MethodName := ⟨RX11, "copy", "(I)I"⟩
abbrev cX11_spoil : ByteArray := prog_13_method_38_code
def yX11_spoil : MethodName := ⟨RX11, "spoil", "(III)I"⟩
abbrev cX11_letter : ByteArray := prog_13_method_39_code
def yX11_letter : MethodName := ⟨RX11, "letter", "(II)I"⟩
abbrev cX11_byteOf : ByteArray := prog_13_method_40_code
def yX11_byteOf : MethodName := ⟨RX11, "byteOf", "(I)I"⟩
abbrev cX11_forge : ByteArray := prog_13_method_41_code
def yX11_forge : MethodName := ⟨RX11, "forge", "(IJ)I"⟩
abbrev cX11_come : ByteArray := prog_13_method_52_code
def yX11_come : MethodName := ⟨RX11, "come", "(II)I"⟩
abbrev cX11_user : ByteArray := prog_13_method_55_code
def yX11_user : MethodName := ⟨RX11, "user", "(II)I"⟩
abbrev cX11_keptSecrets : ByteArray := prog_13_method_56_code
def yX11_keptSecrets : MethodName := ⟨RX11, "keptSecrets", "(I)I"⟩
abbrev cX11_sessionsOf : ByteArray := prog_13_method_57_code
def yX11_sessionsOf : MethodName := ⟨RX11, "sessionsOf", "(I)I"⟩
abbrev cX11_number : ByteArray := prog_13_method_58_code
def yX11_number : MethodName := ⟨RX11, "number", "(II)J"⟩
abbrev cX11_slotOf : ByteArray := prog_13_method_59_code
def yX11_slotOf : MethodName := ⟨RX11, "slotOf", "(III)I"⟩
abbrev cX11_session : ByteArray := prog_13_method_60_code
def yX11_session : MethodName := ⟨RX11, "session", "(IIII)I"⟩
abbrev cX11_inside : ByteArray := prog_13_method_61_code
def yX11_inside : MethodName := ⟨RX11, "inside", "(IIII)J"⟩
abbrev cX11_same : ByteArray := prog_13_method_62_code
def yX11_same : MethodName := ⟨RX11, "same", "(IIII)I"⟩
abbrev cX11_look : ByteArray := prog_13_method_63_code
def yX11_look : MethodName := ⟨RX11, "look", "(I)I"⟩
abbrev cX11_readable : ByteArray := prog_13_method_66_code
def yX11_readable : MethodName := ⟨RX11, "readable", "(I)I"⟩
abbrev cX11_count : ByteArray := prog_13_method_67_code
def yX11_count : MethodName := ⟨RX11, "count", "(I)I"⟩
def RJ9 : String := "java/lang/Math"
def RL : String := "RatchetPostLaw"
abbrev cL_cell : ByteArray := method_2_code
def yL_cell : MethodName := ⟨RL, "cell", "([II)I"⟩
abbrev cL_law : ByteArray := code
def yL_law : MethodName := ⟨RL, "law", "([I)Z"⟩
def ev_cl0 : List vw_C := [(RX0, TX0, 16), (RX1, TX1, 5), (RX2, TX2, 4), (RX4, TX4, 8), (RX5, TX5, 17), (RX6, TX6, 2), (RX7, TX7, 4), (RX8, TX8, 20), (RX9, TX9, 7), (RX10, TX10, 15), (RX11, TX11, 87)]
def ev_tl0 : List FieldType := [.int, .long, .boolean, .object "RatchetPost$Letter", .object "RatchetPost$Secret", .object "RatchetPost$Person", .object "RatchetPost$Row", .object "RatchetPost$Session", .object "RatchetPost$Turn"]
def ev_cb0 : List ev_C := [(0, 16, (3, 0, 0), [(0, (3, 0, 0)), (1, (0, 0, 0)), (2, (0, 0, 0)), (3, (0, 0, 0)), (4, (0, 0, 0)), (5, (1, 0, 0)), (6, (1, 0, 0)), (7, (0, 0, 0)), (8, (0, 0, 0)), (9, (1, 0, 0)), (10, (0, 0, 0)), (11, (0, 0, 0)), (12, (0, 0, 0)), (13, (0, 0, 0)), (14, (1, 0, 0)), (15, (1, 0, 0))]),
  (1, 5, (3, 0, 0), [(0, (3, 0, 0)), (1, (3, 0, 0)), (2, (3, 0, 0)), (3, (3, 0, 0)), (4, (0, 0, 0))]),
  (2, 4, (3, 0, 0), [(0, (3, 0, 0)), (1, (0, 0, 0)), (2, (3, 0, 0)), (3, (0, 0, 0))]),
  (3, 8, (3, 0, 0), [(0, (3, 0, 0)), (1, (0, 0, 0)), (2, (0, 0, 0)), (3, (0, 0, 0)), (4, (0, 0, 0)), (5, (1, 0, 0)), (6, (1, 0, 0)), (7, (1, 0, 0))]),
  (4, 17, (3, 0, 0), [(0, (1, 0, 0)), (1, (0, 0, 0)), (2, (3, 0, 0)), (3, (3, 0, 0)), (4, (0, 0, 0)), (5, (1, 0, 0)), (6, (1, 0, 0)), (7, (1, 0, 0)), (8, (3, 0, 0)), (9, (3, 0, 0)), (10, (3, 0, 0)), (11, (0, 0, 0)), (12, (0, 0, 0)), (13, (3, 0, 0)), (14, (3, 0, 0)), (15, (3, 0, 0)), (16, (0, 0, 0))]),
  (5, 2, (3, 0, 0), [(0, (3, 0, 0)), (1, (0, 0, 0))]),
  (6, 4, (3, 0, 0), [(0, (1, 0, 0)), (1, (1, 0, 0)), (2, (3, 0, 0)), (3, (0, 0, 0))]),
  (7, 20, (3, 0, 0), [(0, (0, 0, 0)), (1, (1, 0, 0)), (2, (1, 0, 0)), (3, (0, 0, 0)), (4, (0, 0, 0)), (5, (0, 0, 0)), (6, (1, 0, 0)), (7, (3, 0, 0)), (8, (1, 0, 0)), (9, (3, 0, 0)), (10, (1, 0, 0)), (11, (3, 0, 0)), (12, (3, 0, 0)), (13, (1, 0, 0)), (14, (3, 0, 0)), (15, (0, 0, 0)), (16, (0, 0, 0)), (17, (0, 0, 0)), (18, (0, 0, 0)), (19, (3, 0, 0))]),
  (8, 7, (3, 0, 0), [(0, (3, 0, 0)), (1, (3, 0, 0)), (2, (3, 0, 0)), (3, (3, 0, 0)), (4, (0, 0, 0)), (5, (0, 0, 0)), (6, (3, 0, 0))]),
  (9, 15, (3, 0, 0), [(0, (3, 0, 0)), (1, (3, 0, 0)), (2, (0, 0, 0)), (3, (0, 0, 0)), (4, (0, 0, 0)), (5, (0, 0, 0)), (6, (0, 0, 0)), (7, (0, 0, 0)), (8, (3, 0, 0)), (9, (0, 0, 0)), (10, (3, 0, 0)), (11, (0, 0, 0)), (12, (3, 0, 0)), (13, (3, 0, 0)), (14, (3, 0, 0))]),
  (10, 87, (3, 0, 0), [(0, (0, 0, 0)), (1, (3, 0, 0)), (2, (0, 0, 0)), (3, (3, 0, 0)), (4, (3, 0, 0)), (5, (3, 0, 0)), (6, (3, 0, 0)), (7, (3, 0, 0)), (8, (3, 0, 0)), (9, (3, 0, 0)), (10, (0, 0, 0)), (11, (3, 0, 0)), (12, (3, 0, 0)), (13, (3, 0, 0)), (14, (3, 0, 0)), (15, (3, 0, 0)), (16, (3, 0, 0)), (17, (3, 0, 0)), (18, (3, 0, 0)), (19, (3, 0, 0)), (20, (3, 0, 0)), (21, (3, 0, 0)), (22, (3, 0, 0)), (23, (3, 0, 0)), (24, (3, 0, 0)), (25, (3, 0, 0)), (26, (3, 0, 0)), (27, (3, 0, 0)), (28, (3, 0, 0)), (29, (3, 0, 0)), (30, (3, 0, 0)), (31, (1, 0, 0)), (32, (1, 0, 0)), (33, (0, 0, 0)), (34, (3, 0, 0)), (35, (3, 0, 0)), (36, (3, 0, 0)), (37, (3, 0, 0)), (38, (3, 0, 0)), (39, (3, 0, 0)), (40, (3, 0, 0)), (41, (3, 0, 0)), (42, (3, 0, 0)), (43, (3, 0, 0)), (44, (3, 0, 0)), (45, (3, 0, 0)), (46, (3, 0, 0)), (47, (3, 0, 0)), (48, (3, 0, 0)), (49, (3, 0, 0)), (50, (3, 0, 0)), (51, (3, 0, 0)), (52, (3, 0, 0)), (53, (3, 0, 0)), (54, (3, 0, 0)), (55, (3, 0, 0)), (56, (3, 0, 0)), (57, (3, 0, 0)), (58, (3, 0, 0)), (59, (3, 0, 0)), (60, (3, 0, 0)), (61, (3, 0, 0)), (62, (3, 0, 0)), (63, (0, 0, 0)), (64, (3, 0, 0)), (65, (3, 0, 0)), (66, (3, 0, 0)), (67, (3, 0, 0)), (68, (0, 0, 0)), (69, (3, 0, 0)), (70, (3, 0, 0)), (71, (3, 0, 0)), (72, (0, 0, 0)), (73, (0, 0, 0)), (74, (3, 0, 0)), (75, (0, 0, 0)), (76, (0, 0, 0)), (77, (0, 0, 0)), (78, (0, 0, 0)), (79, (1, 0, 0)), (80, (0, 0, 0)), (81, (0, 0, 0)), (82, (0, 0, 0)), (83, (0, 0, 0)), (84, (0, 0, 0)), (85, (0, 0, 0)), (86, (0, 0, 0))])]
def ev_TT : List (List Cond) := [k2_sels lw_privs, tables_1_1, tables_1_2, tables_1_3, tables_1_4, tables_1_5, tables_1_6, tables_1_7]
theorem ev_cin {w : Cond} {l : List Cond} (k i : Nat) (hl : ev_TT[k]? = some l) (h : l[i]? = some w) (hg : goodWord w = true) : w ∈ ev_TT.flatten.filter goodWord := List.mem_filter.mpr ⟨List.mem_flatten.mpr ⟨l, List.mem_of_getElem? hl, List.mem_of_getElem? h⟩, hg⟩
def ev_G0 : ev_G := (ev_cl0, ev_tl0, ev_cb0)
def ev_AO0 : List String := ["RatchetPost$Letter", "RatchetPost$Secret", "RatchetPost$Person", "RatchetPost$Row", "RatchetPost$Session", "RatchetPost$Turn"]
def ev_TY0 : Nat → Nat → FieldType := fun ci => match ci with
  | 0 => tyX0
  | 1 => tyX1
  | 2 => tyX2
  | 3 => tyX4
  | 4 => tyX5
  | 5 => tyX6
  | 6 => tyX7
  | 7 => tyX8
  | 8 => tyX9
  | 9 => tyX10
  | _ => tyX11
end
section
def mi_L_cell : ev_M := (yL_cell, cL_cell, 2, (some .int), [[(.iload_n 1, 1, 0, 0, 0), (.aload_n 0, 1, 0, 0, 0), (.arraylength, 1, 0, 0, 0), (.if_icmp .ge 9, 3, 0, 0, 0), (.nop, 0, 0, 0, 0), (.nop, 0, 0, 0, 0), (.aload_n 0, 1, 0, 0, 0), (.iload_n 1, 1, 0, 0, 0), (.iaload, 1, 0, 1, 0), (.goto 4, 3, 0, 0, 0), (.nop, 0, 0, 0, 0), (.nop, 0, 0, 0, 0), (.iconst 0, 1, 0, 0, 0), (.ireturn, 1, 0, 0, 0)]], 0, 2, 0, 0, 0, 0)
def mi_X0_init : ev_M := (yX0_init, cX0_init, 1, none, [[(.aload_n 0, 1, 0, 0, 0), (.invokespecial 3, 3, 999, 0, 0), (.nop, 0, 0, 0, 0), (.nop, 0, 0, 0, 0), (.aload_n 0, 1, 0, 0, 0), (.iconst 0, 1, 0, 0, 0), (.newarray .int, 2, 0, 0, 0), (.nop, 0, 0, 0, 0), (.putfield 9, 3, 0, 0, 3), (.nop, 0, 0, 0, 0), (.nop, 0, 0, 0, 0), (.return_, 1, 0, 0, 0)]], 2, 0, 1, 12, 1, 0)
def mi_X10_arePair : ev_M := (yX10_arePair, cX10_arePair, 3, (some .boolean), [[(.aload_n 0, 1, 0, 0, 0), (.iload_n 1, 1, 0, 0, 0), (.invokevirtual 76, 3, 15, 9, 0), (.nop, 0, 0, 0, 0), (.nop, 0, 0, 0, 0), (.ifCond .eq 20, 3, 0, 0, 0), (.nop, 0, 0, 0, 0), (.nop, 0, 0, 0, 0), (.aload_n 0, 1, 0, 0, 0), (.iload_n 2, 1, 0, 0, 0), (.invokevirtual 76, 3, 15, 9, 0), (.nop, 0, 0, 0, 0), (.nop, 0, 0, 0, 0), (.ifCond .eq 12, 3, 0, 0, 0), (.nop, 0, 0, 0, 0), (.nop, 0, 0, 0, 0), (.iload_n 1, 1, 0, 0, 0), (.iload_n 2, 1, 0, 0, 0), (.if_icmp .eq 7, 3, 0, 0, 0), (.nop, 0, 0, 0, 0), (.nop, 0, 0, 0, 0), (.iconst 1, 1, 0, 0, 0), (.goto 4, 3, 0, 0, 0), (.nop, 0, 0, 0, 0), (.nop, 0, 0, 0, 0), (.iconst 0, 1, 0, 0, 0), (.ireturn, 1, 0, 0, 0)]], 1, 2, 1, 21, 0, 0)
def mi_X10_begin : ev_M := (yX10_begin, cX10_begin, 3, (some .int), [[(.aload_n 0, 1, 0, 0, 0), (.iload_n 1, 1, 0, 0, 0), (.iload_n 2, 1, 0, 0, 0), (.invokevirtual 103, 3, 2, 9, 0), (.nop, 0, 0, 0, 0), (.nop, 0, 0, 0, 0), (.ifCond .ne 5, 3, 0, 0, 0), (.nop, 0, 0, 0, 0), (.nop, 0, 0, 0, 0), (.iconst (-1), 1, 0, 0, 0), (.ireturn, 1, 0, 0, 0), (.aload_n 0, 1, 0, 0, 0), (.getfield 58, 3, 9, 0, 3), (.nop, 0, 0, 0, 0), (.nop, 0, 0, 0, 0), (.iload_n 1, 1, 0, 0, 0), (.aaload, 1, 0, 0, 0), (.invokevirtual 80, 3, 84, 4, 0), (.nop, 0, 0, 0, 0), (.nop, 0, 0, 0, 0), (.ifCond .eq 15, 3, 0, 0, 0), (.nop, 0, 0, 0, 0), (.nop, 0, 0, 0, 0), (.nop, 0, 0, 0, 0), (.nop, 0, 0, 0, 0), (.nop, 0, 0, 0, 0), (.nop, 0, 0, 0, 0), (.nop, 0, 0, 0, 0), (.nop, 0, 0, 0, 0), (.nop, 0, 0, 0, 0), (.nop, 0, 0, 0, 0), (.nop, 0, 0, 0, 0)],
    [(.nop, 0, 0, 0, 0), (.nop, 0, 0, 0, 0), (.nop, 0, 0, 0, 0), (.bipush (-2), 2, 0, 0, 0), (.nop, 0, 0, 0, 0), (.ireturn, 1, 0, 0, 0), (.nop, 0, 0, 0, 0), (.nop, 0, 0, 0, 0), (.nop, 0, 0, 0, 0), (.nop, 0, 0, 0, 0), (.nop, 0, 0, 0, 0), (.nop, 0, 0, 0, 0), (.nop, 0, 0, 0, 0)]], 1, 2, 2, 43, 0, 0)
def mi_X10_byteOf : ev_M := (yX10_byteOf, cX10_byteOf, 2, (some .int), [[(.iload_n 1, 1, 0, 0, 0), (.ifCond .lt 11, 3, 0, 0, 0), (.nop, 0, 0, 0, 0), (.nop, 0, 0, 0, 0), (.iload_n 1, 1, 0, 0, 0), (.aload_n 0, 1, 0, 0, 0), (.getfield 157, 3, 9, 11, 0), (.nop, 0, 0, 0, 0), (.nop, 0, 0, 0, 0), (.if_icmp .lt 5, 3, 0, 0, 0), (.nop, 0, 0, 0, 0), (.nop, 0, 0, 0, 0), (.iconst (-1), 1, 0, 0, 0), (.ireturn, 1, 0, 0, 0), (.nop, 0, 0, 0, 0), (.nop, 0, 0, 0, 0), (.nop, 0, 0, 0, 0), (.nop, 0, 0, 0, 0), (.nop, 0, 0, 0, 0), (.nop, 0, 0, 0, 0), (.nop, 0, 0, 0, 0)]], 1, 1, 0, 0, 0, 0)
def mi_X10_come : ev_M := (yX10_come, cX10_come, 4, (some .int), [[(.aload_n 0, 1, 0, 0, 0), (.iload_n 1, 1, 0, 0, 0), (.invokevirtual 133, 3, 14, 9, 0), (.nop, 0, 0, 0, 0), (.nop, 0, 0, 0, 0), (.ifCond .eq 11, 3, 0, 0, 0), (.nop, 0, 0, 0, 0), (.nop, 0, 0, 0, 0), (.nop, 0, 0, 0, 0), (.nop, 0, 0, 0, 0), (.nop, 0, 0, 0, 0), (.nop, 0, 0, 0, 0), (.nop, 0, 0, 0, 0), (.nop, 0, 0, 0, 0), (.nop, 0, 0, 0, 0), (.nop, 0, 0, 0, 0), (.iconst (-1), 1, 0, 0, 0), (.ireturn, 1, 0, 0, 0), (.nop, 0, 0, 0, 0), (.nop, 0, 0, 0, 0), (.nop, 0, 0, 0, 0), (.nop, 0, 0, 0, 0), (.nop, 0, 0, 0, 0), (.nop, 0, 0, 0, 0), (.nop, 0, 0, 0, 0), (.nop, 0, 0, 0, 0), (.nop, 0, 0, 0, 0), (.nop, 0, 0, 0, 0), (.nop, 0, 0, 0, 0), (.nop, 0, 0, 0, 0), (.nop, 0, 0, 0, 0), (.nop, 0, 0, 0, 0)],
    [(.nop, 0, 0, 0, 0), (.nop, 0, 0, 0, 0), (.nop, 0, 0, 0, 0), (.nop, 0, 0, 0, 0), (.nop, 0, 0, 0, 0), (.nop, 0, 0, 0, 0), (.nop, 0, 0, 0, 0), (.nop, 0, 0, 0, 0), (.nop, 0, 0, 0, 0), (.nop, 0, 0, 0, 0), (.nop, 0, 0, 0, 0), (.nop, 0, 0, 0, 0), (.nop, 0, 0, 0, 0), (.nop, 0, 0, 0, 0), (.nop, 0, 0, 0, 0), (.nop, 0, 0, 0, 0), (.nop, 0, 0, 0, 0), (.nop, 0, 0, 0, 0), (.nop, 0, 0, 0, 0), (.nop, 0, 0, 0, 0), (.nop, 0, 0, 0, 0), (.nop, 0, 0, 0, 0), (.nop, 0, 0, 0, 0), (.nop, 0, 0, 0, 0), (.nop, 0, 0, 0, 0), (.nop, 0, 0, 0, 0), (.nop, 0, 0, 0, 0), (.nop, 0, 0, 0, 0), (.nop, 0, 0, 0, 0), (.nop, 0, 0, 0, 0), (.nop, 0, 0, 0, 0), (.nop, 0, 0, 0, 0)],
    [(.nop, 0, 0, 0, 0), (.nop, 0, 0, 0, 0), (.nop, 0, 0, 0, 0), (.nop, 0, 0, 0, 0), (.nop, 0, 0, 0, 0), (.nop, 0, 0, 0, 0), (.nop, 0, 0, 0, 0), (.nop, 0, 0, 0, 0), (.nop, 0, 0, 0, 0), (.nop, 0, 0, 0, 0), (.nop, 0, 0, 0, 0), (.nop, 0, 0, 0, 0), (.nop, 0, 0, 0, 0), (.nop, 0, 0, 0, 0), (.nop, 0, 0, 0, 0), (.nop, 0, 0, 0, 0), (.nop, 0, 0, 0, 0), (.nop, 0, 0, 0, 0), (.nop, 0, 0, 0, 0), (.nop, 0, 0, 0, 0), (.nop, 0, 0, 0, 0), (.nop, 0, 0, 0, 0), (.nop, 0, 0, 0, 0), (.nop, 0, 0, 0, 0), (.nop, 0, 0, 0, 0), (.nop, 0, 0, 0, 0), (.nop, 0, 0, 0, 0), (.nop, 0, 0, 0, 0), (.nop, 0, 0, 0, 0), (.nop, 0, 0, 0, 0), (.nop, 0, 0, 0, 0), (.nop, 0, 0, 0, 0)]], 1, 2, 1, 21, 0, 0)
def mi_X10_copy : ev_M := (yX10_copy, cX10_copy, 2, (some .int), [[(.aload_n 0, 1, 0, 0, 0), (.iload_n 1, 1, 0, 0, 0), (.invokevirtual 133, 3, 14, 9, 0), (.nop, 0, 0, 0, 0), (.nop, 0, 0, 0, 0), (.ifCond .ne 5, 3, 0, 0, 0), (.nop, 0, 0, 0, 0), (.nop, 0, 0, 0, 0), (.iconst (-1), 1, 0, 0, 0), (.ireturn, 1, 0, 0, 0), (.nop, 0, 0, 0, 0), (.nop, 0, 0, 0, 0), (.nop, 0, 0, 0, 0), (.nop, 0, 0, 0, 0), (.nop, 0, 0, 0, 0), (.nop, 0, 0, 0, 0), (.nop, 0, 0, 0, 0), (.nop, 0, 0, 0, 0), (.nop, 0, 0, 0, 0), (.nop, 0, 0, 0, 0), (.nop, 0, 0, 0, 0), (.nop, 0, 0, 0, 0), (.nop, 0, 0, 0, 0), (.nop, 0, 0, 0, 0), (.nop, 0, 0, 0, 0), (.nop, 0, 0, 0, 0), (.nop, 0, 0, 0, 0), (.nop, 0, 0, 0, 0), (.nop, 0, 0, 0, 0), (.nop, 0, 0, 0, 0), (.nop, 0, 0, 0, 0), (.nop, 0, 0, 0, 0)],
    [(.nop, 0, 0, 0, 0), (.nop, 0, 0, 0, 0), (.nop, 0, 0, 0, 0), (.nop, 0, 0, 0, 0), (.nop, 0, 0, 0, 0), (.nop, 0, 0, 0, 0), (.nop, 0, 0, 0, 0), (.nop, 0, 0, 0, 0), (.nop, 0, 0, 0, 0), (.nop, 0, 0, 0, 0), (.nop, 0, 0, 0, 0), (.nop, 0, 0, 0, 0), (.nop, 0, 0, 0, 0), (.nop, 0, 0, 0, 0), (.nop, 0, 0, 0, 0), (.nop, 0, 0, 0, 0), (.nop, 0, 0, 0, 0), (.nop, 0, 0, 0, 0), (.nop, 0, 0, 0, 0), (.nop, 0, 0, 0, 0), (.nop, 0, 0, 0, 0), (.nop, 0, 0, 0, 0), (.nop, 0, 0, 0, 0), (.nop, 0, 0, 0, 0), (.nop, 0, 0, 0, 0), (.nop, 0, 0, 0, 0), (.nop, 0, 0, 0, 0), (.nop, 0, 0, 0, 0), (.nop, 0, 0, 0, 0), (.nop, 0, 0, 0, 0), (.nop, 0, 0, 0, 0), (.nop, 0, 0, 0, 0)],
    [(.nop, 0, 0, 0, 0), (.nop, 0, 0, 0, 0), (.nop, 0, 0, 0, 0)]], 1, 1, 1, 21, 0, 0)
def mi_X10_count : ev_M := (yX10_count, cX10_count, 2, (some .int), [[(.iload_n 1, 1, 0, 0, 0), (.tableswitch 60 0 4 #[35, 40, 45, 50, 55], 35, 0, 0, 0), (.nop, 0, 0, 0, 0), (.nop, 0, 0, 0, 0), (.nop, 0, 0, 0, 0), (.nop, 0, 0, 0, 0), (.nop, 0, 0, 0, 0), (.nop, 0, 0, 0, 0), (.nop, 0, 0, 0, 0), (.nop, 0, 0, 0, 0), (.nop, 0, 0, 0, 0), (.nop, 0, 0, 0, 0), (.nop, 0, 0, 0, 0), (.nop, 0, 0, 0, 0), (.nop, 0, 0, 0, 0), (.nop, 0, 0, 0, 0), (.nop, 0, 0, 0, 0), (.nop, 0, 0, 0, 0), (.nop, 0, 0, 0, 0), (.nop, 0, 0, 0, 0), (.nop, 0, 0, 0, 0), (.nop, 0, 0, 0, 0), (.nop, 0, 0, 0, 0), (.nop, 0, 0, 0, 0), (.nop, 0, 0, 0, 0), (.nop, 0, 0, 0, 0), (.nop, 0, 0, 0, 0), (.nop, 0, 0, 0, 0), (.nop, 0, 0, 0, 0), (.nop, 0, 0, 0, 0), (.nop, 0, 0, 0, 0), (.nop, 0, 0, 0, 0)],
    [(.nop, 0, 0, 0, 0), (.nop, 0, 0, 0, 0), (.nop, 0, 0, 0, 0), (.nop, 0, 0, 0, 0), (.aload_n 0, 1, 0, 0, 0), (.getfield 107, 3, 9, 2, 0), (.nop, 0, 0, 0, 0), (.nop, 0, 0, 0, 0), (.ireturn, 1, 0, 0, 0), (.aload_n 0, 1, 0, 0, 0), (.getfield 164, 3, 9, 3, 0), (.nop, 0, 0, 0, 0), (.nop, 0, 0, 0, 0), (.ireturn, 1, 0, 0, 0), (.aload_n 0, 1, 0, 0, 0), (.getfield 268, 3, 9, 7, 0), (.nop, 0, 0, 0, 0), (.nop, 0, 0, 0, 0), (.ireturn, 1, 0, 0, 0), (.aload_n 0, 1, 0, 0, 0), (.getfield 157, 3, 9, 11, 0), (.nop, 0, 0, 0, 0), (.nop, 0, 0, 0, 0), (.ireturn, 1, 0, 0, 0), (.aload_n 0, 1, 0, 0, 0), (.getfield 68, 3, 9, 9, 0), (.nop, 0, 0, 0, 0), (.nop, 0, 0, 0, 0), (.ireturn, 1, 0, 0, 0), (.iconst (-1), 1, 0, 0, 0), (.ireturn, 1, 0, 0, 0)]], 1, 1, 0, 0, 0, 0)
def mi_X10_end : ev_M := (yX10_end, cX10_end, 2, (some .int), [[(.iload_n 1, 1, 0, 0, 0), (.ifCond .lt 18, 3, 0, 0, 0), (.nop, 0, 0, 0, 0), (.nop, 0, 0, 0, 0), (.iload_n 1, 1, 0, 0, 0), (.bipush 20, 2, 0, 0, 0), (.nop, 0, 0, 0, 0), (.if_icmp .gt 12, 3, 0, 0, 0), (.nop, 0, 0, 0, 0), (.nop, 0, 0, 0, 0), (.aload_n 0, 1, 0, 0, 0), (.getfield 68, 3, 9, 9, 0), (.nop, 0, 0, 0, 0), (.nop, 0, 0, 0, 0), (.bipush 20, 2, 0, 0, 0), (.nop, 0, 0, 0, 0), (.if_icmp .ge 5, 3, 0, 0, 0), (.nop, 0, 0, 0, 0), (.nop, 0, 0, 0, 0), (.iconst (-1), 1, 0, 0, 0), (.ireturn, 1, 0, 0, 0), (.nop, 0, 0, 0, 0), (.nop, 0, 0, 0, 0), (.nop, 0, 0, 0, 0), (.nop, 0, 0, 0, 0), (.nop, 0, 0, 0, 0), (.nop, 0, 0, 0, 0), (.nop, 0, 0, 0, 0), (.nop, 0, 0, 0, 0), (.nop, 0, 0, 0, 0), (.nop, 0, 0, 0, 0), (.nop, 0, 0, 0, 0)],
    [(.nop, 0, 0, 0, 0), (.nop, 0, 0, 0, 0), (.nop, 0, 0, 0, 0), (.nop, 0, 0, 0, 0), (.nop, 0, 0, 0, 0), (.nop, 0, 0, 0, 0), (.nop, 0, 0, 0, 0)]], 1, 1, 0, 0, 0, 0)
def mi_X10_feed : ev_M := (yX10_feed, cX10_feed, 6, (some .int), [[(.aload_n 0, 1, 0, 0, 0), (.getfield 68, 3, 9, 9, 0), (.nop, 0, 0, 0, 0), (.nop, 0, 0, 0, 0), (.bipush 20, 2, 0, 0, 0), (.nop, 0, 0, 0, 0), (.iadd, 1, 0, 0, 0), (.bipush 40, 2, 0, 0, 0), (.nop, 0, 0, 0, 0), (.if_icmp .le 6, 3, 0, 0, 0), (.nop, 0, 0, 0, 0), (.nop, 0, 0, 0, 0), (.nop, 0, 0, 0, 0), (.nop, 0, 0, 0, 0), (.nop, 0, 0, 0, 0), (.aload_n 0, 1, 0, 0, 0), (.iload_n 1, 1, 0, 0, 0), (.invokevirtual 72, 3, 21, 9, 0), (.nop, 0, 0, 0, 0), (.nop, 0, 0, 0, 0), (.aload_n 0, 1, 0, 0, 0), (.iload_n 2, 1, 0, 0, 0), (.invokevirtual 72, 3, 21, 9, 0), (.nop, 0, 0, 0, 0), (.nop, 0, 0, 0, 0), (.aload_n 0, 1, 0, 0, 0), (.iload_n 3, 1, 0, 0, 0), (.invokevirtual 72, 3, 21, 9, 0), (.nop, 0, 0, 0, 0), (.nop, 0, 0, 0, 0), (.aload_n 0, 1, 0, 0, 0), (.iload 4, 2, 0, 0, 0)],
    [(.nop, 0, 0, 0, 0), (.invokevirtual 72, 3, 21, 9, 0), (.nop, 0, 0, 0, 0), (.nop, 0, 0, 0, 0), (.aload_n 0, 1, 0, 0, 0), (.iload 5, 2, 0, 0, 0), (.nop, 0, 0, 0, 0), (.invokevirtual 72, 3, 21, 9, 0), (.nop, 0, 0, 0, 0), (.nop, 0, 0, 0, 0), (.aload_n 0, 1, 0, 0, 0), (.getfield 68, 3, 9, 9, 0), (.nop, 0, 0, 0, 0), (.nop, 0, 0, 0, 0), (.ireturn, 1, 0, 0, 0)]], 1, 5, 1, 22, 0, 0)
def mi_X10_forge : ev_M := (yX10_forge, cX10_forge, 4, (some .int), [[(.aload_n 0, 1, 0, 0, 0), (.iload_n 1, 1, 0, 0, 0), (.invokevirtual 76, 3, 15, 9, 0), (.nop, 0, 0, 0, 0), (.nop, 0, 0, 0, 0), (.ifCond .eq 22, 3, 0, 0, 0), (.nop, 0, 0, 0, 0), (.nop, 0, 0, 0, 0), (.aload_n 0, 1, 0, 0, 0), (.getfield 58, 3, 9, 0, 3), (.nop, 0, 0, 0, 0), (.nop, 0, 0, 0, 0), (.iload_n 1, 1, 0, 0, 0), (.aaload, 1, 0, 0, 0), (.invokevirtual 80, 3, 84, 4, 0), (.nop, 0, 0, 0, 0), (.nop, 0, 0, 0, 0), (.ifCond .eq 10, 3, 0, 0, 0), (.nop, 0, 0, 0, 0), (.nop, 0, 0, 0, 0), (.nop, 0, 0, 0, 0), (.nop, 0, 0, 0, 0), (.nop, 0, 0, 0, 0), (.nop, 0, 0, 0, 0), (.nop, 0, 0, 0, 0), (.nop, 0, 0, 0, 0), (.nop, 0, 0, 0, 0), (.iconst (-1), 1, 0, 0, 0), (.ireturn, 1, 0, 0, 0), (.nop, 0, 0, 0, 0), (.nop, 0, 0, 0, 0), (.nop, 0, 0, 0, 0)],
    [(.nop, 0, 0, 0, 0), (.nop, 0, 0, 0, 0), (.nop, 0, 0, 0, 0), (.nop, 0, 0, 0, 0), (.nop, 0, 0, 0, 0), (.nop, 0, 0, 0, 0), (.nop, 0, 0, 0, 0), (.nop, 0, 0, 0, 0), (.nop, 0, 0, 0, 0)]], 1, 2, 1, 21, 0, 0)
def mi_X10_forget : ev_M := (yX10_forget, cX10_forget, 3, (some .int), [[(.aload_n 0, 1, 0, 0, 0), (.iload_n 1, 1, 0, 0, 0), (.iload_n 2, 1, 0, 0, 0), (.invokevirtual 103, 3, 2, 9, 0), (.nop, 0, 0, 0, 0), (.nop, 0, 0, 0, 0), (.ifCond .ne 5, 3, 0, 0, 0), (.nop, 0, 0, 0, 0), (.nop, 0, 0, 0, 0), (.iconst (-1), 1, 0, 0, 0), (.ireturn, 1, 0, 0, 0), (.aload_n 0, 1, 0, 0, 0), (.getfield 58, 3, 9, 0, 3), (.nop, 0, 0, 0, 0), (.nop, 0, 0, 0, 0), (.iload_n 1, 1, 0, 0, 0), (.aaload, 1, 0, 0, 0), (.getfield 110, 3, 4, 13, 3), (.nop, 0, 0, 0, 0), (.nop, 0, 0, 0, 0), (.iload_n 2, 1, 0, 0, 0), (.aaload, 1, 0, 0, 0), (.invokevirtual 130, 3, 93, 5, 0), (.nop, 0, 0, 0, 0), (.nop, 0, 0, 0, 0), (.ireturn, 1, 0, 0, 0)]], 1, 2, 2, 43, 0, 0)
def mi_X10_init : ev_M := (yX10_init, cX10_init, 5, none, [[(.aload_n 0, 1, 0, 0, 0), (.invokespecial 1, 3, 999, 0, 0), (.nop, 0, 0, 0, 0), (.nop, 0, 0, 0, 0), (.aload_n 0, 1, 0, 0, 0), (.bipush 80, 2, 0, 0, 0), (.nop, 0, 0, 0, 0), (.anewarray 9, 3, 3, 0, 0), (.nop, 0, 0, 0, 0), (.nop, 0, 0, 0, 0), (.putfield 11, 3, 9, 1, 3), (.nop, 0, 0, 0, 0), (.nop, 0, 0, 0, 0), (.aload_n 0, 1, 0, 0, 0), (.bipush 40, 2, 0, 0, 0), (.nop, 0, 0, 0, 0), (.newarray .int, 2, 0, 0, 0), (.nop, 0, 0, 0, 0), (.putfield 15, 3, 9, 8, 3), (.nop, 0, 0, 0, 0), (.nop, 0, 0, 0, 0), (.aload_n 0, 1, 0, 0, 0), (.bipush 40, 2, 0, 0, 0), (.nop, 0, 0, 0, 0), (.newarray .int, 2, 0, 0, 0), (.nop, 0, 0, 0, 0), (.putfield 19, 3, 9, 10, 3), (.nop, 0, 0, 0, 0), (.nop, 0, 0, 0, 0), (.aload_n 0, 1, 0, 0, 0), (.new 22, 3, 0, 0, 0), (.nop, 0, 0, 0, 0)],
    [(.nop, 0, 0, 0, 0), (.dup, 1, 0, 0, 0), (.invokespecial 24, 3, 1, 0, 0), (.nop, 0, 0, 0, 0), (.nop, 0, 0, 0, 0), (.putfield 25, 3, 9, 12, 3), (.nop, 0, 0, 0, 0), (.nop, 0, 0, 0, 0), (.aload_n 0, 1, 0, 0, 0), (.new 29, 3, 3, 0, 0), (.nop, 0, 0, 0, 0), (.nop, 0, 0, 0, 0), (.dup, 1, 0, 0, 0), (.invokespecial 31, 3, 79, 0, 0), (.nop, 0, 0, 0, 0), (.nop, 0, 0, 0, 0), (.putfield 32, 3, 9, 13, 3), (.nop, 0, 0, 0, 0), (.nop, 0, 0, 0, 0), (.aload_n 0, 1, 0, 0, 0), (.new 36, 3, 8, 0, 0), (.nop, 0, 0, 0, 0), (.nop, 0, 0, 0, 0), (.dup, 1, 0, 0, 0), (.aconst_null, 1, 0, 0, 0), (.iconst 0, 1, 0, 0, 0), (.anewarray 38, 3, 4, 0, 0), (.nop, 0, 0, 0, 0), (.nop, 0, 0, 0, 0), (.invokespecial 40, 3, 97, 0, 0), (.nop, 0, 0, 0, 0), (.nop, 0, 0, 0, 0)],
    [(.putfield 43, 3, 9, 14, 3), (.nop, 0, 0, 0, 0), (.nop, 0, 0, 0, 0), (.iconst 2, 1, 0, 0, 0), (.bipush 6, 2, 0, 0, 0), (.nop, 0, 0, 0, 0), (.iload_n 1, 1, 0, 0, 0), (.invokestatic 47, 3, 997, 0, 0), (.nop, 0, 0, 0, 0), (.nop, 0, 0, 0, 0), (.invokestatic 53, 3, 998, 0, 0), (.nop, 0, 0, 0, 0), (.nop, 0, 0, 0, 0), (.istore_n 3, 1, 0, 0, 0), (.aload_n 0, 1, 0, 0, 0), (.iload_n 3, 1, 0, 0, 0), (.anewarray 56, 3, 5, 0, 0), (.nop, 0, 0, 0, 0), (.nop, 0, 0, 0, 0), (.putfield 58, 3, 9, 0, 3), (.nop, 0, 0, 0, 0), (.nop, 0, 0, 0, 0), (.iconst 0, 1, 0, 0, 0), (.istore 4, 2, 0, 0, 0), (.nop, 0, 0, 0, 0), (.iload 4, 2, 0, 0, 0), (.nop, 0, 0, 0, 0), (.iload_n 3, 1, 0, 0, 0), (.if_icmp .ge 30, 3, 0, 0, 0), (.nop, 0, 0, 0, 0), (.nop, 0, 0, 0, 0), (.aload_n 0, 1, 0, 0, 0)],
    [(.getfield 58, 3, 9, 0, 3), (.nop, 0, 0, 0, 0), (.nop, 0, 0, 0, 0), (.iload 4, 2, 0, 0, 0), (.nop, 0, 0, 0, 0), (.new 56, 3, 4, 0, 0), (.nop, 0, 0, 0, 0), (.nop, 0, 0, 0, 0), (.dup, 1, 0, 0, 0), (.iload_n 2, 1, 0, 0, 0), (.i2l, 1, 0, 0, 0), (.iload 4, 2, 0, 0, 0), (.nop, 0, 0, 0, 0), (.i2l, 1, 0, 0, 0), (.ladd, 1, 0, 0, 0), (.iload_n 3, 1, 0, 0, 0), (.invokespecial 62, 3, 83, 0, 0), (.nop, 0, 0, 0, 0), (.nop, 0, 0, 0, 0), (.aastore, 1, 0, 0, 0), (.iinc 4 1, 3, 0, 0, 0), (.nop, 0, 0, 0, 0), (.nop, 0, 0, 0, 0), (.goto (-30), 3, 0, 0, 0), (.nop, 0, 0, 0, 0), (.nop, 0, 0, 0, 0), (.aload_n 0, 1, 0, 0, 0), (.getfield 43, 3, 9, 14, 3), (.nop, 0, 0, 0, 0), (.nop, 0, 0, 0, 0), (.invokevirtual 65, 3, 96, 8, 0), (.nop, 0, 0, 0, 0)],
    [(.nop, 0, 0, 0, 0), (.return_, 1, 0, 0, 0)]], 2, 2, 3, 56, 125, 2699)
def mi_X10_inside : ev_M := (yX10_inside, cX10_inside, 6, (some .long), [[(.aload_n 0, 1, 0, 0, 0), (.iload_n 1, 1, 0, 0, 0), (.iload_n 2, 1, 0, 0, 0), (.invokevirtual 103, 3, 2, 9, 0), (.nop, 0, 0, 0, 0), (.nop, 0, 0, 0, 0), (.ifCond .eq 21, 3, 0, 0, 0), (.nop, 0, 0, 0, 0), (.nop, 0, 0, 0, 0), (.aload_n 0, 1, 0, 0, 0), (.getfield 58, 3, 9, 0, 3), (.nop, 0, 0, 0, 0), (.nop, 0, 0, 0, 0), (.iload_n 1, 1, 0, 0, 0), (.aaload, 1, 0, 0, 0), (.getfield 110, 3, 4, 13, 3), (.nop, 0, 0, 0, 0), (.nop, 0, 0, 0, 0), (.iload_n 2, 1, 0, 0, 0), (.aaload, 1, 0, 0, 0), (.iload_n 3, 1, 0, 0, 0), (.invokevirtual 122, 3, 90, 5, 0), (.nop, 0, 0, 0, 0), (.nop, 0, 0, 0, 0), (.goto 4, 3, 0, 0, 0), (.nop, 0, 0, 0, 0), (.nop, 0, 0, 0, 0), (.aconst_null, 1, 0, 0, 0), (.astore 5, 2, 0, 0, 0), (.nop, 0, 0, 0, 0), (.aload 5, 2, 0, 0, 0), (.nop, 0, 0, 0, 0)],
    [(.ifnonnull 5, 3, 0, 0, 0), (.nop, 0, 0, 0, 0), (.nop, 0, 0, 0, 0), (.lconst 0, 1, 0, 0, 0), (.lreturn, 1, 0, 0, 0), (.nop, 0, 0, 0, 0), (.nop, 0, 0, 0, 0), (.nop, 0, 0, 0, 0), (.nop, 0, 0, 0, 0), (.nop, 0, 0, 0, 0), (.nop, 0, 0, 0, 0), (.nop, 0, 0, 0, 0), (.nop, 0, 0, 0, 0), (.nop, 0, 0, 0, 0), (.nop, 0, 0, 0, 0), (.nop, 0, 0, 0, 0), (.nop, 0, 0, 0, 0), (.nop, 0, 0, 0, 0), (.nop, 0, 0, 0, 0), (.nop, 0, 0, 0, 0), (.nop, 0, 0, 0, 0), (.nop, 0, 0, 0, 0), (.nop, 0, 0, 0, 0), (.nop, 0, 0, 0, 0), (.nop, 0, 0, 0, 0), (.nop, 0, 0, 0, 0), (.nop, 0, 0, 0, 0), (.nop, 0, 0, 0, 0), (.nop, 0, 0, 0, 0), (.nop, 0, 0, 0, 0), (.nop, 0, 0, 0, 0), (.nop, 0, 0, 0, 0)],
    [(.nop, 0, 0, 0, 0), (.nop, 0, 0, 0, 0), (.nop, 0, 0, 0, 0), (.nop, 0, 0, 0, 0), (.nop, 0, 0, 0, 0), (.nop, 0, 0, 0, 0), (.nop, 0, 0, 0, 0), (.nop, 0, 0, 0, 0), (.nop, 0, 0, 0, 0), (.nop, 0, 0, 0, 0), (.nop, 0, 0, 0, 0), (.nop, 0, 0, 0, 0), (.nop, 0, 0, 0, 0), (.nop, 0, 0, 0, 0), (.nop, 0, 0, 0, 0), (.nop, 0, 0, 0, 0), (.nop, 0, 0, 0, 0), (.nop, 0, 0, 0, 0), (.nop, 0, 0, 0, 0), (.nop, 0, 0, 0, 0), (.nop, 0, 0, 0, 0), (.nop, 0, 0, 0, 0), (.nop, 0, 0, 0, 0), (.nop, 0, 0, 0, 0), (.nop, 0, 0, 0, 0), (.nop, 0, 0, 0, 0), (.nop, 0, 0, 0, 0), (.nop, 0, 0, 0, 0), (.nop, 0, 0, 0, 0), (.nop, 0, 0, 0, 0), (.nop, 0, 0, 0, 0), (.nop, 0, 0, 0, 0)],
    [(.nop, 0, 0, 0, 0), (.nop, 0, 0, 0, 0), (.nop, 0, 0, 0, 0), (.nop, 0, 0, 0, 0), (.nop, 0, 0, 0, 0), (.nop, 0, 0, 0, 0), (.nop, 0, 0, 0, 0), (.nop, 0, 0, 0, 0), (.nop, 0, 0, 0, 0), (.nop, 0, 0, 0, 0), (.nop, 0, 0, 0, 0)]], 1, 4, 2, 43, 0, 0)
def mi_X10_isLetter : ev_M := (yX10_isLetter, cX10_isLetter, 2, (some .boolean), [[(.iload_n 1, 1, 0, 0, 0), (.ifCond .lt 15, 3, 0, 0, 0), (.nop, 0, 0, 0, 0), (.nop, 0, 0, 0, 0), (.iload_n 1, 1, 0, 0, 0), (.aload_n 0, 1, 0, 0, 0), (.getfield 107, 3, 9, 2, 0), (.nop, 0, 0, 0, 0), (.nop, 0, 0, 0, 0), (.if_icmp .ge 7, 3, 0, 0, 0), (.nop, 0, 0, 0, 0), (.nop, 0, 0, 0, 0), (.nop, 0, 0, 0, 0), (.nop, 0, 0, 0, 0), (.nop, 0, 0, 0, 0), (.nop, 0, 0, 0, 0), (.iconst 0, 1, 0, 0, 0), (.ireturn, 1, 0, 0, 0)]], 1, 1, 0, 0, 0, 0)
def mi_X10_isUser : ev_M := (yX10_isUser, cX10_isUser, 2, (some .boolean), [[(.iload_n 1, 1, 0, 0, 0), (.ifCond .lt 16, 3, 0, 0, 0), (.nop, 0, 0, 0, 0), (.nop, 0, 0, 0, 0), (.iload_n 1, 1, 0, 0, 0), (.aload_n 0, 1, 0, 0, 0), (.getfield 58, 3, 9, 0, 3), (.nop, 0, 0, 0, 0), (.nop, 0, 0, 0, 0), (.arraylength, 1, 0, 0, 0), (.if_icmp .ge 7, 3, 0, 0, 0), (.nop, 0, 0, 0, 0), (.nop, 0, 0, 0, 0), (.iconst 1, 1, 0, 0, 0), (.goto 4, 3, 0, 0, 0), (.nop, 0, 0, 0, 0), (.nop, 0, 0, 0, 0), (.iconst 0, 1, 0, 0, 0), (.ireturn, 1, 0, 0, 0)]], 1, 1, 0, 0, 0, 0)
def mi_X10_letter : ev_M := (yX10_letter, cX10_letter, 4, (some .int), [[(.aload_n 0, 1, 0, 0, 0), (.iload_n 1, 1, 0, 0, 0), (.invokevirtual 133, 3, 14, 9, 0), (.nop, 0, 0, 0, 0), (.nop, 0, 0, 0, 0), (.ifCond .ne 5, 3, 0, 0, 0), (.nop, 0, 0, 0, 0), (.nop, 0, 0, 0, 0), (.iconst (-1), 1, 0, 0, 0), (.ireturn, 1, 0, 0, 0), (.nop, 0, 0, 0, 0), (.nop, 0, 0, 0, 0), (.nop, 0, 0, 0, 0), (.nop, 0, 0, 0, 0), (.nop, 0, 0, 0, 0), (.nop, 0, 0, 0, 0), (.nop, 0, 0, 0, 0), (.nop, 0, 0, 0, 0), (.nop, 0, 0, 0, 0), (.nop, 0, 0, 0, 0), (.nop, 0, 0, 0, 0), (.nop, 0, 0, 0, 0), (.nop, 0, 0, 0, 0), (.nop, 0, 0, 0, 0), (.nop, 0, 0, 0, 0), (.nop, 0, 0, 0, 0), (.nop, 0, 0, 0, 0), (.nop, 0, 0, 0, 0), (.nop, 0, 0, 0, 0), (.nop, 0, 0, 0, 0), (.nop, 0, 0, 0, 0), (.nop, 0, 0, 0, 0)],
    [(.nop, 0, 0, 0, 0), (.nop, 0, 0, 0, 0), (.nop, 0, 0, 0, 0), (.nop, 0, 0, 0, 0), (.nop, 0, 0, 0, 0), (.nop, 0, 0, 0, 0), (.nop, 0, 0, 0, 0), (.nop, 0, 0, 0, 0), (.nop, 0, 0, 0, 0), (.nop, 0, 0, 0, 0), (.nop, 0, 0, 0, 0), (.nop, 0, 0, 0, 0)]], 1, 2, 1, 21, 0, 0)
def mi_X10_look : ev_M := (yX10_look, cX10_look, 2, (some .int), [[(.aload_n 0, 1, 0, 0, 0), (.iload_n 1, 1, 0, 0, 0), (.invokevirtual 76, 3, 15, 9, 0), (.nop, 0, 0, 0, 0), (.nop, 0, 0, 0, 0), (.ifCond .ne 5, 3, 0, 0, 0), (.nop, 0, 0, 0, 0), (.nop, 0, 0, 0, 0), (.iconst (-1), 1, 0, 0, 0), (.ireturn, 1, 0, 0, 0), (.aload_n 0, 1, 0, 0, 0), (.getfield 58, 3, 9, 0, 3), (.nop, 0, 0, 0, 0), (.nop, 0, 0, 0, 0), (.iload_n 1, 1, 0, 0, 0), (.aaload, 1, 0, 0, 0), (.invokevirtual 265, 3, 82, 4, 0), (.nop, 0, 0, 0, 0), (.nop, 0, 0, 0, 0), (.aload_n 0, 1, 0, 0, 0), (.dup, 1, 0, 0, 0), (.getfield 268, 3, 9, 7, 0), (.nop, 0, 0, 0, 0), (.nop, 0, 0, 0, 0), (.iconst 1, 1, 0, 0, 0), (.iadd, 1, 0, 0, 0), (.putfield 268, 3, 9, 7, 0), (.nop, 0, 0, 0, 0), (.nop, 0, 0, 0, 0), (.aload_n 0, 1, 0, 0, 0), (.getfield 268, 3, 9, 7, 0), (.nop, 0, 0, 0, 0)],
    [(.nop, 0, 0, 0, 0), (.ireturn, 1, 0, 0, 0)]], 1, 1, 2, 42, 0, 0)
def mi_X10_number : ev_M := (yX10_number, cX10_number, 4, (some .long), [[(.aload_n 0, 1, 0, 0, 0), (.iload_n 1, 1, 0, 0, 0), (.invokevirtual 76, 3, 15, 9, 0), (.nop, 0, 0, 0, 0), (.nop, 0, 0, 0, 0), (.ifCond .eq 15, 3, 0, 0, 0), (.nop, 0, 0, 0, 0), (.nop, 0, 0, 0, 0), (.aload_n 0, 1, 0, 0, 0), (.getfield 58, 3, 9, 0, 3), (.nop, 0, 0, 0, 0), (.nop, 0, 0, 0, 0), (.iload_n 1, 1, 0, 0, 0), (.aaload, 1, 0, 0, 0), (.invokevirtual 80, 3, 84, 4, 0), (.nop, 0, 0, 0, 0), (.nop, 0, 0, 0, 0), (.ifCond .ne 5, 3, 0, 0, 0), (.nop, 0, 0, 0, 0), (.nop, 0, 0, 0, 0), (.lconst 0, 1, 0, 0, 0), (.lreturn, 1, 0, 0, 0), (.nop, 0, 0, 0, 0), (.nop, 0, 0, 0, 0), (.nop, 0, 0, 0, 0), (.nop, 0, 0, 0, 0), (.nop, 0, 0, 0, 0), (.nop, 0, 0, 0, 0), (.nop, 0, 0, 0, 0), (.nop, 0, 0, 0, 0), (.nop, 0, 0, 0, 0), (.nop, 0, 0, 0, 0)],
    [(.nop, 0, 0, 0, 0), (.nop, 0, 0, 0, 0), (.nop, 0, 0, 0, 0), (.nop, 0, 0, 0, 0), (.nop, 0, 0, 0, 0), (.nop, 0, 0, 0, 0), (.nop, 0, 0, 0, 0), (.nop, 0, 0, 0, 0), (.nop, 0, 0, 0, 0), (.nop, 0, 0, 0, 0), (.nop, 0, 0, 0, 0), (.nop, 0, 0, 0, 0), (.nop, 0, 0, 0, 0), (.nop, 0, 0, 0, 0), (.nop, 0, 0, 0, 0), (.nop, 0, 0, 0, 0), (.nop, 0, 0, 0, 0), (.nop, 0, 0, 0, 0), (.nop, 0, 0, 0, 0), (.nop, 0, 0, 0, 0), (.nop, 0, 0, 0, 0), (.nop, 0, 0, 0, 0), (.nop, 0, 0, 0, 0), (.nop, 0, 0, 0, 0), (.nop, 0, 0, 0, 0), (.nop, 0, 0, 0, 0), (.nop, 0, 0, 0, 0), (.nop, 0, 0, 0, 0), (.nop, 0, 0, 0, 0), (.nop, 0, 0, 0, 0), (.nop, 0, 0, 0, 0), (.nop, 0, 0, 0, 0)],
    [(.nop, 0, 0, 0, 0), (.nop, 0, 0, 0, 0), (.nop, 0, 0, 0, 0), (.nop, 0, 0, 0, 0), (.nop, 0, 0, 0, 0), (.nop, 0, 0, 0, 0), (.nop, 0, 0, 0, 0), (.nop, 0, 0, 0, 0), (.nop, 0, 0, 0, 0), (.nop, 0, 0, 0, 0), (.nop, 0, 0, 0, 0), (.nop, 0, 0, 0, 0), (.nop, 0, 0, 0, 0), (.nop, 0, 0, 0, 0), (.nop, 0, 0, 0, 0), (.nop, 0, 0, 0, 0), (.nop, 0, 0, 0, 0), (.nop, 0, 0, 0, 0), (.nop, 0, 0, 0, 0), (.nop, 0, 0, 0, 0), (.nop, 0, 0, 0, 0), (.nop, 0, 0, 0, 0), (.nop, 0, 0, 0, 0), (.nop, 0, 0, 0, 0), (.nop, 0, 0, 0, 0), (.nop, 0, 0, 0, 0), (.nop, 0, 0, 0, 0), (.nop, 0, 0, 0, 0), (.nop, 0, 0, 0, 0), (.nop, 0, 0, 0, 0), (.nop, 0, 0, 0, 0), (.nop, 0, 0, 0, 0)],
    [(.nop, 0, 0, 0, 0), (.nop, 0, 0, 0, 0), (.nop, 0, 0, 0, 0), (.nop, 0, 0, 0, 0), (.nop, 0, 0, 0, 0)]], 1, 2, 1, 21, 0, 0)
def mi_X10_oneIf : ev_M := (yX10_oneIf, cX10_oneIf, 1, (some .int), [[(.iload_n 0, 1, 0, 0, 0), (.ifCond .eq 7, 3, 0, 0, 0), (.nop, 0, 0, 0, 0), (.nop, 0, 0, 0, 0), (.nop, 0, 0, 0, 0), (.nop, 0, 0, 0, 0), (.nop, 0, 0, 0, 0), (.nop, 0, 0, 0, 0), (.iconst 0, 1, 0, 0, 0), (.ireturn, 1, 0, 0, 0)]], 0, 1, 0, 0, 0, 0)
def mi_X10_publish : ev_M := (yX10_publish, cX10_publish, 5, (some .int), [[(.aload_n 0, 1, 0, 0, 0), (.iload_n 1, 1, 0, 0, 0), (.invokevirtual 76, 3, 15, 9, 0), (.nop, 0, 0, 0, 0), (.nop, 0, 0, 0, 0), (.ifCond .eq 14, 3, 0, 0, 0), (.nop, 0, 0, 0, 0), (.nop, 0, 0, 0, 0), (.iload_n 2, 1, 0, 0, 0), (.iconst 1, 1, 0, 0, 0), (.if_icmp .lt 9, 3, 0, 0, 0), (.nop, 0, 0, 0, 0), (.nop, 0, 0, 0, 0), (.iload_n 2, 1, 0, 0, 0), (.bipush 12, 2, 0, 0, 0), (.nop, 0, 0, 0, 0), (.if_icmp .le 5, 3, 0, 0, 0), (.nop, 0, 0, 0, 0), (.nop, 0, 0, 0, 0), (.iconst (-1), 1, 0, 0, 0), (.ireturn, 1, 0, 0, 0), (.aload_n 0, 1, 0, 0, 0), (.getfield 58, 3, 9, 0, 3), (.nop, 0, 0, 0, 0), (.nop, 0, 0, 0, 0), (.iload_n 1, 1, 0, 0, 0), (.aaload, 1, 0, 0, 0), (.astore_n 3, 1, 0, 0, 0), (.aload_n 3, 1, 0, 0, 0), (.invokevirtual 80, 3, 84, 4, 0), (.nop, 0, 0, 0, 0), (.nop, 0, 0, 0, 0)],
    [(.ifCond .ne 6, 3, 0, 0, 0), (.nop, 0, 0, 0, 0), (.nop, 0, 0, 0, 0), (.bipush (-2), 2, 0, 0, 0), (.nop, 0, 0, 0, 0), (.ireturn, 1, 0, 0, 0), (.nop, 0, 0, 0, 0), (.nop, 0, 0, 0, 0), (.nop, 0, 0, 0, 0), (.nop, 0, 0, 0, 0), (.nop, 0, 0, 0, 0), (.nop, 0, 0, 0, 0), (.nop, 0, 0, 0, 0), (.nop, 0, 0, 0, 0), (.nop, 0, 0, 0, 0), (.nop, 0, 0, 0, 0), (.nop, 0, 0, 0, 0), (.nop, 0, 0, 0, 0), (.nop, 0, 0, 0, 0), (.nop, 0, 0, 0, 0), (.nop, 0, 0, 0, 0), (.nop, 0, 0, 0, 0), (.nop, 0, 0, 0, 0), (.nop, 0, 0, 0, 0), (.nop, 0, 0, 0, 0), (.nop, 0, 0, 0, 0), (.nop, 0, 0, 0, 0), (.nop, 0, 0, 0, 0), (.nop, 0, 0, 0, 0), (.nop, 0, 0, 0, 0), (.nop, 0, 0, 0, 0), (.nop, 0, 0, 0, 0)],
    [(.nop, 0, 0, 0, 0), (.nop, 0, 0, 0, 0), (.nop, 0, 0, 0, 0), (.nop, 0, 0, 0, 0), (.nop, 0, 0, 0, 0), (.nop, 0, 0, 0, 0), (.nop, 0, 0, 0, 0), (.nop, 0, 0, 0, 0), (.nop, 0, 0, 0, 0), (.nop, 0, 0, 0, 0), (.nop, 0, 0, 0, 0), (.nop, 0, 0, 0, 0), (.nop, 0, 0, 0, 0), (.nop, 0, 0, 0, 0), (.nop, 0, 0, 0, 0), (.nop, 0, 0, 0, 0), (.nop, 0, 0, 0, 0), (.nop, 0, 0, 0, 0), (.nop, 0, 0, 0, 0), (.nop, 0, 0, 0, 0), (.nop, 0, 0, 0, 0), (.nop, 0, 0, 0, 0), (.nop, 0, 0, 0, 0)]], 1, 2, 1, 21, 0, 0)
def mi_X10_putOnTape : ev_M := (yX10_putOnTape, cX10_putOnTape, 3, none, [[(.bipush 24, 2, 0, 0, 0), (.nop, 0, 0, 0, 0), (.istore_n 2, 1, 0, 0, 0), (.iload_n 2, 1, 0, 0, 0), (.ifCond .lt 44, 3, 0, 0, 0), (.nop, 0, 0, 0, 0), (.nop, 0, 0, 0, 0), (.aload_n 0, 1, 0, 0, 0), (.getfield 68, 3, 9, 9, 0), (.nop, 0, 0, 0, 0), (.nop, 0, 0, 0, 0), (.bipush 40, 2, 0, 0, 0), (.nop, 0, 0, 0, 0), (.if_icmp .ge 29, 3, 0, 0, 0), (.nop, 0, 0, 0, 0), (.nop, 0, 0, 0, 0), (.aload_n 0, 1, 0, 0, 0), (.getfield 15, 3, 9, 8, 3), (.nop, 0, 0, 0, 0), (.nop, 0, 0, 0, 0), (.aload_n 0, 1, 0, 0, 0), (.getfield 68, 3, 9, 9, 0), (.nop, 0, 0, 0, 0), (.nop, 0, 0, 0, 0), (.iload_n 1, 1, 0, 0, 0), (.iload_n 2, 1, 0, 0, 0), (.iushr, 1, 0, 0, 0), (.sipush 255, 3, 0, 0, 0), (.nop, 0, 0, 0, 0), (.nop, 0, 0, 0, 0), (.iand, 1, 0, 0, 0), (.iastore, 1, 0, 0, 0)],
    [(.aload_n 0, 1, 0, 0, 0), (.dup, 1, 0, 0, 0), (.getfield 68, 3, 9, 9, 0), (.nop, 0, 0, 0, 0), (.nop, 0, 0, 0, 0), (.iconst 1, 1, 0, 0, 0), (.iadd, 1, 0, 0, 0), (.putfield 68, 3, 9, 9, 0), (.nop, 0, 0, 0, 0), (.nop, 0, 0, 0, 0), (.iinc 2 (-8), 3, 0, 0, 0), (.nop, 0, 0, 0, 0), (.nop, 0, 0, 0, 0), (.goto (-42), 3, 0, 0, 0), (.nop, 0, 0, 0, 0), (.nop, 0, 0, 0, 0), (.return_, 1, 0, 0, 0)]], 1, 1, 0, 0, 0, 0)
def mi_X10_readable : ev_M := (yX10_readable, cX10_readable, 3, (some .int), [[(.aload_n 0, 1, 0, 0, 0), (.iload_n 1, 1, 0, 0, 0), (.invokevirtual 133, 3, 14, 9, 0), (.nop, 0, 0, 0, 0), (.nop, 0, 0, 0, 0), (.ifCond .ne 5, 3, 0, 0, 0), (.nop, 0, 0, 0, 0), (.nop, 0, 0, 0, 0), (.iconst (-1), 1, 0, 0, 0), (.ireturn, 1, 0, 0, 0), (.nop, 0, 0, 0, 0), (.nop, 0, 0, 0, 0), (.nop, 0, 0, 0, 0), (.nop, 0, 0, 0, 0), (.nop, 0, 0, 0, 0), (.nop, 0, 0, 0, 0), (.nop, 0, 0, 0, 0), (.nop, 0, 0, 0, 0), (.nop, 0, 0, 0, 0), (.nop, 0, 0, 0, 0), (.nop, 0, 0, 0, 0), (.nop, 0, 0, 0, 0), (.nop, 0, 0, 0, 0), (.nop, 0, 0, 0, 0), (.nop, 0, 0, 0, 0), (.nop, 0, 0, 0, 0), (.nop, 0, 0, 0, 0), (.nop, 0, 0, 0, 0), (.nop, 0, 0, 0, 0), (.nop, 0, 0, 0, 0), (.nop, 0, 0, 0, 0), (.nop, 0, 0, 0, 0)]], 1, 1, 1, 21, 0, 0)
def mi_X10_register : ev_M := (yX10_register, cX10_register, 2, (some .int), [[(.aload_n 0, 1, 0, 0, 0), (.iload_n 1, 1, 0, 0, 0), (.invokevirtual 76, 3, 15, 9, 0), (.nop, 0, 0, 0, 0), (.nop, 0, 0, 0, 0), (.ifCond .ne 5, 3, 0, 0, 0), (.nop, 0, 0, 0, 0), (.nop, 0, 0, 0, 0), (.iconst (-1), 1, 0, 0, 0), (.ireturn, 1, 0, 0, 0), (.aload_n 0, 1, 0, 0, 0), (.getfield 58, 3, 9, 0, 3), (.nop, 0, 0, 0, 0), (.nop, 0, 0, 0, 0), (.iload_n 1, 1, 0, 0, 0), (.aaload, 1, 0, 0, 0), (.invokevirtual 80, 3, 84, 4, 0), (.nop, 0, 0, 0, 0), (.nop, 0, 0, 0, 0), (.ifCond .eq 5, 3, 0, 0, 0), (.nop, 0, 0, 0, 0), (.nop, 0, 0, 0, 0), (.nop, 0, 0, 0, 0), (.nop, 0, 0, 0, 0), (.aload_n 0, 1, 0, 0, 0), (.getfield 58, 3, 9, 0, 3), (.nop, 0, 0, 0, 0), (.nop, 0, 0, 0, 0), (.iload_n 1, 1, 0, 0, 0), (.aaload, 1, 0, 0, 0), (.invokevirtual 84, 3, 81, 4, 0), (.nop, 0, 0, 0, 0)],
    [(.nop, 0, 0, 0, 0), (.iconst 1, 1, 0, 0, 0), (.ireturn, 1, 0, 0, 0)]], 1, 1, 5, 131, 3, 12)
def mi_X10_rotate : ev_M := (yX10_rotate, cX10_rotate, 3, (some .int), [[(.aload_n 0, 1, 0, 0, 0), (.iload_n 1, 1, 0, 0, 0), (.invokevirtual 76, 3, 15, 9, 0), (.nop, 0, 0, 0, 0), (.nop, 0, 0, 0, 0), (.ifCond .ne 5, 3, 0, 0, 0), (.nop, 0, 0, 0, 0), (.nop, 0, 0, 0, 0), (.iconst (-1), 1, 0, 0, 0), (.ireturn, 1, 0, 0, 0), (.aload_n 0, 1, 0, 0, 0), (.getfield 58, 3, 9, 0, 3), (.nop, 0, 0, 0, 0), (.nop, 0, 0, 0, 0), (.iload_n 1, 1, 0, 0, 0), (.aaload, 1, 0, 0, 0), (.astore_n 2, 1, 0, 0, 0), (.aload_n 2, 1, 0, 0, 0), (.invokevirtual 80, 3, 84, 4, 0), (.nop, 0, 0, 0, 0), (.nop, 0, 0, 0, 0), (.ifCond .ne 6, 3, 0, 0, 0), (.nop, 0, 0, 0, 0), (.nop, 0, 0, 0, 0), (.bipush (-2), 2, 0, 0, 0), (.nop, 0, 0, 0, 0), (.ireturn, 1, 0, 0, 0), (.nop, 0, 0, 0, 0), (.nop, 0, 0, 0, 0), (.nop, 0, 0, 0, 0), (.nop, 0, 0, 0, 0), (.nop, 0, 0, 0, 0)],
    [(.nop, 0, 0, 0, 0), (.nop, 0, 0, 0, 0), (.nop, 0, 0, 0, 0), (.nop, 0, 0, 0, 0), (.nop, 0, 0, 0, 0), (.nop, 0, 0, 0, 0), (.nop, 0, 0, 0, 0), (.nop, 0, 0, 0, 0), (.nop, 0, 0, 0, 0), (.nop, 0, 0, 0, 0), (.nop, 0, 0, 0, 0), (.nop, 0, 0, 0, 0), (.nop, 0, 0, 0, 0), (.nop, 0, 0, 0, 0), (.nop, 0, 0, 0, 0), (.nop, 0, 0, 0, 0)]], 1, 1, 1, 21, 0, 0)
def mi_X10_same : ev_M := (yX10_same, cX10_same, 7, (some .int), [[(.aload_n 0, 1, 0, 0, 0), (.iload_n 1, 1, 0, 0, 0), (.iload_n 2, 1, 0, 0, 0), (.invokevirtual 103, 3, 2, 9, 0), (.nop, 0, 0, 0, 0), (.nop, 0, 0, 0, 0), (.ifCond .ne 5, 3, 0, 0, 0), (.nop, 0, 0, 0, 0), (.nop, 0, 0, 0, 0), (.iconst (-1), 1, 0, 0, 0), (.ireturn, 1, 0, 0, 0), (.aload_n 0, 1, 0, 0, 0), (.getfield 58, 3, 9, 0, 3), (.nop, 0, 0, 0, 0), (.nop, 0, 0, 0, 0), (.iload_n 1, 1, 0, 0, 0), (.aaload, 1, 0, 0, 0), (.getfield 110, 3, 4, 13, 3), (.nop, 0, 0, 0, 0), (.nop, 0, 0, 0, 0), (.iload_n 2, 1, 0, 0, 0), (.aaload, 1, 0, 0, 0), (.iload_n 3, 1, 0, 0, 0), (.invokevirtual 122, 3, 90, 5, 0), (.nop, 0, 0, 0, 0), (.nop, 0, 0, 0, 0), (.astore 5, 2, 0, 0, 0), (.nop, 0, 0, 0, 0), (.aload_n 0, 1, 0, 0, 0), (.getfield 58, 3, 9, 0, 3), (.nop, 0, 0, 0, 0), (.nop, 0, 0, 0, 0)],
    [(.iload_n 2, 1, 0, 0, 0), (.aaload, 1, 0, 0, 0), (.getfield 110, 3, 4, 13, 3), (.nop, 0, 0, 0, 0), (.nop, 0, 0, 0, 0), (.iload_n 1, 1, 0, 0, 0), (.aaload, 1, 0, 0, 0), (.iload 4, 2, 0, 0, 0), (.nop, 0, 0, 0, 0), (.invokevirtual 122, 3, 90, 5, 0), (.nop, 0, 0, 0, 0), (.nop, 0, 0, 0, 0), (.astore 6, 2, 0, 0, 0), (.nop, 0, 0, 0, 0), (.aload 5, 2, 0, 0, 0), (.nop, 0, 0, 0, 0), (.ifnull 8, 3, 0, 0, 0), (.nop, 0, 0, 0, 0), (.nop, 0, 0, 0, 0), (.nop, 0, 0, 0, 0), (.nop, 0, 0, 0, 0), (.nop, 0, 0, 0, 0), (.nop, 0, 0, 0, 0), (.nop, 0, 0, 0, 0), (.iconst (-1), 1, 0, 0, 0), (.ireturn, 1, 0, 0, 0), (.nop, 0, 0, 0, 0), (.nop, 0, 0, 0, 0), (.nop, 0, 0, 0, 0), (.nop, 0, 0, 0, 0), (.nop, 0, 0, 0, 0), (.nop, 0, 0, 0, 0)],
    [(.nop, 0, 0, 0, 0), (.nop, 0, 0, 0, 0), (.nop, 0, 0, 0, 0), (.nop, 0, 0, 0, 0), (.nop, 0, 0, 0, 0), (.nop, 0, 0, 0, 0), (.nop, 0, 0, 0, 0), (.nop, 0, 0, 0, 0), (.nop, 0, 0, 0, 0), (.nop, 0, 0, 0, 0), (.nop, 0, 0, 0, 0), (.nop, 0, 0, 0, 0), (.nop, 0, 0, 0, 0), (.nop, 0, 0, 0, 0), (.nop, 0, 0, 0, 0), (.nop, 0, 0, 0, 0), (.nop, 0, 0, 0, 0)]], 1, 4, 2, 43, 0, 0)
def mi_X10_session : ev_M := (yX10_session, cX10_session, 6, (some .int), [[(.aload_n 0, 1, 0, 0, 0), (.iload_n 1, 1, 0, 0, 0), (.iload_n 2, 1, 0, 0, 0), (.invokevirtual 103, 3, 2, 9, 0), (.nop, 0, 0, 0, 0), (.nop, 0, 0, 0, 0), (.ifCond .ne 5, 3, 0, 0, 0), (.nop, 0, 0, 0, 0), (.nop, 0, 0, 0, 0), (.iconst (-1), 1, 0, 0, 0), (.ireturn, 1, 0, 0, 0), (.iload_n 3, 1, 0, 0, 0), (.iconst (-1), 1, 0, 0, 0), (.if_icmp .ne 23, 3, 0, 0, 0), (.nop, 0, 0, 0, 0), (.nop, 0, 0, 0, 0), (.iload 4, 2, 0, 0, 0), (.nop, 0, 0, 0, 0), (.ifCond .ne 18, 3, 0, 0, 0), (.nop, 0, 0, 0, 0), (.nop, 0, 0, 0, 0), (.aload_n 0, 1, 0, 0, 0), (.getfield 58, 3, 9, 0, 3), (.nop, 0, 0, 0, 0), (.nop, 0, 0, 0, 0), (.iload_n 1, 1, 0, 0, 0), (.aaload, 1, 0, 0, 0), (.getfield 110, 3, 4, 13, 3), (.nop, 0, 0, 0, 0), (.nop, 0, 0, 0, 0), (.iload_n 2, 1, 0, 0, 0), (.aaload, 1, 0, 0, 0)],
    [(.getfield 114, 3, 5, 1, 0), (.nop, 0, 0, 0, 0), (.nop, 0, 0, 0, 0), (.ireturn, 1, 0, 0, 0), (.aload_n 0, 1, 0, 0, 0), (.getfield 58, 3, 9, 0, 3), (.nop, 0, 0, 0, 0), (.nop, 0, 0, 0, 0), (.iload_n 1, 1, 0, 0, 0), (.aaload, 1, 0, 0, 0), (.getfield 110, 3, 4, 13, 3), (.nop, 0, 0, 0, 0), (.nop, 0, 0, 0, 0), (.iload_n 2, 1, 0, 0, 0), (.aaload, 1, 0, 0, 0), (.iload_n 3, 1, 0, 0, 0), (.invokevirtual 122, 3, 90, 5, 0), (.nop, 0, 0, 0, 0), (.nop, 0, 0, 0, 0), (.astore 5, 2, 0, 0, 0), (.nop, 0, 0, 0, 0), (.aload 5, 2, 0, 0, 0), (.nop, 0, 0, 0, 0), (.ifnonnull 5, 3, 0, 0, 0), (.nop, 0, 0, 0, 0), (.nop, 0, 0, 0, 0), (.iconst (-1), 1, 0, 0, 0), (.ireturn, 1, 0, 0, 0), (.nop, 0, 0, 0, 0), (.nop, 0, 0, 0, 0), (.nop, 0, 0, 0, 0), (.nop, 0, 0, 0, 0)],
    [(.nop, 0, 0, 0, 0), (.nop, 0, 0, 0, 0), (.nop, 0, 0, 0, 0), (.nop, 0, 0, 0, 0), (.nop, 0, 0, 0, 0), (.nop, 0, 0, 0, 0), (.nop, 0, 0, 0, 0), (.nop, 0, 0, 0, 0), (.nop, 0, 0, 0, 0), (.nop, 0, 0, 0, 0), (.nop, 0, 0, 0, 0), (.nop, 0, 0, 0, 0), (.nop, 0, 0, 0, 0), (.nop, 0, 0, 0, 0), (.nop, 0, 0, 0, 0), (.nop, 0, 0, 0, 0), (.nop, 0, 0, 0, 0), (.nop, 0, 0, 0, 0), (.nop, 0, 0, 0, 0), (.nop, 0, 0, 0, 0), (.nop, 0, 0, 0, 0), (.nop, 0, 0, 0, 0), (.nop, 0, 0, 0, 0), (.nop, 0, 0, 0, 0), (.nop, 0, 0, 0, 0), (.nop, 0, 0, 0, 0), (.nop, 0, 0, 0, 0), (.nop, 0, 0, 0, 0), (.nop, 0, 0, 0, 0), (.nop, 0, 0, 0, 0), (.nop, 0, 0, 0, 0), (.nop, 0, 0, 0, 0)],
    [(.nop, 0, 0, 0, 0), (.nop, 0, 0, 0, 0), (.nop, 0, 0, 0, 0), (.nop, 0, 0, 0, 0), (.nop, 0, 0, 0, 0), (.nop, 0, 0, 0, 0), (.nop, 0, 0, 0, 0), (.nop, 0, 0, 0, 0), (.nop, 0, 0, 0, 0), (.nop, 0, 0, 0, 0), (.nop, 0, 0, 0, 0), (.nop, 0, 0, 0, 0), (.nop, 0, 0, 0, 0), (.nop, 0, 0, 0, 0), (.nop, 0, 0, 0, 0), (.nop, 0, 0, 0, 0), (.nop, 0, 0, 0, 0), (.nop, 0, 0, 0, 0), (.nop, 0, 0, 0, 0), (.nop, 0, 0, 0, 0), (.nop, 0, 0, 0, 0), (.nop, 0, 0, 0, 0), (.nop, 0, 0, 0, 0), (.nop, 0, 0, 0, 0), (.nop, 0, 0, 0, 0), (.nop, 0, 0, 0, 0), (.nop, 0, 0, 0, 0), (.nop, 0, 0, 0, 0), (.nop, 0, 0, 0, 0), (.nop, 0, 0, 0, 0), (.nop, 0, 0, 0, 0), (.nop, 0, 0, 0, 0)],
    [(.nop, 0, 0, 0, 0), (.nop, 0, 0, 0, 0), (.nop, 0, 0, 0, 0), (.nop, 0, 0, 0, 0), (.nop, 0, 0, 0, 0), (.nop, 0, 0, 0, 0), (.nop, 0, 0, 0, 0), (.nop, 0, 0, 0, 0), (.nop, 0, 0, 0, 0), (.nop, 0, 0, 0, 0), (.nop, 0, 0, 0, 0), (.nop, 0, 0, 0, 0), (.nop, 0, 0, 0, 0), (.nop, 0, 0, 0, 0), (.nop, 0, 0, 0, 0), (.nop, 0, 0, 0, 0), (.nop, 0, 0, 0, 0), (.nop, 0, 0, 0, 0), (.nop, 0, 0, 0, 0), (.nop, 0, 0, 0, 0), (.nop, 0, 0, 0, 0), (.nop, 0, 0, 0, 0), (.nop, 0, 0, 0, 0), (.nop, 0, 0, 0, 0), (.nop, 0, 0, 0, 0), (.nop, 0, 0, 0, 0), (.nop, 0, 0, 0, 0), (.nop, 0, 0, 0, 0), (.nop, 0, 0, 0, 0), (.nop, 0, 0, 0, 0), (.nop, 0, 0, 0, 0), (.nop, 0, 0, 0, 0)],
    [(.nop, 0, 0, 0, 0), (.nop, 0, 0, 0, 0), (.nop, 0, 0, 0, 0), (.nop, 0, 0, 0, 0), (.nop, 0, 0, 0, 0), (.nop, 0, 0, 0, 0), (.nop, 0, 0, 0, 0), (.nop, 0, 0, 0, 0), (.nop, 0, 0, 0, 0), (.nop, 0, 0, 0, 0), (.nop, 0, 0, 0, 0), (.nop, 0, 0, 0, 0), (.nop, 0, 0, 0, 0), (.nop, 0, 0, 0, 0), (.nop, 0, 0, 0, 0), (.nop, 0, 0, 0, 0), (.nop, 0, 0, 0, 0), (.nop, 0, 0, 0, 0), (.nop, 0, 0, 0, 0), (.nop, 0, 0, 0, 0), (.nop, 0, 0, 0, 0), (.nop, 0, 0, 0, 0), (.nop, 0, 0, 0, 0), (.nop, 0, 0, 0, 0), (.nop, 0, 0, 0, 0), (.nop, 0, 0, 0, 0), (.nop, 0, 0, 0, 0), (.nop, 0, 0, 0, 0), (.nop, 0, 0, 0, 0)]], 1, 4, 2, 43, 0, 0)
def mi_X10_spoil : ev_M := (yX10_spoil, cX10_spoil, 5, (some .int), [[(.aload_n 0, 1, 0, 0, 0), (.iload_n 1, 1, 0, 0, 0), (.invokevirtual 133, 3, 14, 9, 0), (.nop, 0, 0, 0, 0), (.nop, 0, 0, 0, 0), (.ifCond .eq 15, 3, 0, 0, 0), (.nop, 0, 0, 0, 0), (.nop, 0, 0, 0, 0), (.nop, 0, 0, 0, 0), (.nop, 0, 0, 0, 0), (.nop, 0, 0, 0, 0), (.nop, 0, 0, 0, 0), (.nop, 0, 0, 0, 0), (.nop, 0, 0, 0, 0), (.nop, 0, 0, 0, 0), (.nop, 0, 0, 0, 0), (.nop, 0, 0, 0, 0), (.nop, 0, 0, 0, 0), (.nop, 0, 0, 0, 0), (.nop, 0, 0, 0, 0), (.iconst (-1), 1, 0, 0, 0), (.ireturn, 1, 0, 0, 0), (.nop, 0, 0, 0, 0), (.nop, 0, 0, 0, 0), (.nop, 0, 0, 0, 0), (.nop, 0, 0, 0, 0), (.nop, 0, 0, 0, 0), (.nop, 0, 0, 0, 0), (.nop, 0, 0, 0, 0), (.nop, 0, 0, 0, 0), (.nop, 0, 0, 0, 0), (.nop, 0, 0, 0, 0)],
    [(.nop, 0, 0, 0, 0), (.nop, 0, 0, 0, 0), (.nop, 0, 0, 0, 0), (.nop, 0, 0, 0, 0), (.nop, 0, 0, 0, 0), (.nop, 0, 0, 0, 0), (.nop, 0, 0, 0, 0), (.nop, 0, 0, 0, 0), (.nop, 0, 0, 0, 0), (.nop, 0, 0, 0, 0), (.nop, 0, 0, 0, 0), (.nop, 0, 0, 0, 0), (.nop, 0, 0, 0, 0), (.nop, 0, 0, 0, 0), (.nop, 0, 0, 0, 0), (.nop, 0, 0, 0, 0), (.nop, 0, 0, 0, 0), (.nop, 0, 0, 0, 0), (.nop, 0, 0, 0, 0), (.nop, 0, 0, 0, 0), (.nop, 0, 0, 0, 0), (.nop, 0, 0, 0, 0), (.nop, 0, 0, 0, 0), (.nop, 0, 0, 0, 0), (.nop, 0, 0, 0, 0), (.nop, 0, 0, 0, 0), (.nop, 0, 0, 0, 0)]], 1, 3, 1, 21, 0, 0)
def mi_X10_user : ev_M := (yX10_user, cX10_user, 4, (some .int), [[(.aload_n 0, 1, 0, 0, 0), (.iload_n 1, 1, 0, 0, 0), (.invokevirtual 76, 3, 15, 9, 0), (.nop, 0, 0, 0, 0), (.nop, 0, 0, 0, 0), (.ifCond .ne 5, 3, 0, 0, 0), (.nop, 0, 0, 0, 0), (.nop, 0, 0, 0, 0), (.iconst (-1), 1, 0, 0, 0), (.ireturn, 1, 0, 0, 0), (.aload_n 0, 1, 0, 0, 0), (.getfield 58, 3, 9, 0, 3), (.nop, 0, 0, 0, 0), (.nop, 0, 0, 0, 0), (.iload_n 1, 1, 0, 0, 0), (.aaload, 1, 0, 0, 0), (.astore_n 3, 1, 0, 0, 0), (.iload_n 2, 1, 0, 0, 0), (.tableswitch 89 0 7 #[46, 54, 59, 64, 69, 74, 79, 84], 46, 0, 0, 0), (.nop, 0, 0, 0, 0), (.nop, 0, 0, 0, 0), (.nop, 0, 0, 0, 0), (.nop, 0, 0, 0, 0), (.nop, 0, 0, 0, 0), (.nop, 0, 0, 0, 0), (.nop, 0, 0, 0, 0), (.nop, 0, 0, 0, 0), (.nop, 0, 0, 0, 0), (.nop, 0, 0, 0, 0), (.nop, 0, 0, 0, 0), (.nop, 0, 0, 0, 0), (.nop, 0, 0, 0, 0)],
    [(.nop, 0, 0, 0, 0), (.nop, 0, 0, 0, 0), (.nop, 0, 0, 0, 0), (.nop, 0, 0, 0, 0), (.nop, 0, 0, 0, 0), (.nop, 0, 0, 0, 0), (.nop, 0, 0, 0, 0), (.nop, 0, 0, 0, 0), (.nop, 0, 0, 0, 0), (.nop, 0, 0, 0, 0), (.nop, 0, 0, 0, 0), (.nop, 0, 0, 0, 0), (.nop, 0, 0, 0, 0), (.nop, 0, 0, 0, 0), (.nop, 0, 0, 0, 0), (.nop, 0, 0, 0, 0), (.nop, 0, 0, 0, 0), (.nop, 0, 0, 0, 0), (.nop, 0, 0, 0, 0), (.nop, 0, 0, 0, 0), (.nop, 0, 0, 0, 0), (.nop, 0, 0, 0, 0), (.nop, 0, 0, 0, 0), (.nop, 0, 0, 0, 0), (.nop, 0, 0, 0, 0), (.nop, 0, 0, 0, 0), (.nop, 0, 0, 0, 0), (.nop, 0, 0, 0, 0), (.nop, 0, 0, 0, 0), (.nop, 0, 0, 0, 0), (.nop, 0, 0, 0, 0), (.nop, 0, 0, 0, 0)],
    [(.aload_n 3, 1, 0, 0, 0), (.invokevirtual 80, 3, 84, 4, 0), (.nop, 0, 0, 0, 0), (.nop, 0, 0, 0, 0), (.invokestatic 180, 3, 19, 0, 0), (.nop, 0, 0, 0, 0), (.nop, 0, 0, 0, 0), (.ireturn, 1, 0, 0, 0), (.aload_n 3, 1, 0, 0, 0), (.getfield 97, 3, 4, 4, 0), (.nop, 0, 0, 0, 0), (.nop, 0, 0, 0, 0), (.ireturn, 1, 0, 0, 0), (.aload_n 3, 1, 0, 0, 0), (.invokevirtual 87, 3, 88, 4, 0), (.nop, 0, 0, 0, 0), (.nop, 0, 0, 0, 0), (.ireturn, 1, 0, 0, 0), (.aload_n 3, 1, 0, 0, 0), (.invokevirtual 184, 3, 85, 4, 0), (.nop, 0, 0, 0, 0), (.nop, 0, 0, 0, 0), (.ireturn, 1, 0, 0, 0), (.aload_n 3, 1, 0, 0, 0), (.getfield 91, 3, 4, 11, 0), (.nop, 0, 0, 0, 0), (.nop, 0, 0, 0, 0), (.ireturn, 1, 0, 0, 0), (.aload_n 3, 1, 0, 0, 0), (.getfield 187, 3, 4, 1, 0), (.nop, 0, 0, 0, 0), (.nop, 0, 0, 0, 0)],
    [(.ireturn, 1, 0, 0, 0), (.aload_n 3, 1, 0, 0, 0), (.invokevirtual 190, 3, 87, 4, 0), (.nop, 0, 0, 0, 0), (.nop, 0, 0, 0, 0), (.ireturn, 1, 0, 0, 0), (.aload_n 3, 1, 0, 0, 0), (.invokevirtual 193, 3, 89, 4, 0), (.nop, 0, 0, 0, 0), (.nop, 0, 0, 0, 0), (.ireturn, 1, 0, 0, 0), (.iconst (-1), 1, 0, 0, 0), (.ireturn, 1, 0, 0, 0)]], 1, 2, 1, 22, 0, 0)
def mi_X10_write : ev_M := (yX10_write, cX10_write, 5, (some .int), [[(.aload_n 0, 1, 0, 0, 0), (.iload_n 1, 1, 0, 0, 0), (.iload_n 2, 1, 0, 0, 0), (.invokevirtual 103, 3, 2, 9, 0), (.nop, 0, 0, 0, 0), (.nop, 0, 0, 0, 0), (.ifCond .eq 10, 3, 0, 0, 0), (.nop, 0, 0, 0, 0), (.nop, 0, 0, 0, 0), (.aload_n 0, 1, 0, 0, 0), (.getfield 68, 3, 9, 9, 0), (.nop, 0, 0, 0, 0), (.nop, 0, 0, 0, 0), (.ifCond .ne 5, 3, 0, 0, 0), (.nop, 0, 0, 0, 0), (.nop, 0, 0, 0, 0), (.iconst (-1), 1, 0, 0, 0), (.ireturn, 1, 0, 0, 0), (.nop, 0, 0, 0, 0), (.nop, 0, 0, 0, 0), (.nop, 0, 0, 0, 0), (.nop, 0, 0, 0, 0), (.nop, 0, 0, 0, 0), (.nop, 0, 0, 0, 0), (.nop, 0, 0, 0, 0), (.nop, 0, 0, 0, 0), (.nop, 0, 0, 0, 0), (.nop, 0, 0, 0, 0), (.nop, 0, 0, 0, 0), (.nop, 0, 0, 0, 0), (.nop, 0, 0, 0, 0), (.nop, 0, 0, 0, 0)],
    [(.nop, 0, 0, 0, 0), (.nop, 0, 0, 0, 0), (.nop, 0, 0, 0, 0), (.nop, 0, 0, 0, 0), (.nop, 0, 0, 0, 0), (.nop, 0, 0, 0, 0), (.nop, 0, 0, 0, 0), (.nop, 0, 0, 0, 0), (.nop, 0, 0, 0, 0), (.nop, 0, 0, 0, 0), (.nop, 0, 0, 0, 0), (.nop, 0, 0, 0, 0), (.nop, 0, 0, 0, 0), (.nop, 0, 0, 0, 0), (.nop, 0, 0, 0, 0), (.nop, 0, 0, 0, 0), (.nop, 0, 0, 0, 0), (.nop, 0, 0, 0, 0), (.nop, 0, 0, 0, 0), (.nop, 0, 0, 0, 0), (.nop, 0, 0, 0, 0), (.nop, 0, 0, 0, 0), (.nop, 0, 0, 0, 0), (.nop, 0, 0, 0, 0), (.nop, 0, 0, 0, 0), (.nop, 0, 0, 0, 0), (.nop, 0, 0, 0, 0), (.nop, 0, 0, 0, 0), (.nop, 0, 0, 0, 0), (.nop, 0, 0, 0, 0), (.nop, 0, 0, 0, 0), (.nop, 0, 0, 0, 0)],
    [(.nop, 0, 0, 0, 0), (.nop, 0, 0, 0, 0), (.nop, 0, 0, 0, 0), (.nop, 0, 0, 0, 0), (.nop, 0, 0, 0, 0), (.nop, 0, 0, 0, 0), (.nop, 0, 0, 0, 0), (.nop, 0, 0, 0, 0), (.nop, 0, 0, 0, 0), (.nop, 0, 0, 0, 0), (.nop, 0, 0, 0, 0), (.nop, 0, 0, 0, 0), (.nop, 0, 0, 0, 0), (.nop, 0, 0, 0, 0), (.nop, 0, 0, 0, 0), (.nop, 0, 0, 0, 0), (.nop, 0, 0, 0, 0), (.nop, 0, 0, 0, 0), (.nop, 0, 0, 0, 0), (.nop, 0, 0, 0, 0), (.nop, 0, 0, 0, 0), (.nop, 0, 0, 0, 0), (.nop, 0, 0, 0, 0), (.nop, 0, 0, 0, 0), (.nop, 0, 0, 0, 0), (.nop, 0, 0, 0, 0), (.nop, 0, 0, 0, 0), (.nop, 0, 0, 0, 0), (.nop, 0, 0, 0, 0), (.nop, 0, 0, 0, 0), (.nop, 0, 0, 0, 0), (.nop, 0, 0, 0, 0)],
    [(.nop, 0, 0, 0, 0), (.nop, 0, 0, 0, 0), (.nop, 0, 0, 0, 0), (.nop, 0, 0, 0, 0), (.nop, 0, 0, 0, 0), (.nop, 0, 0, 0, 0), (.nop, 0, 0, 0, 0), (.nop, 0, 0, 0, 0), (.nop, 0, 0, 0, 0), (.nop, 0, 0, 0, 0), (.nop, 0, 0, 0, 0), (.nop, 0, 0, 0, 0), (.nop, 0, 0, 0, 0), (.nop, 0, 0, 0, 0), (.nop, 0, 0, 0, 0), (.nop, 0, 0, 0, 0), (.nop, 0, 0, 0, 0), (.nop, 0, 0, 0, 0), (.nop, 0, 0, 0, 0), (.nop, 0, 0, 0, 0), (.nop, 0, 0, 0, 0), (.nop, 0, 0, 0, 0), (.nop, 0, 0, 0, 0), (.nop, 0, 0, 0, 0), (.nop, 0, 0, 0, 0), (.nop, 0, 0, 0, 0), (.nop, 0, 0, 0, 0), (.nop, 0, 0, 0, 0), (.nop, 0, 0, 0, 0), (.nop, 0, 0, 0, 0), (.nop, 0, 0, 0, 0), (.nop, 0, 0, 0, 0)],
    [(.nop, 0, 0, 0, 0), (.nop, 0, 0, 0, 0), (.nop, 0, 0, 0, 0), (.nop, 0, 0, 0, 0), (.nop, 0, 0, 0, 0), (.nop, 0, 0, 0, 0), (.nop, 0, 0, 0, 0), (.nop, 0, 0, 0, 0), (.nop, 0, 0, 0, 0), (.nop, 0, 0, 0, 0), (.nop, 0, 0, 0, 0), (.nop, 0, 0, 0, 0), (.nop, 0, 0, 0, 0), (.nop, 0, 0, 0, 0), (.nop, 0, 0, 0, 0), (.nop, 0, 0, 0, 0), (.nop, 0, 0, 0, 0), (.nop, 0, 0, 0, 0)]], 1, 2, 2, 43, 0, 0)
def mi_X11_asSecret : ev_M := (yX11_asSecret, cX11_asSecret, 2, (some .long), [[(.lload_n 0, 1, 0, 0, 0), (.ldc2_w 228, 3, 0, 0, 2305843009213693951), (.nop, 0, 0, 0, 0), (.nop, 0, 0, 0, 0), (.land, 1, 0, 0, 0), (.ldc2_w 242, 3, 0, 0, 3), (.nop, 0, 0, 0, 0), (.nop, 0, 0, 0, 0), (.lload_n 0, 1, 0, 0, 0), (.bipush 61, 2, 0, 0, 0), (.nop, 0, 0, 0, 0), (.lushr, 1, 0, 0, 0), (.lmul, 1, 0, 0, 0), (.ladd, 1, 0, 0, 0), (.ldc2_w 244, 3, 0, 0, 2305843009213693949), (.nop, 0, 0, 0, 0), (.nop, 0, 0, 0, 0), (.lrem, 1, 0, 0, 0), (.lconst 1, 1, 0, 0, 0), (.ladd, 1, 0, 0, 0), (.lreturn, 1, 0, 0, 0)]], 0, 1, 0, 0, 0, 0)
def mi_X11_begin : ev_M := (yX11_begin, cX11_begin, 3, (some .int), [[(.aload_n 0, 1, 0, 0, 0), (.iload_n 1, 1, 0, 0, 0), (.invokevirtual 280, 3, 45, 10, 0), (.nop, 0, 0, 0, 0), (.nop, 0, 0, 0, 0), (.ifCond .eq 16, 3, 0, 0, 0), (.nop, 0, 0, 0, 0), (.nop, 0, 0, 0, 0), (.aload_n 0, 1, 0, 0, 0), (.iload_n 2, 1, 0, 0, 0), (.invokevirtual 280, 3, 45, 10, 0), (.nop, 0, 0, 0, 0), (.nop, 0, 0, 0, 0), (.ifCond .eq 8, 3, 0, 0, 0), (.nop, 0, 0, 0, 0), (.nop, 0, 0, 0, 0), (.iload_n 1, 1, 0, 0, 0), (.iload_n 2, 1, 0, 0, 0), (.if_icmp .ne 5, 3, 0, 0, 0), (.nop, 0, 0, 0, 0), (.nop, 0, 0, 0, 0), (.iconst (-1), 1, 0, 0, 0), (.ireturn, 1, 0, 0, 0), (.aload_n 0, 1, 0, 0, 0), (.getfield 46, 3, 10, 13, 3), (.nop, 0, 0, 0, 0), (.nop, 0, 0, 0, 0), (.iload_n 1, 1, 0, 0, 0), (.baload, 1, 0, 0, 0), (.ifCond .eq 12, 3, 0, 0, 0), (.nop, 0, 0, 0, 0), (.nop, 0, 0, 0, 0)],
    [(.nop, 0, 0, 0, 0), (.nop, 0, 0, 0, 0), (.nop, 0, 0, 0, 0), (.nop, 0, 0, 0, 0), (.nop, 0, 0, 0, 0), (.nop, 0, 0, 0, 0), (.nop, 0, 0, 0, 0), (.nop, 0, 0, 0, 0), (.nop, 0, 0, 0, 0), (.bipush (-2), 2, 0, 0, 0), (.nop, 0, 0, 0, 0), (.ireturn, 1, 0, 0, 0), (.nop, 0, 0, 0, 0), (.nop, 0, 0, 0, 0), (.nop, 0, 0, 0, 0), (.nop, 0, 0, 0, 0), (.nop, 0, 0, 0, 0), (.nop, 0, 0, 0, 0), (.nop, 0, 0, 0, 0), (.nop, 0, 0, 0, 0), (.nop, 0, 0, 0, 0), (.nop, 0, 0, 0, 0), (.nop, 0, 0, 0, 0), (.nop, 0, 0, 0, 0), (.nop, 0, 0, 0, 0), (.nop, 0, 0, 0, 0), (.nop, 0, 0, 0, 0), (.nop, 0, 0, 0, 0), (.nop, 0, 0, 0, 0), (.nop, 0, 0, 0, 0), (.nop, 0, 0, 0, 0)]], 1, 2, 1, 21, 0, 0)
def mi_X11_byteOf : ev_M := (yX11_byteOf, cX11_byteOf, 2, (some .int), [[(.iload_n 1, 1, 0, 0, 0), (.ifCond .lt 11, 3, 0, 0, 0), (.nop, 0, 0, 0, 0), (.nop, 0, 0, 0, 0), (.iload_n 1, 1, 0, 0, 0), (.aload_n 0, 1, 0, 0, 0), (.getfield 354, 3, 10, 75, 0), (.nop, 0, 0, 0, 0), (.nop, 0, 0, 0, 0), (.if_icmp .lt 7, 3, 0, 0, 0), (.nop, 0, 0, 0, 0), (.nop, 0, 0, 0, 0), (.iconst (-1), 1, 0, 0, 0), (.goto 9, 3, 0, 0, 0), (.nop, 0, 0, 0, 0), (.nop, 0, 0, 0, 0), (.nop, 0, 0, 0, 0), (.nop, 0, 0, 0, 0), (.nop, 0, 0, 0, 0), (.nop, 0, 0, 0, 0), (.nop, 0, 0, 0, 0), (.nop, 0, 0, 0, 0), (.ireturn, 1, 0, 0, 0)]], 1, 1, 0, 0, 0, 0)
def mi_X11_come : ev_M := (yX11_come, cX11_come, 6, (some .int), [[(.aload_n 0, 1, 0, 0, 0), (.iload_n 2, 1, 0, 0, 0), (.invokevirtual 280, 3, 45, 10, 0), (.nop, 0, 0, 0, 0), (.nop, 0, 0, 0, 0), (.ifCond .eq 11, 3, 0, 0, 0), (.nop, 0, 0, 0, 0), (.nop, 0, 0, 0, 0), (.aload_n 0, 1, 0, 0, 0), (.iload_n 1, 1, 0, 0, 0), (.invokevirtual 348, 3, 44, 10, 0), (.nop, 0, 0, 0, 0), (.nop, 0, 0, 0, 0), (.ifCond .ne 5, 3, 0, 0, 0), (.nop, 0, 0, 0, 0), (.nop, 0, 0, 0, 0), (.iconst (-1), 1, 0, 0, 0), (.ireturn, 1, 0, 0, 0), (.nop, 0, 0, 0, 0), (.nop, 0, 0, 0, 0), (.nop, 0, 0, 0, 0), (.nop, 0, 0, 0, 0), (.nop, 0, 0, 0, 0), (.nop, 0, 0, 0, 0), (.nop, 0, 0, 0, 0), (.nop, 0, 0, 0, 0), (.nop, 0, 0, 0, 0), (.nop, 0, 0, 0, 0), (.nop, 0, 0, 0, 0), (.nop, 0, 0, 0, 0), (.nop, 0, 0, 0, 0), (.nop, 0, 0, 0, 0)],
    [(.nop, 0, 0, 0, 0), (.nop, 0, 0, 0, 0), (.nop, 0, 0, 0, 0), (.nop, 0, 0, 0, 0), (.nop, 0, 0, 0, 0), (.nop, 0, 0, 0, 0), (.nop, 0, 0, 0, 0), (.nop, 0, 0, 0, 0), (.nop, 0, 0, 0, 0), (.nop, 0, 0, 0, 0), (.nop, 0, 0, 0, 0), (.nop, 0, 0, 0, 0), (.nop, 0, 0, 0, 0), (.nop, 0, 0, 0, 0), (.nop, 0, 0, 0, 0), (.nop, 0, 0, 0, 0), (.nop, 0, 0, 0, 0), (.nop, 0, 0, 0, 0), (.nop, 0, 0, 0, 0), (.nop, 0, 0, 0, 0), (.nop, 0, 0, 0, 0), (.nop, 0, 0, 0, 0), (.nop, 0, 0, 0, 0), (.nop, 0, 0, 0, 0), (.nop, 0, 0, 0, 0), (.nop, 0, 0, 0, 0), (.nop, 0, 0, 0, 0), (.nop, 0, 0, 0, 0), (.nop, 0, 0, 0, 0), (.nop, 0, 0, 0, 0), (.nop, 0, 0, 0, 0), (.nop, 0, 0, 0, 0)],
    [(.nop, 0, 0, 0, 0), (.nop, 0, 0, 0, 0), (.nop, 0, 0, 0, 0), (.nop, 0, 0, 0, 0), (.nop, 0, 0, 0, 0), (.nop, 0, 0, 0, 0), (.nop, 0, 0, 0, 0), (.nop, 0, 0, 0, 0), (.nop, 0, 0, 0, 0), (.nop, 0, 0, 0, 0), (.nop, 0, 0, 0, 0), (.nop, 0, 0, 0, 0), (.nop, 0, 0, 0, 0), (.nop, 0, 0, 0, 0), (.nop, 0, 0, 0, 0), (.nop, 0, 0, 0, 0), (.nop, 0, 0, 0, 0), (.nop, 0, 0, 0, 0), (.nop, 0, 0, 0, 0), (.nop, 0, 0, 0, 0), (.nop, 0, 0, 0, 0), (.nop, 0, 0, 0, 0), (.nop, 0, 0, 0, 0), (.nop, 0, 0, 0, 0), (.nop, 0, 0, 0, 0), (.nop, 0, 0, 0, 0), (.nop, 0, 0, 0, 0), (.nop, 0, 0, 0, 0), (.nop, 0, 0, 0, 0), (.nop, 0, 0, 0, 0), (.nop, 0, 0, 0, 0), (.nop, 0, 0, 0, 0)],
    [(.nop, 0, 0, 0, 0), (.nop, 0, 0, 0, 0), (.nop, 0, 0, 0, 0), (.nop, 0, 0, 0, 0), (.nop, 0, 0, 0, 0), (.nop, 0, 0, 0, 0), (.nop, 0, 0, 0, 0), (.nop, 0, 0, 0, 0), (.nop, 0, 0, 0, 0), (.nop, 0, 0, 0, 0), (.nop, 0, 0, 0, 0), (.nop, 0, 0, 0, 0), (.nop, 0, 0, 0, 0), (.nop, 0, 0, 0, 0), (.nop, 0, 0, 0, 0), (.nop, 0, 0, 0, 0), (.nop, 0, 0, 0, 0), (.nop, 0, 0, 0, 0), (.nop, 0, 0, 0, 0), (.nop, 0, 0, 0, 0), (.nop, 0, 0, 0, 0), (.nop, 0, 0, 0, 0), (.nop, 0, 0, 0, 0), (.nop, 0, 0, 0, 0), (.nop, 0, 0, 0, 0), (.nop, 0, 0, 0, 0), (.nop, 0, 0, 0, 0), (.nop, 0, 0, 0, 0), (.nop, 0, 0, 0, 0), (.nop, 0, 0, 0, 0), (.nop, 0, 0, 0, 0), (.nop, 0, 0, 0, 0)],
    [(.nop, 0, 0, 0, 0), (.nop, 0, 0, 0, 0), (.nop, 0, 0, 0, 0), (.nop, 0, 0, 0, 0), (.nop, 0, 0, 0, 0), (.nop, 0, 0, 0, 0), (.nop, 0, 0, 0, 0), (.nop, 0, 0, 0, 0), (.nop, 0, 0, 0, 0), (.nop, 0, 0, 0, 0), (.nop, 0, 0, 0, 0), (.nop, 0, 0, 0, 0), (.nop, 0, 0, 0, 0), (.nop, 0, 0, 0, 0), (.nop, 0, 0, 0, 0), (.nop, 0, 0, 0, 0), (.nop, 0, 0, 0, 0), (.nop, 0, 0, 0, 0), (.nop, 0, 0, 0, 0)]], 1, 2, 1, 21, 0, 0)
def mi_X11_copy : ev_M := (yX11_copy, cX11_copy, 3, (some .int), [[(.aload_n 0, 1, 0, 0, 0), (.iload_n 1, 1, 0, 0, 0), (.invokevirtual 348, 3, 44, 10, 0), (.nop, 0, 0, 0, 0), (.nop, 0, 0, 0, 0), (.ifCond .ne 5, 3, 0, 0, 0), (.nop, 0, 0, 0, 0), (.nop, 0, 0, 0, 0), (.iconst (-1), 1, 0, 0, 0), (.ireturn, 1, 0, 0, 0), (.nop, 0, 0, 0, 0), (.nop, 0, 0, 0, 0), (.nop, 0, 0, 0, 0), (.nop, 0, 0, 0, 0), (.nop, 0, 0, 0, 0), (.nop, 0, 0, 0, 0), (.nop, 0, 0, 0, 0), (.nop, 0, 0, 0, 0), (.nop, 0, 0, 0, 0), (.nop, 0, 0, 0, 0), (.nop, 0, 0, 0, 0), (.nop, 0, 0, 0, 0), (.nop, 0, 0, 0, 0), (.nop, 0, 0, 0, 0), (.nop, 0, 0, 0, 0), (.nop, 0, 0, 0, 0), (.nop, 0, 0, 0, 0), (.nop, 0, 0, 0, 0), (.nop, 0, 0, 0, 0), (.nop, 0, 0, 0, 0), (.nop, 0, 0, 0, 0), (.nop, 0, 0, 0, 0)],
    [(.nop, 0, 0, 0, 0), (.nop, 0, 0, 0, 0), (.nop, 0, 0, 0, 0), (.nop, 0, 0, 0, 0), (.nop, 0, 0, 0, 0), (.nop, 0, 0, 0, 0), (.nop, 0, 0, 0, 0), (.nop, 0, 0, 0, 0), (.nop, 0, 0, 0, 0), (.nop, 0, 0, 0, 0), (.nop, 0, 0, 0, 0), (.nop, 0, 0, 0, 0), (.nop, 0, 0, 0, 0), (.nop, 0, 0, 0, 0), (.nop, 0, 0, 0, 0), (.nop, 0, 0, 0, 0), (.nop, 0, 0, 0, 0), (.nop, 0, 0, 0, 0), (.nop, 0, 0, 0, 0), (.nop, 0, 0, 0, 0), (.nop, 0, 0, 0, 0), (.nop, 0, 0, 0, 0), (.nop, 0, 0, 0, 0), (.nop, 0, 0, 0, 0), (.nop, 0, 0, 0, 0), (.nop, 0, 0, 0, 0), (.nop, 0, 0, 0, 0), (.nop, 0, 0, 0, 0), (.nop, 0, 0, 0, 0), (.nop, 0, 0, 0, 0), (.nop, 0, 0, 0, 0), (.nop, 0, 0, 0, 0)],
    [(.nop, 0, 0, 0, 0), (.nop, 0, 0, 0, 0), (.nop, 0, 0, 0, 0), (.nop, 0, 0, 0, 0), (.nop, 0, 0, 0, 0), (.nop, 0, 0, 0, 0), (.nop, 0, 0, 0, 0), (.nop, 0, 0, 0, 0), (.nop, 0, 0, 0, 0), (.nop, 0, 0, 0, 0), (.nop, 0, 0, 0, 0), (.nop, 0, 0, 0, 0), (.nop, 0, 0, 0, 0), (.nop, 0, 0, 0, 0), (.nop, 0, 0, 0, 0), (.nop, 0, 0, 0, 0), (.nop, 0, 0, 0, 0), (.nop, 0, 0, 0, 0), (.nop, 0, 0, 0, 0), (.nop, 0, 0, 0, 0), (.nop, 0, 0, 0, 0), (.nop, 0, 0, 0, 0), (.nop, 0, 0, 0, 0), (.nop, 0, 0, 0, 0), (.nop, 0, 0, 0, 0), (.nop, 0, 0, 0, 0), (.nop, 0, 0, 0, 0), (.nop, 0, 0, 0, 0), (.nop, 0, 0, 0, 0), (.nop, 0, 0, 0, 0), (.nop, 0, 0, 0, 0), (.nop, 0, 0, 0, 0)],
    [(.nop, 0, 0, 0, 0), (.nop, 0, 0, 0, 0), (.nop, 0, 0, 0, 0), (.nop, 0, 0, 0, 0), (.nop, 0, 0, 0, 0), (.nop, 0, 0, 0, 0), (.nop, 0, 0, 0, 0), (.nop, 0, 0, 0, 0), (.nop, 0, 0, 0, 0), (.nop, 0, 0, 0, 0), (.nop, 0, 0, 0, 0), (.nop, 0, 0, 0, 0), (.nop, 0, 0, 0, 0), (.nop, 0, 0, 0, 0), (.nop, 0, 0, 0, 0), (.nop, 0, 0, 0, 0), (.nop, 0, 0, 0, 0), (.nop, 0, 0, 0, 0), (.nop, 0, 0, 0, 0), (.nop, 0, 0, 0, 0), (.nop, 0, 0, 0, 0), (.nop, 0, 0, 0, 0), (.nop, 0, 0, 0, 0), (.nop, 0, 0, 0, 0), (.nop, 0, 0, 0, 0), (.nop, 0, 0, 0, 0)]], 1, 1, 1, 21, 0, 0)
def mi_X11_count : ev_M := (yX11_count, cX11_count, 2, (some .int), [[(.iload_n 1, 1, 0, 0, 0), (.ifCond .ne 10, 3, 0, 0, 0), (.nop, 0, 0, 0, 0), (.nop, 0, 0, 0, 0), (.aload_n 0, 1, 0, 0, 0), (.getfield 337, 3, 10, 72, 0), (.nop, 0, 0, 0, 0), (.nop, 0, 0, 0, 0), (.goto 52, 3, 0, 0, 0), (.nop, 0, 0, 0, 0), (.nop, 0, 0, 0, 0), (.iload_n 1, 1, 0, 0, 0), (.iconst 1, 1, 0, 0, 0), (.if_icmp .ne 10, 3, 0, 0, 0), (.nop, 0, 0, 0, 0), (.nop, 0, 0, 0, 0), (.aload_n 0, 1, 0, 0, 0), (.getfield 351, 3, 10, 73, 0), (.nop, 0, 0, 0, 0), (.nop, 0, 0, 0, 0), (.goto 40, 3, 0, 0, 0), (.nop, 0, 0, 0, 0), (.nop, 0, 0, 0, 0), (.iload_n 1, 1, 0, 0, 0), (.iconst 2, 1, 0, 0, 0), (.if_icmp .ne 10, 3, 0, 0, 0), (.nop, 0, 0, 0, 0), (.nop, 0, 0, 0, 0), (.aload_n 0, 1, 0, 0, 0), (.getfield 439, 3, 10, 86, 0), (.nop, 0, 0, 0, 0), (.nop, 0, 0, 0, 0)],
    [(.goto 28, 3, 0, 0, 0), (.nop, 0, 0, 0, 0), (.nop, 0, 0, 0, 0), (.iload_n 1, 1, 0, 0, 0), (.iconst 3, 1, 0, 0, 0), (.if_icmp .ne 10, 3, 0, 0, 0), (.nop, 0, 0, 0, 0), (.nop, 0, 0, 0, 0), (.aload_n 0, 1, 0, 0, 0), (.getfield 354, 3, 10, 75, 0), (.nop, 0, 0, 0, 0), (.nop, 0, 0, 0, 0), (.goto 16, 3, 0, 0, 0), (.nop, 0, 0, 0, 0), (.nop, 0, 0, 0, 0), (.iload_n 1, 1, 0, 0, 0), (.iconst 4, 1, 0, 0, 0), (.if_icmp .ne 10, 3, 0, 0, 0), (.nop, 0, 0, 0, 0), (.nop, 0, 0, 0, 0), (.aload_n 0, 1, 0, 0, 0), (.getfield 331, 3, 10, 68, 0), (.nop, 0, 0, 0, 0), (.nop, 0, 0, 0, 0), (.goto 4, 3, 0, 0, 0), (.nop, 0, 0, 0, 0), (.nop, 0, 0, 0, 0), (.iconst (-1), 1, 0, 0, 0), (.ireturn, 1, 0, 0, 0)]], 1, 1, 0, 0, 0, 0)
def mi_X11_draw : ev_M := (yX11_draw, cX11_draw, 2, none, [[(.aload_n 0, 1, 0, 0, 0), (.getfield 49, 3, 10, 14, 3), (.nop, 0, 0, 0, 0), (.nop, 0, 0, 0, 0), (.iload_n 1, 1, 0, 0, 0), (.dup2, 1, 0, 0, 0), (.iaload, 1, 0, 0, 0), (.iconst 1, 1, 0, 0, 0), (.iadd, 1, 0, 0, 0), (.iastore, 1, 0, 0, 0), (.aload_n 0, 1, 0, 0, 0), (.aload_n 0, 1, 0, 0, 0), (.getfield 7, 3, 10, 1, 3), (.nop, 0, 0, 0, 0), (.nop, 0, 0, 0, 0), (.iload_n 1, 1, 0, 0, 0), (.laload, 1, 0, 0, 0), (.aload_n 0, 1, 0, 0, 0), (.getfield 49, 3, 10, 14, 3), (.nop, 0, 0, 0, 0), (.nop, 0, 0, 0, 0), (.iload_n 1, 1, 0, 0, 0), (.iaload, 1, 0, 0, 0), (.i2l, 1, 0, 0, 0), (.invokestatic 220, 3, 51, 0, 0), (.nop, 0, 0, 0, 0), (.nop, 0, 0, 0, 0), (.invokestatic 253, 3, 30, 0, 0), (.nop, 0, 0, 0, 0), (.nop, 0, 0, 0, 0), (.putfield 257, 3, 10, 31, 1), (.nop, 0, 0, 0, 0)],
    [(.nop, 0, 0, 0, 0), (.aload_n 0, 1, 0, 0, 0), (.ldc2_w 242, 3, 0, 0, 3), (.nop, 0, 0, 0, 0), (.nop, 0, 0, 0, 0), (.aload_n 0, 1, 0, 0, 0), (.getfield 257, 3, 10, 31, 1), (.nop, 0, 0, 0, 0), (.nop, 0, 0, 0, 0), (.invokestatic 239, 3, 55, 0, 0), (.nop, 0, 0, 0, 0), (.nop, 0, 0, 0, 0), (.putfield 261, 3, 10, 32, 1), (.nop, 0, 0, 0, 0), (.nop, 0, 0, 0, 0), (.return_, 1, 0, 0, 0)]], 1, 1, 2, 63, 0, 0)
def mi_X11_drawTerm : ev_M := (yX11_drawTerm, cX11_drawTerm, 2, none, [[(.aload_n 0, 1, 0, 0, 0), (.iload_n 1, 1, 0, 0, 0), (.invokevirtual 264, 3, 36, 10, 0), (.nop, 0, 0, 0, 0), (.nop, 0, 0, 0, 0), (.aload_n 0, 1, 0, 0, 0), (.aload_n 0, 1, 0, 0, 0), (.iconst 1, 1, 0, 0, 0), (.iconst 0, 1, 0, 0, 0), (.iconst 0, 1, 0, 0, 0), (.iconst 0, 1, 0, 0, 0), (.iconst 0, 1, 0, 0, 0), (.invokevirtual 249, 3, 65, 10, 0), (.nop, 0, 0, 0, 0), (.nop, 0, 0, 0, 0), (.putfield 268, 3, 10, 33, 0), (.nop, 0, 0, 0, 0), (.nop, 0, 0, 0, 0), (.aload_n 0, 1, 0, 0, 0), (.getfield 40, 3, 10, 11, 3), (.nop, 0, 0, 0, 0), (.nop, 0, 0, 0, 0), (.aload_n 0, 1, 0, 0, 0), (.getfield 246, 3, 10, 10, 0), (.nop, 0, 0, 0, 0), (.nop, 0, 0, 0, 0), (.aload_n 0, 1, 0, 0, 0), (.getfield 261, 3, 10, 32, 1), (.nop, 0, 0, 0, 0), (.nop, 0, 0, 0, 0), (.lastore, 1, 0, 0, 0), (.aload_n 0, 1, 0, 0, 0)],
    [(.getfield 43, 3, 10, 12, 3), (.nop, 0, 0, 0, 0), (.nop, 0, 0, 0, 0), (.aload_n 0, 1, 0, 0, 0), (.getfield 246, 3, 10, 10, 0), (.nop, 0, 0, 0, 0), (.nop, 0, 0, 0, 0), (.aload_n 0, 1, 0, 0, 0), (.getfield 268, 3, 10, 33, 0), (.nop, 0, 0, 0, 0), (.nop, 0, 0, 0, 0), (.iastore, 1, 0, 0, 0), (.aload_n 0, 1, 0, 0, 0), (.dup, 1, 0, 0, 0), (.getfield 246, 3, 10, 10, 0), (.nop, 0, 0, 0, 0), (.nop, 0, 0, 0, 0), (.iconst 1, 1, 0, 0, 0), (.iadd, 1, 0, 0, 0), (.putfield 246, 3, 10, 10, 0), (.nop, 0, 0, 0, 0), (.nop, 0, 0, 0, 0), (.return_, 1, 0, 0, 0)]], 1, 1, 3, 84, 0, 0)
def mi_X11_end : ev_M := (yX11_end, cX11_end, 2, (some .int), [[(.iload_n 1, 1, 0, 0, 0), (.ifCond .lt 18, 3, 0, 0, 0), (.nop, 0, 0, 0, 0), (.nop, 0, 0, 0, 0), (.iload_n 1, 1, 0, 0, 0), (.bipush 20, 2, 0, 0, 0), (.nop, 0, 0, 0, 0), (.if_icmp .gt 12, 3, 0, 0, 0), (.nop, 0, 0, 0, 0), (.nop, 0, 0, 0, 0), (.aload_n 0, 1, 0, 0, 0), (.getfield 331, 3, 10, 68, 0), (.nop, 0, 0, 0, 0), (.nop, 0, 0, 0, 0), (.bipush 20, 2, 0, 0, 0), (.nop, 0, 0, 0, 0), (.if_icmp .ge 5, 3, 0, 0, 0), (.nop, 0, 0, 0, 0), (.nop, 0, 0, 0, 0), (.iconst (-1), 1, 0, 0, 0), (.ireturn, 1, 0, 0, 0), (.nop, 0, 0, 0, 0), (.nop, 0, 0, 0, 0), (.nop, 0, 0, 0, 0), (.nop, 0, 0, 0, 0), (.nop, 0, 0, 0, 0), (.nop, 0, 0, 0, 0), (.nop, 0, 0, 0, 0), (.nop, 0, 0, 0, 0), (.nop, 0, 0, 0, 0), (.nop, 0, 0, 0, 0), (.nop, 0, 0, 0, 0)],
    [(.nop, 0, 0, 0, 0), (.nop, 0, 0, 0, 0), (.nop, 0, 0, 0, 0), (.nop, 0, 0, 0, 0), (.nop, 0, 0, 0, 0), (.nop, 0, 0, 0, 0), (.nop, 0, 0, 0, 0)]], 1, 1, 0, 0, 0, 0)
def mi_X11_feed : ev_M := (yX11_feed, cX11_feed, 8, (some .int), [[(.aload_n 0, 1, 0, 0, 0), (.getfield 331, 3, 10, 68, 0), (.nop, 0, 0, 0, 0), (.nop, 0, 0, 0, 0), (.bipush 20, 2, 0, 0, 0), (.nop, 0, 0, 0, 0), (.iadd, 1, 0, 0, 0), (.bipush 40, 2, 0, 0, 0), (.nop, 0, 0, 0, 0), (.if_icmp .le 6, 3, 0, 0, 0), (.nop, 0, 0, 0, 0), (.nop, 0, 0, 0, 0), (.nop, 0, 0, 0, 0), (.nop, 0, 0, 0, 0), (.nop, 0, 0, 0, 0), (.iconst 0, 1, 0, 0, 0), (.istore 6, 2, 0, 0, 0), (.nop, 0, 0, 0, 0), (.iload 6, 2, 0, 0, 0), (.nop, 0, 0, 0, 0), (.bipush 20, 2, 0, 0, 0), (.nop, 0, 0, 0, 0), (.if_icmp .ge 93, 3, 0, 0, 0), (.nop, 0, 0, 0, 0), (.nop, 0, 0, 0, 0), (.iload 6, 2, 0, 0, 0), (.nop, 0, 0, 0, 0), (.iconst 4, 1, 0, 0, 0), (.if_icmp .ge 7, 3, 0, 0, 0), (.nop, 0, 0, 0, 0), (.nop, 0, 0, 0, 0), (.iload_n 1, 1, 0, 0, 0)],
    [(.goto 39, 3, 0, 0, 0), (.nop, 0, 0, 0, 0), (.nop, 0, 0, 0, 0), (.iload 6, 2, 0, 0, 0), (.nop, 0, 0, 0, 0), (.bipush 8, 2, 0, 0, 0), (.nop, 0, 0, 0, 0), (.if_icmp .ge 7, 3, 0, 0, 0), (.nop, 0, 0, 0, 0), (.nop, 0, 0, 0, 0), (.iload_n 2, 1, 0, 0, 0), (.goto 28, 3, 0, 0, 0), (.nop, 0, 0, 0, 0), (.nop, 0, 0, 0, 0), (.iload 6, 2, 0, 0, 0), (.nop, 0, 0, 0, 0), (.bipush 12, 2, 0, 0, 0), (.nop, 0, 0, 0, 0), (.if_icmp .ge 7, 3, 0, 0, 0), (.nop, 0, 0, 0, 0), (.nop, 0, 0, 0, 0), (.iload_n 3, 1, 0, 0, 0), (.goto 17, 3, 0, 0, 0), (.nop, 0, 0, 0, 0), (.nop, 0, 0, 0, 0), (.iload 6, 2, 0, 0, 0), (.nop, 0, 0, 0, 0), (.bipush 16, 2, 0, 0, 0), (.nop, 0, 0, 0, 0), (.if_icmp .ge 8, 3, 0, 0, 0), (.nop, 0, 0, 0, 0), (.nop, 0, 0, 0, 0)],
    [(.iload 4, 2, 0, 0, 0), (.nop, 0, 0, 0, 0), (.goto 5, 3, 0, 0, 0), (.nop, 0, 0, 0, 0), (.nop, 0, 0, 0, 0), (.iload 5, 2, 0, 0, 0), (.nop, 0, 0, 0, 0), (.istore 7, 2, 0, 0, 0), (.nop, 0, 0, 0, 0), (.aload_n 0, 1, 0, 0, 0), (.getfield 196, 3, 10, 67, 3), (.nop, 0, 0, 0, 0), (.nop, 0, 0, 0, 0), (.aload_n 0, 1, 0, 0, 0), (.getfield 331, 3, 10, 68, 0), (.nop, 0, 0, 0, 0), (.nop, 0, 0, 0, 0), (.iload 7, 2, 0, 0, 0), (.nop, 0, 0, 0, 0), (.bipush 24, 2, 0, 0, 0), (.nop, 0, 0, 0, 0), (.bipush 8, 2, 0, 0, 0), (.nop, 0, 0, 0, 0), (.iload 6, 2, 0, 0, 0), (.nop, 0, 0, 0, 0), (.iconst 4, 1, 0, 0, 0), (.irem, 1, 0, 0, 0), (.imul, 1, 0, 0, 0), (.isub, 1, 0, 0, 0), (.ishr, 1, 0, 0, 0), (.sipush 255, 3, 0, 0, 0), (.nop, 0, 0, 0, 0)],
    [(.nop, 0, 0, 0, 0), (.iand, 1, 0, 0, 0), (.iastore, 1, 0, 0, 0), (.aload_n 0, 1, 0, 0, 0), (.dup, 1, 0, 0, 0), (.getfield 331, 3, 10, 68, 0), (.nop, 0, 0, 0, 0), (.nop, 0, 0, 0, 0), (.iconst 1, 1, 0, 0, 0), (.iadd, 1, 0, 0, 0), (.putfield 331, 3, 10, 68, 0), (.nop, 0, 0, 0, 0), (.nop, 0, 0, 0, 0), (.iinc 6 1, 3, 0, 0, 0), (.nop, 0, 0, 0, 0), (.nop, 0, 0, 0, 0), (.goto (-94), 3, 0, 0, 0), (.nop, 0, 0, 0, 0), (.nop, 0, 0, 0, 0), (.aload_n 0, 1, 0, 0, 0), (.getfield 331, 3, 10, 68, 0), (.nop, 0, 0, 0, 0), (.nop, 0, 0, 0, 0), (.ireturn, 1, 0, 0, 0)]], 1, 5, 0, 0, 0, 0)
def mi_X11_forge : ev_M := (yX11_forge, cX11_forge, 4, (some .int), [[(.aload_n 0, 1, 0, 0, 0), (.iload_n 1, 1, 0, 0, 0), (.invokevirtual 280, 3, 45, 10, 0), (.nop, 0, 0, 0, 0), (.nop, 0, 0, 0, 0), (.ifCond .eq 38, 3, 0, 0, 0), (.nop, 0, 0, 0, 0), (.nop, 0, 0, 0, 0), (.aload_n 0, 1, 0, 0, 0), (.getfield 46, 3, 10, 13, 3), (.nop, 0, 0, 0, 0), (.nop, 0, 0, 0, 0), (.aload_n 0, 1, 0, 0, 0), (.iload_n 1, 1, 0, 0, 0), (.invokevirtual 280, 3, 45, 10, 0), (.nop, 0, 0, 0, 0), (.nop, 0, 0, 0, 0), (.ifCond .eq 7, 3, 0, 0, 0), (.nop, 0, 0, 0, 0), (.nop, 0, 0, 0, 0), (.iload_n 1, 1, 0, 0, 0), (.goto 4, 3, 0, 0, 0), (.nop, 0, 0, 0, 0), (.nop, 0, 0, 0, 0), (.nop, 0, 0, 0, 0), (.baload, 1, 0, 0, 0), (.ifCond .eq 17, 3, 0, 0, 0), (.nop, 0, 0, 0, 0), (.nop, 0, 0, 0, 0), (.nop, 0, 0, 0, 0), (.nop, 0, 0, 0, 0), (.nop, 0, 0, 0, 0)],
    [(.nop, 0, 0, 0, 0), (.nop, 0, 0, 0, 0), (.nop, 0, 0, 0, 0), (.nop, 0, 0, 0, 0), (.nop, 0, 0, 0, 0), (.nop, 0, 0, 0, 0), (.nop, 0, 0, 0, 0), (.nop, 0, 0, 0, 0), (.nop, 0, 0, 0, 0), (.nop, 0, 0, 0, 0), (.nop, 0, 0, 0, 0), (.iconst (-1), 1, 0, 0, 0), (.ireturn, 1, 0, 0, 0), (.nop, 0, 0, 0, 0), (.nop, 0, 0, 0, 0), (.nop, 0, 0, 0, 0), (.nop, 0, 0, 0, 0), (.nop, 0, 0, 0, 0), (.nop, 0, 0, 0, 0), (.nop, 0, 0, 0, 0), (.nop, 0, 0, 0, 0), (.nop, 0, 0, 0, 0)]], 1, 2, 1, 21, 0, 0)
def mi_X11_forget : ev_M := (yX11_forget, cX11_forget, 4, (some .int), [[(.aload_n 0, 1, 0, 0, 0), (.iload_n 1, 1, 0, 0, 0), (.invokevirtual 280, 3, 45, 10, 0), (.nop, 0, 0, 0, 0), (.nop, 0, 0, 0, 0), (.ifCond .eq 16, 3, 0, 0, 0), (.nop, 0, 0, 0, 0), (.nop, 0, 0, 0, 0), (.aload_n 0, 1, 0, 0, 0), (.iload_n 2, 1, 0, 0, 0), (.invokevirtual 280, 3, 45, 10, 0), (.nop, 0, 0, 0, 0), (.nop, 0, 0, 0, 0), (.ifCond .eq 8, 3, 0, 0, 0), (.nop, 0, 0, 0, 0), (.nop, 0, 0, 0, 0), (.iload_n 1, 1, 0, 0, 0), (.iload_n 2, 1, 0, 0, 0), (.if_icmp .ne 5, 3, 0, 0, 0), (.nop, 0, 0, 0, 0), (.nop, 0, 0, 0, 0), (.iconst (-1), 1, 0, 0, 0), (.ireturn, 1, 0, 0, 0), (.aload_n 0, 1, 0, 0, 0), (.getfield 103, 3, 10, 35, 3), (.nop, 0, 0, 0, 0), (.nop, 0, 0, 0, 0), (.bipush 6, 2, 0, 0, 0), (.nop, 0, 0, 0, 0), (.iload_n 1, 1, 0, 0, 0), (.imul, 1, 0, 0, 0), (.iload_n 2, 1, 0, 0, 0)],
    [(.iadd, 1, 0, 0, 0), (.iaload, 1, 0, 0, 0), (.istore_n 3, 1, 0, 0, 0), (.aload_n 0, 1, 0, 0, 0), (.getfield 103, 3, 10, 35, 3), (.nop, 0, 0, 0, 0), (.nop, 0, 0, 0, 0), (.bipush 6, 2, 0, 0, 0), (.nop, 0, 0, 0, 0), (.iload_n 1, 1, 0, 0, 0), (.imul, 1, 0, 0, 0), (.iload_n 2, 1, 0, 0, 0), (.iadd, 1, 0, 0, 0), (.iconst 0, 1, 0, 0, 0), (.iastore, 1, 0, 0, 0), (.iload_n 3, 1, 0, 0, 0), (.ireturn, 1, 0, 0, 0)]], 1, 2, 1, 21, 0, 0)
def mi_X11_init : ev_M := (yX11_init, cX11_init, 4, none, [[(.aload_n 0, 1, 0, 0, 0), (.invokespecial 1, 3, 999, 0, 0), (.nop, 0, 0, 0, 0), (.nop, 0, 0, 0, 0), (.aload_n 0, 1, 0, 0, 0), (.bipush 6, 2, 0, 0, 0), (.nop, 0, 0, 0, 0), (.newarray .long, 2, 1, 0, 0), (.nop, 0, 0, 0, 0), (.putfield 7, 3, 10, 1, 3), (.nop, 0, 0, 0, 0), (.nop, 0, 0, 0, 0), (.aload_n 0, 1, 0, 0, 0), (.iconst 1, 1, 0, 0, 0), (.putfield 13, 3, 10, 2, 0), (.nop, 0, 0, 0, 0), (.nop, 0, 0, 0, 0), (.aload_n 0, 1, 0, 0, 0), (.sipush 17000, 3, 0, 0, 0), (.nop, 0, 0, 0, 0), (.nop, 0, 0, 0, 0), (.newarray .int, 2, 0, 0, 0), (.nop, 0, 0, 0, 0), (.putfield 17, 3, 10, 3, 3), (.nop, 0, 0, 0, 0), (.nop, 0, 0, 0, 0), (.aload_n 0, 1, 0, 0, 0), (.sipush 17000, 3, 0, 0, 0), (.nop, 0, 0, 0, 0), (.nop, 0, 0, 0, 0), (.newarray .int, 2, 0, 0, 0), (.nop, 0, 0, 0, 0)],
    [(.putfield 21, 3, 10, 4, 3), (.nop, 0, 0, 0, 0), (.nop, 0, 0, 0, 0), (.aload_n 0, 1, 0, 0, 0), (.sipush 17000, 3, 0, 0, 0), (.nop, 0, 0, 0, 0), (.nop, 0, 0, 0, 0), (.newarray .int, 2, 0, 0, 0), (.nop, 0, 0, 0, 0), (.putfield 24, 3, 10, 5, 3), (.nop, 0, 0, 0, 0), (.nop, 0, 0, 0, 0), (.aload_n 0, 1, 0, 0, 0), (.sipush 17000, 3, 0, 0, 0), (.nop, 0, 0, 0, 0), (.nop, 0, 0, 0, 0), (.newarray .int, 2, 0, 0, 0), (.nop, 0, 0, 0, 0), (.putfield 27, 3, 10, 6, 3), (.nop, 0, 0, 0, 0), (.nop, 0, 0, 0, 0), (.aload_n 0, 1, 0, 0, 0), (.sipush 17000, 3, 0, 0, 0), (.nop, 0, 0, 0, 0), (.nop, 0, 0, 0, 0), (.newarray .int, 2, 0, 0, 0), (.nop, 0, 0, 0, 0), (.putfield 30, 3, 10, 7, 3), (.nop, 0, 0, 0, 0), (.nop, 0, 0, 0, 0), (.aload_n 0, 1, 0, 0, 0), (.sipush 17000, 3, 0, 0, 0)],
    [(.nop, 0, 0, 0, 0), (.nop, 0, 0, 0, 0), (.newarray .boolean, 2, 2, 0, 0), (.nop, 0, 0, 0, 0), (.putfield 33, 3, 10, 8, 3), (.nop, 0, 0, 0, 0), (.nop, 0, 0, 0, 0), (.aload_n 0, 1, 0, 0, 0), (.sipush 17000, 3, 0, 0, 0), (.nop, 0, 0, 0, 0), (.nop, 0, 0, 0, 0), (.newarray .boolean, 2, 2, 0, 0), (.nop, 0, 0, 0, 0), (.putfield 37, 3, 10, 9, 3), (.nop, 0, 0, 0, 0), (.nop, 0, 0, 0, 0), (.aload_n 0, 1, 0, 0, 0), (.sipush 2000, 3, 0, 0, 0), (.nop, 0, 0, 0, 0), (.nop, 0, 0, 0, 0), (.newarray .long, 2, 1, 0, 0), (.nop, 0, 0, 0, 0), (.putfield 40, 3, 10, 11, 3), (.nop, 0, 0, 0, 0), (.nop, 0, 0, 0, 0), (.aload_n 0, 1, 0, 0, 0), (.sipush 2000, 3, 0, 0, 0), (.nop, 0, 0, 0, 0), (.nop, 0, 0, 0, 0), (.newarray .int, 2, 0, 0, 0), (.nop, 0, 0, 0, 0), (.putfield 43, 3, 10, 12, 3)],
    [(.nop, 0, 0, 0, 0), (.nop, 0, 0, 0, 0), (.aload_n 0, 1, 0, 0, 0), (.bipush 6, 2, 0, 0, 0), (.nop, 0, 0, 0, 0), (.newarray .boolean, 2, 2, 0, 0), (.nop, 0, 0, 0, 0), (.putfield 46, 3, 10, 13, 3), (.nop, 0, 0, 0, 0), (.nop, 0, 0, 0, 0), (.aload_n 0, 1, 0, 0, 0), (.bipush 6, 2, 0, 0, 0), (.nop, 0, 0, 0, 0), (.newarray .int, 2, 0, 0, 0), (.nop, 0, 0, 0, 0), (.putfield 49, 3, 10, 14, 3), (.nop, 0, 0, 0, 0), (.nop, 0, 0, 0, 0), (.aload_n 0, 1, 0, 0, 0), (.bipush 6, 2, 0, 0, 0), (.nop, 0, 0, 0, 0), (.newarray .long, 2, 1, 0, 0), (.nop, 0, 0, 0, 0), (.putfield 52, 3, 10, 15, 3), (.nop, 0, 0, 0, 0), (.nop, 0, 0, 0, 0), (.aload_n 0, 1, 0, 0, 0), (.bipush 6, 2, 0, 0, 0), (.nop, 0, 0, 0, 0), (.newarray .long, 2, 1, 0, 0), (.nop, 0, 0, 0, 0), (.putfield 55, 3, 10, 16, 3)],
    [(.nop, 0, 0, 0, 0), (.nop, 0, 0, 0, 0), (.aload_n 0, 1, 0, 0, 0), (.bipush 6, 2, 0, 0, 0), (.nop, 0, 0, 0, 0), (.newarray .int, 2, 0, 0, 0), (.nop, 0, 0, 0, 0), (.putfield 58, 3, 10, 17, 3), (.nop, 0, 0, 0, 0), (.nop, 0, 0, 0, 0), (.aload_n 0, 1, 0, 0, 0), (.bipush 6, 2, 0, 0, 0), (.nop, 0, 0, 0, 0), (.newarray .int, 2, 0, 0, 0), (.nop, 0, 0, 0, 0), (.putfield 61, 3, 10, 18, 3), (.nop, 0, 0, 0, 0), (.nop, 0, 0, 0, 0), (.aload_n 0, 1, 0, 0, 0), (.bipush 126, 2, 0, 0, 0), (.nop, 0, 0, 0, 0), (.newarray .long, 2, 1, 0, 0), (.nop, 0, 0, 0, 0), (.putfield 64, 3, 10, 19, 3), (.nop, 0, 0, 0, 0), (.nop, 0, 0, 0, 0), (.aload_n 0, 1, 0, 0, 0), (.bipush 126, 2, 0, 0, 0), (.nop, 0, 0, 0, 0), (.newarray .long, 2, 1, 0, 0), (.nop, 0, 0, 0, 0), (.putfield 67, 3, 10, 20, 3)],
    [(.nop, 0, 0, 0, 0), (.nop, 0, 0, 0, 0), (.aload_n 0, 1, 0, 0, 0), (.bipush 126, 2, 0, 0, 0), (.nop, 0, 0, 0, 0), (.newarray .int, 2, 0, 0, 0), (.nop, 0, 0, 0, 0), (.putfield 70, 3, 10, 21, 3), (.nop, 0, 0, 0, 0), (.nop, 0, 0, 0, 0), (.aload_n 0, 1, 0, 0, 0), (.bipush 6, 2, 0, 0, 0), (.nop, 0, 0, 0, 0), (.newarray .long, 2, 1, 0, 0), (.nop, 0, 0, 0, 0), (.putfield 73, 3, 10, 22, 3), (.nop, 0, 0, 0, 0), (.nop, 0, 0, 0, 0), (.aload_n 0, 1, 0, 0, 0), (.bipush 6, 2, 0, 0, 0), (.nop, 0, 0, 0, 0), (.newarray .long, 2, 1, 0, 0), (.nop, 0, 0, 0, 0), (.putfield 76, 3, 10, 23, 3), (.nop, 0, 0, 0, 0), (.nop, 0, 0, 0, 0), (.aload_n 0, 1, 0, 0, 0), (.bipush 6, 2, 0, 0, 0), (.nop, 0, 0, 0, 0), (.newarray .long, 2, 1, 0, 0), (.nop, 0, 0, 0, 0), (.putfield 79, 3, 10, 24, 3)],
    [(.nop, 0, 0, 0, 0), (.nop, 0, 0, 0, 0), (.aload_n 0, 1, 0, 0, 0), (.bipush 6, 2, 0, 0, 0), (.nop, 0, 0, 0, 0), (.newarray .int, 2, 0, 0, 0), (.nop, 0, 0, 0, 0), (.putfield 82, 3, 10, 25, 3), (.nop, 0, 0, 0, 0), (.nop, 0, 0, 0, 0), (.aload_n 0, 1, 0, 0, 0), (.sipush 366, 3, 0, 0, 0), (.nop, 0, 0, 0, 0), (.nop, 0, 0, 0, 0), (.newarray .long, 2, 1, 0, 0), (.nop, 0, 0, 0, 0), (.putfield 85, 3, 10, 26, 3), (.nop, 0, 0, 0, 0), (.nop, 0, 0, 0, 0), (.aload_n 0, 1, 0, 0, 0), (.sipush 366, 3, 0, 0, 0), (.nop, 0, 0, 0, 0), (.nop, 0, 0, 0, 0), (.newarray .long, 2, 1, 0, 0), (.nop, 0, 0, 0, 0), (.putfield 88, 3, 10, 27, 3), (.nop, 0, 0, 0, 0), (.nop, 0, 0, 0, 0), (.aload_n 0, 1, 0, 0, 0), (.sipush 366, 3, 0, 0, 0), (.nop, 0, 0, 0, 0), (.nop, 0, 0, 0, 0)],
    [(.newarray .int, 2, 0, 0, 0), (.nop, 0, 0, 0, 0), (.putfield 91, 3, 10, 28, 3), (.nop, 0, 0, 0, 0), (.nop, 0, 0, 0, 0), (.aload_n 0, 1, 0, 0, 0), (.sipush 366, 3, 0, 0, 0), (.nop, 0, 0, 0, 0), (.nop, 0, 0, 0, 0), (.newarray .boolean, 2, 2, 0, 0), (.nop, 0, 0, 0, 0), (.putfield 94, 3, 10, 29, 3), (.nop, 0, 0, 0, 0), (.nop, 0, 0, 0, 0), (.aload_n 0, 1, 0, 0, 0), (.sipush 366, 3, 0, 0, 0), (.nop, 0, 0, 0, 0), (.nop, 0, 0, 0, 0), (.newarray .boolean, 2, 2, 0, 0), (.nop, 0, 0, 0, 0), (.putfield 97, 3, 10, 30, 3), (.nop, 0, 0, 0, 0), (.nop, 0, 0, 0, 0), (.aload_n 0, 1, 0, 0, 0), (.sipush 144, 3, 0, 0, 0), (.nop, 0, 0, 0, 0), (.nop, 0, 0, 0, 0), (.newarray .int, 2, 0, 0, 0), (.nop, 0, 0, 0, 0), (.putfield 100, 3, 10, 34, 3), (.nop, 0, 0, 0, 0), (.nop, 0, 0, 0, 0)],
    [(.aload_n 0, 1, 0, 0, 0), (.bipush 36, 2, 0, 0, 0), (.nop, 0, 0, 0, 0), (.newarray .int, 2, 0, 0, 0), (.nop, 0, 0, 0, 0), (.putfield 103, 3, 10, 35, 3), (.nop, 0, 0, 0, 0), (.nop, 0, 0, 0, 0), (.aload_n 0, 1, 0, 0, 0), (.sipush 144, 3, 0, 0, 0), (.nop, 0, 0, 0, 0), (.nop, 0, 0, 0, 0), (.newarray .long, 2, 1, 0, 0), (.nop, 0, 0, 0, 0), (.putfield 106, 3, 10, 36, 3), (.nop, 0, 0, 0, 0), (.nop, 0, 0, 0, 0), (.aload_n 0, 1, 0, 0, 0), (.sipush 144, 3, 0, 0, 0), (.nop, 0, 0, 0, 0), (.nop, 0, 0, 0, 0), (.newarray .long, 2, 1, 0, 0), (.nop, 0, 0, 0, 0), (.putfield 109, 3, 10, 37, 3), (.nop, 0, 0, 0, 0), (.nop, 0, 0, 0, 0), (.aload_n 0, 1, 0, 0, 0), (.sipush 144, 3, 0, 0, 0), (.nop, 0, 0, 0, 0), (.nop, 0, 0, 0, 0), (.newarray .boolean, 2, 2, 0, 0), (.nop, 0, 0, 0, 0)],
    [(.putfield 112, 3, 10, 38, 3), (.nop, 0, 0, 0, 0), (.nop, 0, 0, 0, 0), (.aload_n 0, 1, 0, 0, 0), (.sipush 144, 3, 0, 0, 0), (.nop, 0, 0, 0, 0), (.nop, 0, 0, 0, 0), (.newarray .long, 2, 1, 0, 0), (.nop, 0, 0, 0, 0), (.putfield 115, 3, 10, 39, 3), (.nop, 0, 0, 0, 0), (.nop, 0, 0, 0, 0), (.aload_n 0, 1, 0, 0, 0), (.sipush 144, 3, 0, 0, 0), (.nop, 0, 0, 0, 0), (.nop, 0, 0, 0, 0), (.newarray .boolean, 2, 2, 0, 0), (.nop, 0, 0, 0, 0), (.putfield 118, 3, 10, 40, 3), (.nop, 0, 0, 0, 0), (.nop, 0, 0, 0, 0), (.aload_n 0, 1, 0, 0, 0), (.sipush 144, 3, 0, 0, 0), (.nop, 0, 0, 0, 0), (.nop, 0, 0, 0, 0), (.newarray .long, 2, 1, 0, 0), (.nop, 0, 0, 0, 0), (.putfield 121, 3, 10, 41, 3), (.nop, 0, 0, 0, 0), (.nop, 0, 0, 0, 0), (.aload_n 0, 1, 0, 0, 0), (.sipush 144, 3, 0, 0, 0)],
    [(.nop, 0, 0, 0, 0), (.nop, 0, 0, 0, 0), (.newarray .long, 2, 1, 0, 0), (.nop, 0, 0, 0, 0), (.putfield 124, 3, 10, 42, 3), (.nop, 0, 0, 0, 0), (.nop, 0, 0, 0, 0), (.aload_n 0, 1, 0, 0, 0), (.sipush 144, 3, 0, 0, 0), (.nop, 0, 0, 0, 0), (.nop, 0, 0, 0, 0), (.newarray .long, 2, 1, 0, 0), (.nop, 0, 0, 0, 0), (.putfield 127, 3, 10, 43, 3), (.nop, 0, 0, 0, 0), (.nop, 0, 0, 0, 0), (.aload_n 0, 1, 0, 0, 0), (.sipush 144, 3, 0, 0, 0), (.nop, 0, 0, 0, 0), (.nop, 0, 0, 0, 0), (.newarray .boolean, 2, 2, 0, 0), (.nop, 0, 0, 0, 0), (.putfield 130, 3, 10, 44, 3), (.nop, 0, 0, 0, 0), (.nop, 0, 0, 0, 0), (.aload_n 0, 1, 0, 0, 0), (.sipush 144, 3, 0, 0, 0), (.nop, 0, 0, 0, 0), (.nop, 0, 0, 0, 0), (.newarray .int, 2, 0, 0, 0), (.nop, 0, 0, 0, 0), (.putfield 133, 3, 10, 45, 3)],
    [(.nop, 0, 0, 0, 0), (.nop, 0, 0, 0, 0), (.aload_n 0, 1, 0, 0, 0), (.sipush 144, 3, 0, 0, 0), (.nop, 0, 0, 0, 0), (.nop, 0, 0, 0, 0), (.newarray .int, 2, 0, 0, 0), (.nop, 0, 0, 0, 0), (.putfield 136, 3, 10, 46, 3), (.nop, 0, 0, 0, 0), (.nop, 0, 0, 0, 0), (.aload_n 0, 1, 0, 0, 0), (.sipush 144, 3, 0, 0, 0), (.nop, 0, 0, 0, 0), (.nop, 0, 0, 0, 0), (.newarray .int, 2, 0, 0, 0), (.nop, 0, 0, 0, 0), (.putfield 139, 3, 10, 47, 3), (.nop, 0, 0, 0, 0), (.nop, 0, 0, 0, 0), (.aload_n 0, 1, 0, 0, 0), (.sipush 144, 3, 0, 0, 0), (.nop, 0, 0, 0, 0), (.nop, 0, 0, 0, 0), (.newarray .boolean, 2, 2, 0, 0), (.nop, 0, 0, 0, 0), (.putfield 142, 3, 10, 48, 3), (.nop, 0, 0, 0, 0), (.nop, 0, 0, 0, 0), (.aload_n 0, 1, 0, 0, 0), (.sipush 144, 3, 0, 0, 0), (.nop, 0, 0, 0, 0)],
    [(.nop, 0, 0, 0, 0), (.newarray .boolean, 2, 2, 0, 0), (.nop, 0, 0, 0, 0), (.putfield 145, 3, 10, 49, 3), (.nop, 0, 0, 0, 0), (.nop, 0, 0, 0, 0), (.aload_n 0, 1, 0, 0, 0), (.sipush 144, 3, 0, 0, 0), (.nop, 0, 0, 0, 0), (.nop, 0, 0, 0, 0), (.newarray .long, 2, 1, 0, 0), (.nop, 0, 0, 0, 0), (.putfield 148, 3, 10, 50, 3), (.nop, 0, 0, 0, 0), (.nop, 0, 0, 0, 0), (.aload_n 0, 1, 0, 0, 0), (.sipush 144, 3, 0, 0, 0), (.nop, 0, 0, 0, 0), (.nop, 0, 0, 0, 0), (.newarray .int, 2, 0, 0, 0), (.nop, 0, 0, 0, 0), (.putfield 151, 3, 10, 51, 3), (.nop, 0, 0, 0, 0), (.nop, 0, 0, 0, 0), (.aload_n 0, 1, 0, 0, 0), (.sipush 144, 3, 0, 0, 0), (.nop, 0, 0, 0, 0), (.nop, 0, 0, 0, 0), (.newarray .int, 2, 0, 0, 0), (.nop, 0, 0, 0, 0), (.putfield 154, 3, 10, 52, 3), (.nop, 0, 0, 0, 0)],
    [(.nop, 0, 0, 0, 0), (.aload_n 0, 1, 0, 0, 0), (.sipush 144, 3, 0, 0, 0), (.nop, 0, 0, 0, 0), (.nop, 0, 0, 0, 0), (.newarray .int, 2, 0, 0, 0), (.nop, 0, 0, 0, 0), (.putfield 157, 3, 10, 53, 3), (.nop, 0, 0, 0, 0), (.nop, 0, 0, 0, 0), (.aload_n 0, 1, 0, 0, 0), (.sipush 144, 3, 0, 0, 0), (.nop, 0, 0, 0, 0), (.nop, 0, 0, 0, 0), (.newarray .int, 2, 0, 0, 0), (.nop, 0, 0, 0, 0), (.putfield 160, 3, 10, 54, 3), (.nop, 0, 0, 0, 0), (.nop, 0, 0, 0, 0), (.aload_n 0, 1, 0, 0, 0), (.sipush 144, 3, 0, 0, 0), (.nop, 0, 0, 0, 0), (.nop, 0, 0, 0, 0), (.newarray .int, 2, 0, 0, 0), (.nop, 0, 0, 0, 0), (.putfield 163, 3, 10, 55, 3), (.nop, 0, 0, 0, 0), (.nop, 0, 0, 0, 0), (.aload_n 0, 1, 0, 0, 0), (.sipush 144, 3, 0, 0, 0), (.nop, 0, 0, 0, 0), (.nop, 0, 0, 0, 0)],
    [(.newarray .int, 2, 0, 0, 0), (.nop, 0, 0, 0, 0), (.putfield 166, 3, 10, 56, 3), (.nop, 0, 0, 0, 0), (.nop, 0, 0, 0, 0), (.aload_n 0, 1, 0, 0, 0), (.sipush 144, 3, 0, 0, 0), (.nop, 0, 0, 0, 0), (.nop, 0, 0, 0, 0), (.newarray .int, 2, 0, 0, 0), (.nop, 0, 0, 0, 0), (.putfield 169, 3, 10, 57, 3), (.nop, 0, 0, 0, 0), (.nop, 0, 0, 0, 0), (.aload_n 0, 1, 0, 0, 0), (.sipush 144, 3, 0, 0, 0), (.nop, 0, 0, 0, 0), (.nop, 0, 0, 0, 0), (.newarray .int, 2, 0, 0, 0), (.nop, 0, 0, 0, 0), (.putfield 172, 3, 10, 58, 3), (.nop, 0, 0, 0, 0), (.nop, 0, 0, 0, 0), (.aload_n 0, 1, 0, 0, 0), (.sipush 2880, 3, 0, 0, 0), (.nop, 0, 0, 0, 0), (.nop, 0, 0, 0, 0), (.newarray .long, 2, 1, 0, 0), (.nop, 0, 0, 0, 0), (.putfield 175, 3, 10, 59, 3), (.nop, 0, 0, 0, 0), (.nop, 0, 0, 0, 0)],
    [(.aload_n 0, 1, 0, 0, 0), (.sipush 2880, 3, 0, 0, 0), (.nop, 0, 0, 0, 0), (.nop, 0, 0, 0, 0), (.newarray .int, 2, 0, 0, 0), (.nop, 0, 0, 0, 0), (.putfield 178, 3, 10, 60, 3), (.nop, 0, 0, 0, 0), (.nop, 0, 0, 0, 0), (.aload_n 0, 1, 0, 0, 0), (.sipush 2880, 3, 0, 0, 0), (.nop, 0, 0, 0, 0), (.nop, 0, 0, 0, 0), (.newarray .long, 2, 1, 0, 0), (.nop, 0, 0, 0, 0), (.putfield 181, 3, 10, 61, 3), (.nop, 0, 0, 0, 0), (.nop, 0, 0, 0, 0), (.aload_n 0, 1, 0, 0, 0), (.sipush 2880, 3, 0, 0, 0), (.nop, 0, 0, 0, 0), (.nop, 0, 0, 0, 0), (.newarray .int, 2, 0, 0, 0), (.nop, 0, 0, 0, 0), (.putfield 184, 3, 10, 62, 3), (.nop, 0, 0, 0, 0), (.nop, 0, 0, 0, 0), (.aload_n 0, 1, 0, 0, 0), (.bipush 6, 2, 0, 0, 0), (.nop, 0, 0, 0, 0), (.newarray .int, 2, 0, 0, 0), (.nop, 0, 0, 0, 0)],
    [(.putfield 187, 3, 10, 64, 3), (.nop, 0, 0, 0, 0), (.nop, 0, 0, 0, 0), (.aload_n 0, 1, 0, 0, 0), (.sipush 600, 3, 0, 0, 0), (.nop, 0, 0, 0, 0), (.nop, 0, 0, 0, 0), (.newarray .int, 2, 0, 0, 0), (.nop, 0, 0, 0, 0), (.putfield 190, 3, 10, 65, 3), (.nop, 0, 0, 0, 0), (.nop, 0, 0, 0, 0), (.aload_n 0, 1, 0, 0, 0), (.sipush 600, 3, 0, 0, 0), (.nop, 0, 0, 0, 0), (.nop, 0, 0, 0, 0), (.newarray .long, 2, 1, 0, 0), (.nop, 0, 0, 0, 0), (.putfield 193, 3, 10, 66, 3), (.nop, 0, 0, 0, 0), (.nop, 0, 0, 0, 0), (.aload_n 0, 1, 0, 0, 0), (.bipush 60, 2, 0, 0, 0), (.nop, 0, 0, 0, 0), (.newarray .int, 2, 0, 0, 0), (.nop, 0, 0, 0, 0), (.putfield 196, 3, 10, 67, 3), (.nop, 0, 0, 0, 0), (.nop, 0, 0, 0, 0), (.aload_n 0, 1, 0, 0, 0), (.sipush 8000, 3, 0, 0, 0), (.nop, 0, 0, 0, 0)],
    [(.nop, 0, 0, 0, 0), (.newarray .int, 2, 0, 0, 0), (.nop, 0, 0, 0, 0), (.putfield 199, 3, 10, 69, 3), (.nop, 0, 0, 0, 0), (.nop, 0, 0, 0, 0), (.aload_n 0, 1, 0, 0, 0), (.bipush 80, 2, 0, 0, 0), (.nop, 0, 0, 0, 0), (.newarray .int, 2, 0, 0, 0), (.nop, 0, 0, 0, 0), (.putfield 202, 3, 10, 70, 3), (.nop, 0, 0, 0, 0), (.nop, 0, 0, 0, 0), (.aload_n 0, 1, 0, 0, 0), (.bipush 80, 2, 0, 0, 0), (.nop, 0, 0, 0, 0), (.newarray .int, 2, 0, 0, 0), (.nop, 0, 0, 0, 0), (.putfield 205, 3, 10, 71, 3), (.nop, 0, 0, 0, 0), (.nop, 0, 0, 0, 0), (.aload_n 0, 1, 0, 0, 0), (.bipush 40, 2, 0, 0, 0), (.nop, 0, 0, 0, 0), (.newarray .int, 2, 0, 0, 0), (.nop, 0, 0, 0, 0), (.putfield 208, 3, 10, 74, 3), (.nop, 0, 0, 0, 0), (.nop, 0, 0, 0, 0), (.aload_n 0, 1, 0, 0, 0), (.iload_n 1, 1, 0, 0, 0)],
    [(.iconst 2, 1, 0, 0, 0), (.if_icmp .ge 7, 3, 0, 0, 0), (.nop, 0, 0, 0, 0), (.nop, 0, 0, 0, 0), (.iconst 2, 1, 0, 0, 0), (.goto 15, 3, 0, 0, 0), (.nop, 0, 0, 0, 0), (.nop, 0, 0, 0, 0), (.iload_n 1, 1, 0, 0, 0), (.bipush 6, 2, 0, 0, 0), (.nop, 0, 0, 0, 0), (.if_icmp .le 8, 3, 0, 0, 0), (.nop, 0, 0, 0, 0), (.nop, 0, 0, 0, 0), (.bipush 6, 2, 0, 0, 0), (.nop, 0, 0, 0, 0), (.goto 4, 3, 0, 0, 0), (.nop, 0, 0, 0, 0), (.nop, 0, 0, 0, 0), (.iload_n 1, 1, 0, 0, 0), (.putfield 211, 3, 10, 0, 0), (.nop, 0, 0, 0, 0), (.nop, 0, 0, 0, 0), (.iconst 0, 1, 0, 0, 0), (.istore_n 3, 1, 0, 0, 0), (.iload_n 3, 1, 0, 0, 0), (.bipush 6, 2, 0, 0, 0), (.nop, 0, 0, 0, 0), (.if_icmp .ge 20, 3, 0, 0, 0), (.nop, 0, 0, 0, 0), (.nop, 0, 0, 0, 0), (.aload_n 0, 1, 0, 0, 0)],
    [(.getfield 7, 3, 10, 1, 3), (.nop, 0, 0, 0, 0), (.nop, 0, 0, 0, 0), (.iload_n 3, 1, 0, 0, 0), (.iload_n 2, 1, 0, 0, 0), (.i2l, 1, 0, 0, 0), (.iload_n 3, 1, 0, 0, 0), (.i2l, 1, 0, 0, 0), (.ladd, 1, 0, 0, 0), (.lastore, 1, 0, 0, 0), (.iinc 3 1, 3, 0, 0, 0), (.nop, 0, 0, 0, 0), (.nop, 0, 0, 0, 0), (.goto (-20), 3, 0, 0, 0), (.nop, 0, 0, 0, 0), (.nop, 0, 0, 0, 0), (.return_, 1, 0, 0, 0)]], 2, 2, 1, 12, 65, 149752)
def mi_X11_inside : ev_M := (yX11_inside, cX11_inside, 6, (some .long), [[(.aload_n 0, 1, 0, 0, 0), (.iload_n 1, 1, 0, 0, 0), (.iload_n 2, 1, 0, 0, 0), (.iload_n 3, 1, 0, 0, 0), (.invokevirtual 436, 3, 63, 10, 0), (.nop, 0, 0, 0, 0), (.nop, 0, 0, 0, 0), (.istore 5, 2, 0, 0, 0), (.nop, 0, 0, 0, 0), (.iload 5, 2, 0, 0, 0), (.nop, 0, 0, 0, 0), (.ifCond .lt 14, 3, 0, 0, 0), (.nop, 0, 0, 0, 0), (.nop, 0, 0, 0, 0), (.nop, 0, 0, 0, 0), (.nop, 0, 0, 0, 0), (.nop, 0, 0, 0, 0), (.nop, 0, 0, 0, 0), (.nop, 0, 0, 0, 0), (.nop, 0, 0, 0, 0), (.nop, 0, 0, 0, 0), (.nop, 0, 0, 0, 0), (.nop, 0, 0, 0, 0), (.nop, 0, 0, 0, 0), (.nop, 0, 0, 0, 0), (.lconst 0, 1, 0, 0, 0), (.lreturn, 1, 0, 0, 0), (.nop, 0, 0, 0, 0), (.nop, 0, 0, 0, 0), (.nop, 0, 0, 0, 0), (.nop, 0, 0, 0, 0), (.nop, 0, 0, 0, 0)],
    [(.nop, 0, 0, 0, 0), (.nop, 0, 0, 0, 0), (.nop, 0, 0, 0, 0), (.nop, 0, 0, 0, 0), (.nop, 0, 0, 0, 0), (.nop, 0, 0, 0, 0), (.nop, 0, 0, 0, 0), (.nop, 0, 0, 0, 0), (.nop, 0, 0, 0, 0), (.nop, 0, 0, 0, 0), (.nop, 0, 0, 0, 0), (.nop, 0, 0, 0, 0), (.nop, 0, 0, 0, 0), (.nop, 0, 0, 0, 0), (.nop, 0, 0, 0, 0), (.nop, 0, 0, 0, 0), (.nop, 0, 0, 0, 0), (.nop, 0, 0, 0, 0), (.nop, 0, 0, 0, 0), (.nop, 0, 0, 0, 0), (.nop, 0, 0, 0, 0), (.nop, 0, 0, 0, 0), (.nop, 0, 0, 0, 0), (.nop, 0, 0, 0, 0), (.nop, 0, 0, 0, 0), (.nop, 0, 0, 0, 0), (.nop, 0, 0, 0, 0), (.nop, 0, 0, 0, 0), (.nop, 0, 0, 0, 0), (.nop, 0, 0, 0, 0), (.nop, 0, 0, 0, 0), (.nop, 0, 0, 0, 0)],
    [(.nop, 0, 0, 0, 0), (.nop, 0, 0, 0, 0), (.nop, 0, 0, 0, 0), (.nop, 0, 0, 0, 0), (.nop, 0, 0, 0, 0), (.nop, 0, 0, 0, 0), (.nop, 0, 0, 0, 0), (.nop, 0, 0, 0, 0), (.nop, 0, 0, 0, 0), (.nop, 0, 0, 0, 0), (.nop, 0, 0, 0, 0), (.nop, 0, 0, 0, 0), (.nop, 0, 0, 0, 0), (.nop, 0, 0, 0, 0), (.nop, 0, 0, 0, 0), (.nop, 0, 0, 0, 0), (.nop, 0, 0, 0, 0), (.nop, 0, 0, 0, 0), (.nop, 0, 0, 0, 0), (.nop, 0, 0, 0, 0), (.nop, 0, 0, 0, 0), (.nop, 0, 0, 0, 0), (.nop, 0, 0, 0, 0), (.nop, 0, 0, 0, 0), (.nop, 0, 0, 0, 0), (.nop, 0, 0, 0, 0), (.nop, 0, 0, 0, 0), (.nop, 0, 0, 0, 0), (.nop, 0, 0, 0, 0), (.nop, 0, 0, 0, 0), (.nop, 0, 0, 0, 0), (.nop, 0, 0, 0, 0)],
    [(.nop, 0, 0, 0, 0), (.nop, 0, 0, 0, 0), (.nop, 0, 0, 0, 0), (.nop, 0, 0, 0, 0), (.nop, 0, 0, 0, 0), (.nop, 0, 0, 0, 0), (.nop, 0, 0, 0, 0), (.nop, 0, 0, 0, 0), (.nop, 0, 0, 0, 0), (.nop, 0, 0, 0, 0), (.nop, 0, 0, 0, 0), (.nop, 0, 0, 0, 0), (.nop, 0, 0, 0, 0), (.nop, 0, 0, 0, 0), (.nop, 0, 0, 0, 0), (.nop, 0, 0, 0, 0)]], 1, 4, 2, 44, 0, 0)
def mi_X11_isLetter : ev_M := (yX11_isLetter, cX11_isLetter, 2, (some .boolean), [[(.iload_n 1, 1, 0, 0, 0), (.ifCond .lt 15, 3, 0, 0, 0), (.nop, 0, 0, 0, 0), (.nop, 0, 0, 0, 0), (.iload_n 1, 1, 0, 0, 0), (.aload_n 0, 1, 0, 0, 0), (.getfield 337, 3, 10, 72, 0), (.nop, 0, 0, 0, 0), (.nop, 0, 0, 0, 0), (.if_icmp .ge 7, 3, 0, 0, 0), (.nop, 0, 0, 0, 0), (.nop, 0, 0, 0, 0), (.nop, 0, 0, 0, 0), (.nop, 0, 0, 0, 0), (.nop, 0, 0, 0, 0), (.nop, 0, 0, 0, 0), (.iconst 0, 1, 0, 0, 0), (.ireturn, 1, 0, 0, 0)]], 1, 1, 0, 0, 0, 0)
def mi_X11_isThere : ev_M := (yX11_isThere, cX11_isThere, 2, (some .boolean), [[(.iload_n 1, 1, 0, 0, 0), (.ifCond .lt 15, 3, 0, 0, 0), (.nop, 0, 0, 0, 0), (.nop, 0, 0, 0, 0), (.iload_n 1, 1, 0, 0, 0), (.aload_n 0, 1, 0, 0, 0), (.getfield 211, 3, 10, 0, 0), (.nop, 0, 0, 0, 0), (.nop, 0, 0, 0, 0), (.if_icmp .ge 7, 3, 0, 0, 0), (.nop, 0, 0, 0, 0), (.nop, 0, 0, 0, 0), (.iconst 1, 1, 0, 0, 0), (.goto 4, 3, 0, 0, 0), (.nop, 0, 0, 0, 0), (.nop, 0, 0, 0, 0), (.iconst 0, 1, 0, 0, 0), (.ireturn, 1, 0, 0, 0)]], 1, 1, 0, 0, 0, 0)
def mi_X11_keptSecrets : ev_M := (yX11_keptSecrets, cX11_keptSecrets, 4, (some .int), [[(.iconst 0, 1, 0, 0, 0), (.istore_n 2, 1, 0, 0, 0), (.iconst 1, 1, 0, 0, 0), (.istore_n 3, 1, 0, 0, 0), (.iload_n 3, 1, 0, 0, 0), (.aload_n 0, 1, 0, 0, 0), (.getfield 82, 3, 10, 25, 3), (.nop, 0, 0, 0, 0), (.nop, 0, 0, 0, 0), (.iload_n 1, 1, 0, 0, 0), (.iaload, 1, 0, 0, 0), (.if_icmp .gt 31, 3, 0, 0, 0), (.nop, 0, 0, 0, 0), (.nop, 0, 0, 0, 0), (.nop, 0, 0, 0, 0), (.nop, 0, 0, 0, 0), (.nop, 0, 0, 0, 0), (.nop, 0, 0, 0, 0), (.nop, 0, 0, 0, 0), (.nop, 0, 0, 0, 0), (.nop, 0, 0, 0, 0), (.nop, 0, 0, 0, 0), (.nop, 0, 0, 0, 0), (.nop, 0, 0, 0, 0), (.nop, 0, 0, 0, 0), (.nop, 0, 0, 0, 0), (.nop, 0, 0, 0, 0), (.nop, 0, 0, 0, 0), (.nop, 0, 0, 0, 0), (.nop, 0, 0, 0, 0), (.nop, 0, 0, 0, 0), (.nop, 0, 0, 0, 0)],
    [(.nop, 0, 0, 0, 0), (.nop, 0, 0, 0, 0), (.nop, 0, 0, 0, 0), (.nop, 0, 0, 0, 0), (.nop, 0, 0, 0, 0), (.nop, 0, 0, 0, 0), (.nop, 0, 0, 0, 0), (.nop, 0, 0, 0, 0), (.nop, 0, 0, 0, 0), (.nop, 0, 0, 0, 0), (.iload_n 2, 1, 0, 0, 0), (.ireturn, 1, 0, 0, 0)]], 1, 1, 0, 0, 0, 0)
def mi_X11_leastOnce : ev_M := (yX11_leastOnce, cX11_leastOnce, 3, (some .int), [[(.iconst 1, 1, 0, 0, 0), (.istore_n 2, 1, 0, 0, 0), (.iload_n 2, 1, 0, 0, 0), (.aload_n 0, 1, 0, 0, 0), (.getfield 82, 3, 10, 25, 3), (.nop, 0, 0, 0, 0), (.nop, 0, 0, 0, 0), (.iload_n 1, 1, 0, 0, 0), (.iaload, 1, 0, 0, 0), (.if_icmp .gt 25, 3, 0, 0, 0), (.nop, 0, 0, 0, 0), (.nop, 0, 0, 0, 0), (.nop, 0, 0, 0, 0), (.nop, 0, 0, 0, 0), (.nop, 0, 0, 0, 0), (.nop, 0, 0, 0, 0), (.nop, 0, 0, 0, 0), (.nop, 0, 0, 0, 0), (.nop, 0, 0, 0, 0), (.nop, 0, 0, 0, 0), (.nop, 0, 0, 0, 0), (.nop, 0, 0, 0, 0), (.nop, 0, 0, 0, 0), (.nop, 0, 0, 0, 0), (.nop, 0, 0, 0, 0), (.nop, 0, 0, 0, 0), (.nop, 0, 0, 0, 0), (.nop, 0, 0, 0, 0), (.nop, 0, 0, 0, 0), (.nop, 0, 0, 0, 0), (.nop, 0, 0, 0, 0), (.nop, 0, 0, 0, 0)],
    [(.nop, 0, 0, 0, 0), (.nop, 0, 0, 0, 0), (.iconst 0, 1, 0, 0, 0), (.ireturn, 1, 0, 0, 0)]], 1, 1, 0, 0, 0, 0)
def mi_X11_lend : ev_M := (yX11_lend, cX11_lend, 5, none, [[(.aload_n 0, 1, 0, 0, 0), (.getfield 61, 3, 10, 18, 3), (.nop, 0, 0, 0, 0), (.nop, 0, 0, 0, 0), (.iload_n 1, 1, 0, 0, 0), (.dup2, 1, 0, 0, 0), (.iaload, 1, 0, 0, 0), (.iconst 1, 1, 0, 0, 0), (.iadd, 1, 0, 0, 0), (.iastore, 1, 0, 0, 0), (.bipush 21, 2, 0, 0, 0), (.nop, 0, 0, 0, 0), (.iload_n 1, 1, 0, 0, 0), (.imul, 1, 0, 0, 0), (.aload_n 0, 1, 0, 0, 0), (.getfield 61, 3, 10, 18, 3), (.nop, 0, 0, 0, 0), (.nop, 0, 0, 0, 0), (.iload_n 1, 1, 0, 0, 0), (.iaload, 1, 0, 0, 0), (.iadd, 1, 0, 0, 0), (.istore_n 2, 1, 0, 0, 0), (.aload_n 0, 1, 0, 0, 0), (.iload_n 1, 1, 0, 0, 0), (.invokevirtual 271, 3, 37, 10, 0), (.nop, 0, 0, 0, 0), (.nop, 0, 0, 0, 0), (.aload_n 0, 1, 0, 0, 0), (.getfield 64, 3, 10, 19, 3), (.nop, 0, 0, 0, 0), (.nop, 0, 0, 0, 0), (.iload_n 2, 1, 0, 0, 0)],
    [(.aload_n 0, 1, 0, 0, 0), (.getfield 257, 3, 10, 31, 1), (.nop, 0, 0, 0, 0), (.nop, 0, 0, 0, 0), (.lastore, 1, 0, 0, 0), (.aload_n 0, 1, 0, 0, 0), (.getfield 67, 3, 10, 20, 3), (.nop, 0, 0, 0, 0), (.nop, 0, 0, 0, 0), (.iload_n 2, 1, 0, 0, 0), (.aload_n 0, 1, 0, 0, 0), (.getfield 261, 3, 10, 32, 1), (.nop, 0, 0, 0, 0), (.nop, 0, 0, 0, 0), (.lastore, 1, 0, 0, 0), (.aload_n 0, 1, 0, 0, 0), (.getfield 70, 3, 10, 21, 3), (.nop, 0, 0, 0, 0), (.nop, 0, 0, 0, 0), (.iload_n 2, 1, 0, 0, 0), (.aload_n 0, 1, 0, 0, 0), (.getfield 268, 3, 10, 33, 0), (.nop, 0, 0, 0, 0), (.nop, 0, 0, 0, 0), (.iastore, 1, 0, 0, 0), (.aload_n 0, 1, 0, 0, 0), (.getfield 73, 3, 10, 22, 3), (.nop, 0, 0, 0, 0), (.nop, 0, 0, 0, 0), (.iload_n 1, 1, 0, 0, 0), (.aload_n 0, 1, 0, 0, 0), (.getfield 261, 3, 10, 32, 1)],
    [(.nop, 0, 0, 0, 0), (.nop, 0, 0, 0, 0), (.lastore, 1, 0, 0, 0), (.aload_n 0, 1, 0, 0, 0), (.iload_n 1, 1, 0, 0, 0), (.invokevirtual 264, 3, 36, 10, 0), (.nop, 0, 0, 0, 0), (.nop, 0, 0, 0, 0), (.aload_n 0, 1, 0, 0, 0), (.getfield 76, 3, 10, 23, 3), (.nop, 0, 0, 0, 0), (.nop, 0, 0, 0, 0), (.iload_n 1, 1, 0, 0, 0), (.aload_n 0, 1, 0, 0, 0), (.getfield 261, 3, 10, 32, 1), (.nop, 0, 0, 0, 0), (.nop, 0, 0, 0, 0), (.lastore, 1, 0, 0, 0), (.lconst 0, 1, 0, 0, 0), (.aload_n 0, 1, 0, 0, 0), (.getfield 261, 3, 10, 32, 1), (.nop, 0, 0, 0, 0), (.nop, 0, 0, 0, 0), (.invokestatic 220, 3, 51, 0, 0), (.nop, 0, 0, 0, 0), (.nop, 0, 0, 0, 0), (.aload_n 0, 1, 0, 0, 0), (.getfield 67, 3, 10, 20, 3), (.nop, 0, 0, 0, 0), (.nop, 0, 0, 0, 0), (.iload_n 2, 1, 0, 0, 0), (.laload, 1, 0, 0, 0)],
    [(.invokestatic 220, 3, 51, 0, 0), (.nop, 0, 0, 0, 0), (.nop, 0, 0, 0, 0), (.invokestatic 274, 3, 52, 0, 0), (.nop, 0, 0, 0, 0), (.nop, 0, 0, 0, 0), (.lstore_n 3, 1, 0, 0, 0), (.aload_n 0, 1, 0, 0, 0), (.getfield 79, 3, 10, 24, 3), (.nop, 0, 0, 0, 0), (.nop, 0, 0, 0, 0), (.iload_n 1, 1, 0, 0, 0), (.aload_n 0, 1, 0, 0, 0), (.getfield 257, 3, 10, 31, 1), (.nop, 0, 0, 0, 0), (.nop, 0, 0, 0, 0), (.lload_n 3, 1, 0, 0, 0), (.aload_n 0, 1, 0, 0, 0), (.getfield 52, 3, 10, 15, 3), (.nop, 0, 0, 0, 0), (.nop, 0, 0, 0, 0), (.iload_n 1, 1, 0, 0, 0), (.laload, 1, 0, 0, 0), (.invokestatic 277, 3, 67, 0, 0), (.nop, 0, 0, 0, 0), (.nop, 0, 0, 0, 0), (.ladd, 1, 0, 0, 0), (.ldc2_w 234, 3, 0, 0, 2305843009213693950), (.nop, 0, 0, 0, 0), (.nop, 0, 0, 0, 0), (.lrem, 1, 0, 0, 0), (.lastore, 1, 0, 0, 0)],
    [(.return_, 1, 0, 0, 0)]], 1, 1, 4, 105, 0, 0)
def mi_X11_letter : ev_M := (yX11_letter, cX11_letter, 3, (some .int), [[(.aload_n 0, 1, 0, 0, 0), (.iload_n 1, 1, 0, 0, 0), (.invokevirtual 348, 3, 44, 10, 0), (.nop, 0, 0, 0, 0), (.nop, 0, 0, 0, 0), (.ifCond .eq 30, 3, 0, 0, 0), (.nop, 0, 0, 0, 0), (.nop, 0, 0, 0, 0), (.nop, 0, 0, 0, 0), (.nop, 0, 0, 0, 0), (.nop, 0, 0, 0, 0), (.nop, 0, 0, 0, 0), (.nop, 0, 0, 0, 0), (.nop, 0, 0, 0, 0), (.nop, 0, 0, 0, 0), (.nop, 0, 0, 0, 0), (.nop, 0, 0, 0, 0), (.nop, 0, 0, 0, 0), (.nop, 0, 0, 0, 0), (.nop, 0, 0, 0, 0), (.nop, 0, 0, 0, 0), (.nop, 0, 0, 0, 0), (.nop, 0, 0, 0, 0), (.nop, 0, 0, 0, 0), (.nop, 0, 0, 0, 0), (.nop, 0, 0, 0, 0), (.nop, 0, 0, 0, 0), (.nop, 0, 0, 0, 0), (.nop, 0, 0, 0, 0), (.nop, 0, 0, 0, 0), (.nop, 0, 0, 0, 0), (.nop, 0, 0, 0, 0)],
    [(.nop, 0, 0, 0, 0), (.nop, 0, 0, 0, 0), (.nop, 0, 0, 0, 0), (.iconst (-1), 1, 0, 0, 0), (.ireturn, 1, 0, 0, 0), (.nop, 0, 0, 0, 0), (.nop, 0, 0, 0, 0), (.nop, 0, 0, 0, 0), (.nop, 0, 0, 0, 0), (.nop, 0, 0, 0, 0), (.nop, 0, 0, 0, 0), (.nop, 0, 0, 0, 0), (.nop, 0, 0, 0, 0), (.nop, 0, 0, 0, 0), (.nop, 0, 0, 0, 0), (.nop, 0, 0, 0, 0), (.nop, 0, 0, 0, 0), (.nop, 0, 0, 0, 0), (.nop, 0, 0, 0, 0), (.nop, 0, 0, 0, 0), (.nop, 0, 0, 0, 0), (.nop, 0, 0, 0, 0), (.nop, 0, 0, 0, 0), (.nop, 0, 0, 0, 0), (.nop, 0, 0, 0, 0), (.nop, 0, 0, 0, 0), (.nop, 0, 0, 0, 0), (.nop, 0, 0, 0, 0), (.nop, 0, 0, 0, 0), (.nop, 0, 0, 0, 0), (.nop, 0, 0, 0, 0)]], 1, 2, 1, 21, 0, 0)
def mi_X11_look : ev_M := (yX11_look, cX11_look, 5, (some .int), [[(.aload_n 0, 1, 0, 0, 0), (.iload_n 1, 1, 0, 0, 0), (.invokevirtual 280, 3, 45, 10, 0), (.nop, 0, 0, 0, 0), (.nop, 0, 0, 0, 0), (.ifCond .ne 5, 3, 0, 0, 0), (.nop, 0, 0, 0, 0), (.nop, 0, 0, 0, 0), (.iconst (-1), 1, 0, 0, 0), (.ireturn, 1, 0, 0, 0), (.aload_n 0, 1, 0, 0, 0), (.dup, 1, 0, 0, 0), (.getfield 439, 3, 10, 86, 0), (.nop, 0, 0, 0, 0), (.nop, 0, 0, 0, 0), (.iconst 1, 1, 0, 0, 0), (.iadd, 1, 0, 0, 0), (.putfield 439, 3, 10, 86, 0), (.nop, 0, 0, 0, 0), (.nop, 0, 0, 0, 0), (.aload_n 0, 1, 0, 0, 0), (.getfield 46, 3, 10, 13, 3), (.nop, 0, 0, 0, 0), (.nop, 0, 0, 0, 0), (.iload_n 1, 1, 0, 0, 0), (.baload, 1, 0, 0, 0), (.ifCond .ne 8, 3, 0, 0, 0), (.nop, 0, 0, 0, 0), (.nop, 0, 0, 0, 0), (.aload_n 0, 1, 0, 0, 0), (.getfield 439, 3, 10, 86, 0), (.nop, 0, 0, 0, 0)],
    [(.nop, 0, 0, 0, 0), (.ireturn, 1, 0, 0, 0), (.nop, 0, 0, 0, 0), (.nop, 0, 0, 0, 0), (.nop, 0, 0, 0, 0), (.nop, 0, 0, 0, 0), (.nop, 0, 0, 0, 0), (.nop, 0, 0, 0, 0), (.nop, 0, 0, 0, 0), (.nop, 0, 0, 0, 0), (.nop, 0, 0, 0, 0), (.nop, 0, 0, 0, 0), (.nop, 0, 0, 0, 0), (.nop, 0, 0, 0, 0), (.nop, 0, 0, 0, 0), (.nop, 0, 0, 0, 0), (.nop, 0, 0, 0, 0), (.nop, 0, 0, 0, 0), (.nop, 0, 0, 0, 0), (.nop, 0, 0, 0, 0), (.nop, 0, 0, 0, 0), (.nop, 0, 0, 0, 0), (.nop, 0, 0, 0, 0), (.nop, 0, 0, 0, 0), (.nop, 0, 0, 0, 0), (.nop, 0, 0, 0, 0), (.nop, 0, 0, 0, 0), (.nop, 0, 0, 0, 0), (.nop, 0, 0, 0, 0), (.nop, 0, 0, 0, 0), (.nop, 0, 0, 0, 0), (.nop, 0, 0, 0, 0)],
    [(.nop, 0, 0, 0, 0), (.nop, 0, 0, 0, 0), (.nop, 0, 0, 0, 0), (.nop, 0, 0, 0, 0), (.nop, 0, 0, 0, 0), (.nop, 0, 0, 0, 0), (.nop, 0, 0, 0, 0), (.nop, 0, 0, 0, 0), (.nop, 0, 0, 0, 0), (.nop, 0, 0, 0, 0), (.nop, 0, 0, 0, 0), (.nop, 0, 0, 0, 0), (.nop, 0, 0, 0, 0), (.nop, 0, 0, 0, 0), (.nop, 0, 0, 0, 0), (.nop, 0, 0, 0, 0), (.nop, 0, 0, 0, 0), (.nop, 0, 0, 0, 0), (.nop, 0, 0, 0, 0), (.nop, 0, 0, 0, 0), (.nop, 0, 0, 0, 0), (.nop, 0, 0, 0, 0), (.nop, 0, 0, 0, 0), (.nop, 0, 0, 0, 0), (.nop, 0, 0, 0, 0), (.nop, 0, 0, 0, 0), (.nop, 0, 0, 0, 0), (.nop, 0, 0, 0, 0), (.nop, 0, 0, 0, 0), (.nop, 0, 0, 0, 0), (.nop, 0, 0, 0, 0), (.nop, 0, 0, 0, 0)],
    [(.nop, 0, 0, 0, 0), (.nop, 0, 0, 0, 0), (.nop, 0, 0, 0, 0), (.nop, 0, 0, 0, 0), (.nop, 0, 0, 0, 0), (.nop, 0, 0, 0, 0), (.nop, 0, 0, 0, 0), (.nop, 0, 0, 0, 0), (.nop, 0, 0, 0, 0), (.nop, 0, 0, 0, 0), (.nop, 0, 0, 0, 0), (.nop, 0, 0, 0, 0), (.nop, 0, 0, 0, 0), (.nop, 0, 0, 0, 0), (.nop, 0, 0, 0, 0), (.nop, 0, 0, 0, 0), (.nop, 0, 0, 0, 0), (.nop, 0, 0, 0, 0), (.nop, 0, 0, 0, 0), (.nop, 0, 0, 0, 0), (.nop, 0, 0, 0, 0), (.nop, 0, 0, 0, 0), (.nop, 0, 0, 0, 0), (.nop, 0, 0, 0, 0), (.nop, 0, 0, 0, 0), (.nop, 0, 0, 0, 0), (.nop, 0, 0, 0, 0), (.nop, 0, 0, 0, 0), (.nop, 0, 0, 0, 0), (.nop, 0, 0, 0, 0), (.nop, 0, 0, 0, 0), (.nop, 0, 0, 0, 0)],
    [(.nop, 0, 0, 0, 0), (.nop, 0, 0, 0, 0), (.nop, 0, 0, 0, 0), (.nop, 0, 0, 0, 0), (.nop, 0, 0, 0, 0), (.nop, 0, 0, 0, 0), (.nop, 0, 0, 0, 0), (.nop, 0, 0, 0, 0), (.nop, 0, 0, 0, 0), (.nop, 0, 0, 0, 0), (.nop, 0, 0, 0, 0), (.nop, 0, 0, 0, 0), (.nop, 0, 0, 0, 0), (.nop, 0, 0, 0, 0), (.nop, 0, 0, 0, 0), (.nop, 0, 0, 0, 0), (.nop, 0, 0, 0, 0), (.nop, 0, 0, 0, 0), (.nop, 0, 0, 0, 0), (.nop, 0, 0, 0, 0), (.nop, 0, 0, 0, 0), (.nop, 0, 0, 0, 0), (.nop, 0, 0, 0, 0), (.nop, 0, 0, 0, 0), (.nop, 0, 0, 0, 0), (.nop, 0, 0, 0, 0), (.nop, 0, 0, 0, 0), (.nop, 0, 0, 0, 0), (.nop, 0, 0, 0, 0), (.nop, 0, 0, 0, 0), (.nop, 0, 0, 0, 0), (.nop, 0, 0, 0, 0)],
    [(.nop, 0, 0, 0, 0), (.nop, 0, 0, 0, 0), (.nop, 0, 0, 0, 0), (.nop, 0, 0, 0, 0), (.nop, 0, 0, 0, 0), (.nop, 0, 0, 0, 0), (.nop, 0, 0, 0, 0), (.nop, 0, 0, 0, 0), (.nop, 0, 0, 0, 0), (.nop, 0, 0, 0, 0), (.nop, 0, 0, 0, 0), (.nop, 0, 0, 0, 0), (.nop, 0, 0, 0, 0), (.nop, 0, 0, 0, 0), (.nop, 0, 0, 0, 0), (.nop, 0, 0, 0, 0), (.nop, 0, 0, 0, 0), (.nop, 0, 0, 0, 0), (.nop, 0, 0, 0, 0), (.nop, 0, 0, 0, 0), (.nop, 0, 0, 0, 0), (.nop, 0, 0, 0, 0), (.nop, 0, 0, 0, 0), (.nop, 0, 0, 0, 0), (.nop, 0, 0, 0, 0), (.nop, 0, 0, 0, 0), (.nop, 0, 0, 0, 0), (.nop, 0, 0, 0, 0), (.nop, 0, 0, 0, 0), (.nop, 0, 0, 0, 0), (.nop, 0, 0, 0, 0), (.nop, 0, 0, 0, 0)],
    [(.nop, 0, 0, 0, 0), (.nop, 0, 0, 0, 0), (.nop, 0, 0, 0, 0), (.nop, 0, 0, 0, 0), (.nop, 0, 0, 0, 0), (.nop, 0, 0, 0, 0), (.nop, 0, 0, 0, 0), (.nop, 0, 0, 0, 0), (.nop, 0, 0, 0, 0), (.nop, 0, 0, 0, 0), (.nop, 0, 0, 0, 0), (.nop, 0, 0, 0, 0), (.nop, 0, 0, 0, 0), (.nop, 0, 0, 0, 0), (.nop, 0, 0, 0, 0), (.nop, 0, 0, 0, 0), (.nop, 0, 0, 0, 0), (.nop, 0, 0, 0, 0), (.nop, 0, 0, 0, 0), (.nop, 0, 0, 0, 0), (.nop, 0, 0, 0, 0), (.nop, 0, 0, 0, 0)]], 1, 1, 1, 21, 0, 0)
def mi_X11_mix : ev_M := (yX11_mix, cX11_mix, 6, (some .long), [[(.lload_n 0, 1, 0, 0, 0), (.ldc2_w 214, 3, 0, 0, 6364136223846793005), (.nop, 0, 0, 0, 0), (.nop, 0, 0, 0, 0), (.lxor, 1, 0, 0, 0), (.ldc2_w 216, 3, 0, 0, -7046029254386353131), (.nop, 0, 0, 0, 0), (.nop, 0, 0, 0, 0), (.lmul, 1, 0, 0, 0), (.lstore 4, 2, 0, 0, 0), (.nop, 0, 0, 0, 0), (.lload 4, 2, 0, 0, 0), (.nop, 0, 0, 0, 0), (.lload 4, 2, 0, 0, 0), (.nop, 0, 0, 0, 0), (.bipush 32, 2, 0, 0, 0), (.nop, 0, 0, 0, 0), (.lushr, 1, 0, 0, 0), (.lxor, 1, 0, 0, 0), (.lload_n 2, 1, 0, 0, 0), (.ladd, 1, 0, 0, 0), (.lstore 4, 2, 0, 0, 0), (.nop, 0, 0, 0, 0), (.lload 4, 2, 0, 0, 0), (.nop, 0, 0, 0, 0), (.ldc2_w 218, 3, 0, 0, -2960836687051489901), (.nop, 0, 0, 0, 0), (.nop, 0, 0, 0, 0), (.lmul, 1, 0, 0, 0), (.lstore 4, 2, 0, 0, 0), (.nop, 0, 0, 0, 0), (.lload 4, 2, 0, 0, 0)],
    [(.nop, 0, 0, 0, 0), (.lload 4, 2, 0, 0, 0), (.nop, 0, 0, 0, 0), (.bipush 29, 2, 0, 0, 0), (.nop, 0, 0, 0, 0), (.lushr, 1, 0, 0, 0), (.lxor, 1, 0, 0, 0), (.lreturn, 1, 0, 0, 0)]], 0, 2, 0, 0, 0, 0)
def mi_X11_modQ : ev_M := (yX11_modQ, cX11_modQ, 2, (some .long), [[(.lload_n 0, 1, 0, 0, 0), (.ldc2_w 228, 3, 0, 0, 2305843009213693951), (.nop, 0, 0, 0, 0), (.nop, 0, 0, 0, 0), (.land, 1, 0, 0, 0), (.ldc2_w 226, 3, 0, 0, 2), (.nop, 0, 0, 0, 0), (.nop, 0, 0, 0, 0), (.lload_n 0, 1, 0, 0, 0), (.bipush 61, 2, 0, 0, 0), (.nop, 0, 0, 0, 0), (.lushr, 1, 0, 0, 0), (.lmul, 1, 0, 0, 0), (.ladd, 1, 0, 0, 0), (.ldc2_w 234, 3, 0, 0, 2305843009213693950), (.nop, 0, 0, 0, 0), (.nop, 0, 0, 0, 0), (.lrem, 1, 0, 0, 0), (.lreturn, 1, 0, 0, 0)]], 0, 1, 0, 0, 0, 0)
def mi_X11_number : ev_M := (yX11_number, cX11_number, 4, (some .long), [[(.aload_n 0, 1, 0, 0, 0), (.iload_n 1, 1, 0, 0, 0), (.invokevirtual 280, 3, 45, 10, 0), (.nop, 0, 0, 0, 0), (.nop, 0, 0, 0, 0), (.ifCond .eq 33, 3, 0, 0, 0), (.nop, 0, 0, 0, 0), (.nop, 0, 0, 0, 0), (.aload_n 0, 1, 0, 0, 0), (.getfield 46, 3, 10, 13, 3), (.nop, 0, 0, 0, 0), (.nop, 0, 0, 0, 0), (.aload_n 0, 1, 0, 0, 0), (.iload_n 1, 1, 0, 0, 0), (.invokevirtual 280, 3, 45, 10, 0), (.nop, 0, 0, 0, 0), (.nop, 0, 0, 0, 0), (.ifCond .eq 7, 3, 0, 0, 0), (.nop, 0, 0, 0, 0), (.nop, 0, 0, 0, 0), (.iload_n 1, 1, 0, 0, 0), (.goto 4, 3, 0, 0, 0), (.nop, 0, 0, 0, 0), (.nop, 0, 0, 0, 0), (.nop, 0, 0, 0, 0), (.baload, 1, 0, 0, 0), (.ifCond .eq 12, 3, 0, 0, 0), (.nop, 0, 0, 0, 0), (.nop, 0, 0, 0, 0), (.nop, 0, 0, 0, 0), (.nop, 0, 0, 0, 0), (.nop, 0, 0, 0, 0)],
    [(.nop, 0, 0, 0, 0), (.nop, 0, 0, 0, 0), (.nop, 0, 0, 0, 0), (.nop, 0, 0, 0, 0), (.nop, 0, 0, 0, 0), (.nop, 0, 0, 0, 0), (.lconst 0, 1, 0, 0, 0), (.lreturn, 1, 0, 0, 0), (.nop, 0, 0, 0, 0), (.nop, 0, 0, 0, 0), (.nop, 0, 0, 0, 0), (.nop, 0, 0, 0, 0), (.nop, 0, 0, 0, 0), (.nop, 0, 0, 0, 0), (.nop, 0, 0, 0, 0), (.nop, 0, 0, 0, 0), (.nop, 0, 0, 0, 0), (.nop, 0, 0, 0, 0), (.nop, 0, 0, 0, 0), (.nop, 0, 0, 0, 0), (.nop, 0, 0, 0, 0), (.nop, 0, 0, 0, 0), (.nop, 0, 0, 0, 0), (.nop, 0, 0, 0, 0), (.nop, 0, 0, 0, 0), (.nop, 0, 0, 0, 0), (.nop, 0, 0, 0, 0), (.nop, 0, 0, 0, 0), (.nop, 0, 0, 0, 0), (.nop, 0, 0, 0, 0), (.nop, 0, 0, 0, 0), (.nop, 0, 0, 0, 0)],
    [(.nop, 0, 0, 0, 0), (.nop, 0, 0, 0, 0), (.nop, 0, 0, 0, 0), (.nop, 0, 0, 0, 0), (.nop, 0, 0, 0, 0), (.nop, 0, 0, 0, 0), (.nop, 0, 0, 0, 0), (.nop, 0, 0, 0, 0), (.nop, 0, 0, 0, 0), (.nop, 0, 0, 0, 0), (.nop, 0, 0, 0, 0), (.nop, 0, 0, 0, 0), (.nop, 0, 0, 0, 0), (.nop, 0, 0, 0, 0), (.nop, 0, 0, 0, 0), (.nop, 0, 0, 0, 0), (.nop, 0, 0, 0, 0), (.nop, 0, 0, 0, 0), (.nop, 0, 0, 0, 0), (.nop, 0, 0, 0, 0), (.nop, 0, 0, 0, 0), (.nop, 0, 0, 0, 0), (.nop, 0, 0, 0, 0), (.nop, 0, 0, 0, 0), (.nop, 0, 0, 0, 0), (.nop, 0, 0, 0, 0), (.nop, 0, 0, 0, 0), (.nop, 0, 0, 0, 0), (.nop, 0, 0, 0, 0), (.nop, 0, 0, 0, 0), (.nop, 0, 0, 0, 0), (.nop, 0, 0, 0, 0)],
    [(.nop, 0, 0, 0, 0), (.nop, 0, 0, 0, 0), (.nop, 0, 0, 0, 0), (.nop, 0, 0, 0, 0), (.nop, 0, 0, 0, 0), (.nop, 0, 0, 0, 0), (.nop, 0, 0, 0, 0), (.nop, 0, 0, 0, 0), (.nop, 0, 0, 0, 0), (.nop, 0, 0, 0, 0), (.nop, 0, 0, 0, 0), (.nop, 0, 0, 0, 0), (.nop, 0, 0, 0, 0), (.nop, 0, 0, 0, 0), (.nop, 0, 0, 0, 0), (.nop, 0, 0, 0, 0), (.nop, 0, 0, 0, 0), (.nop, 0, 0, 0, 0), (.nop, 0, 0, 0, 0), (.nop, 0, 0, 0, 0), (.nop, 0, 0, 0, 0), (.nop, 0, 0, 0, 0), (.nop, 0, 0, 0, 0), (.nop, 0, 0, 0, 0), (.nop, 0, 0, 0, 0)]], 1, 2, 1, 21, 0, 0)
def mi_X11_onceInDirectory : ev_M := (yX11_onceInDirectory, cX11_onceInDirectory, 4, (some .int), [[(.iconst 0, 1, 0, 0, 0), (.istore_n 2, 1, 0, 0, 0), (.iconst 1, 1, 0, 0, 0), (.istore_n 3, 1, 0, 0, 0), (.iload_n 3, 1, 0, 0, 0), (.aload_n 0, 1, 0, 0, 0), (.getfield 82, 3, 10, 25, 3), (.nop, 0, 0, 0, 0), (.nop, 0, 0, 0, 0), (.iload_n 1, 1, 0, 0, 0), (.iaload, 1, 0, 0, 0), (.if_icmp .gt 31, 3, 0, 0, 0), (.nop, 0, 0, 0, 0), (.nop, 0, 0, 0, 0), (.nop, 0, 0, 0, 0), (.nop, 0, 0, 0, 0), (.nop, 0, 0, 0, 0), (.nop, 0, 0, 0, 0), (.nop, 0, 0, 0, 0), (.nop, 0, 0, 0, 0), (.nop, 0, 0, 0, 0), (.nop, 0, 0, 0, 0), (.nop, 0, 0, 0, 0), (.nop, 0, 0, 0, 0), (.nop, 0, 0, 0, 0), (.nop, 0, 0, 0, 0), (.nop, 0, 0, 0, 0), (.nop, 0, 0, 0, 0), (.nop, 0, 0, 0, 0), (.nop, 0, 0, 0, 0), (.nop, 0, 0, 0, 0), (.nop, 0, 0, 0, 0)],
    [(.nop, 0, 0, 0, 0), (.nop, 0, 0, 0, 0), (.nop, 0, 0, 0, 0), (.nop, 0, 0, 0, 0), (.nop, 0, 0, 0, 0), (.nop, 0, 0, 0, 0), (.nop, 0, 0, 0, 0), (.nop, 0, 0, 0, 0), (.nop, 0, 0, 0, 0), (.nop, 0, 0, 0, 0), (.iload_n 2, 1, 0, 0, 0), (.ireturn, 1, 0, 0, 0)]], 1, 1, 0, 0, 0, 0)
def mi_X11_power : ev_M := (yX11_power, cX11_power, 7, (some .long), [[(.lconst 1, 1, 0, 0, 0), (.lstore 4, 2, 0, 0, 0), (.nop, 0, 0, 0, 0), (.bipush 60, 2, 0, 0, 0), (.nop, 0, 0, 0, 0), (.istore 6, 2, 0, 0, 0), (.nop, 0, 0, 0, 0), (.iload 6, 2, 0, 0, 0), (.nop, 0, 0, 0, 0), (.ifCond .lt 37, 3, 0, 0, 0), (.nop, 0, 0, 0, 0), (.nop, 0, 0, 0, 0), (.lload 4, 2, 0, 0, 0), (.nop, 0, 0, 0, 0), (.lload 4, 2, 0, 0, 0), (.nop, 0, 0, 0, 0), (.invokestatic 236, 3, 66, 0, 0), (.nop, 0, 0, 0, 0), (.nop, 0, 0, 0, 0), (.lstore 4, 2, 0, 0, 0), (.nop, 0, 0, 0, 0), (.lload_n 2, 1, 0, 0, 0), (.iload 6, 2, 0, 0, 0), (.nop, 0, 0, 0, 0), (.lshr, 1, 0, 0, 0), (.lconst 1, 1, 0, 0, 0), (.land, 1, 0, 0, 0), (.lconst 1, 1, 0, 0, 0), (.lcmp, 1, 0, 0, 0), (.ifCond .ne 11, 3, 0, 0, 0), (.nop, 0, 0, 0, 0), (.nop, 0, 0, 0, 0)],
    [(.lload 4, 2, 0, 0, 0), (.nop, 0, 0, 0, 0), (.lload_n 0, 1, 0, 0, 0), (.invokestatic 236, 3, 66, 0, 0), (.nop, 0, 0, 0, 0), (.nop, 0, 0, 0, 0), (.lstore 4, 2, 0, 0, 0), (.nop, 0, 0, 0, 0), (.iinc 6 (-1), 3, 0, 0, 0), (.nop, 0, 0, 0, 0), (.nop, 0, 0, 0, 0), (.goto (-36), 3, 0, 0, 0), (.nop, 0, 0, 0, 0), (.nop, 0, 0, 0, 0), (.lload 4, 2, 0, 0, 0), (.nop, 0, 0, 0, 0), (.lreturn, 1, 0, 0, 0)]], 10, 2, 1, 37, 0, 0)
def mi_X11_publish : ev_M := (yX11_publish, cX11_publish, 5, (some .int), [[(.aload_n 0, 1, 0, 0, 0), (.iload_n 1, 1, 0, 0, 0), (.invokevirtual 280, 3, 45, 10, 0), (.nop, 0, 0, 0, 0), (.nop, 0, 0, 0, 0), (.ifCond .eq 14, 3, 0, 0, 0), (.nop, 0, 0, 0, 0), (.nop, 0, 0, 0, 0), (.iload_n 2, 1, 0, 0, 0), (.iconst 1, 1, 0, 0, 0), (.if_icmp .lt 9, 3, 0, 0, 0), (.nop, 0, 0, 0, 0), (.nop, 0, 0, 0, 0), (.iload_n 2, 1, 0, 0, 0), (.bipush 12, 2, 0, 0, 0), (.nop, 0, 0, 0, 0), (.if_icmp .le 5, 3, 0, 0, 0), (.nop, 0, 0, 0, 0), (.nop, 0, 0, 0, 0), (.iconst (-1), 1, 0, 0, 0), (.ireturn, 1, 0, 0, 0), (.aload_n 0, 1, 0, 0, 0), (.getfield 46, 3, 10, 13, 3), (.nop, 0, 0, 0, 0), (.nop, 0, 0, 0, 0), (.iload_n 1, 1, 0, 0, 0), (.baload, 1, 0, 0, 0), (.ifCond .ne 6, 3, 0, 0, 0), (.nop, 0, 0, 0, 0), (.nop, 0, 0, 0, 0), (.bipush (-2), 2, 0, 0, 0), (.nop, 0, 0, 0, 0)],
    [(.ireturn, 1, 0, 0, 0), (.nop, 0, 0, 0, 0), (.nop, 0, 0, 0, 0), (.nop, 0, 0, 0, 0), (.nop, 0, 0, 0, 0), (.nop, 0, 0, 0, 0), (.nop, 0, 0, 0, 0), (.nop, 0, 0, 0, 0), (.nop, 0, 0, 0, 0), (.nop, 0, 0, 0, 0), (.nop, 0, 0, 0, 0), (.nop, 0, 0, 0, 0), (.nop, 0, 0, 0, 0), (.nop, 0, 0, 0, 0), (.nop, 0, 0, 0, 0), (.nop, 0, 0, 0, 0), (.nop, 0, 0, 0, 0), (.nop, 0, 0, 0, 0), (.nop, 0, 0, 0, 0), (.nop, 0, 0, 0, 0), (.nop, 0, 0, 0, 0), (.nop, 0, 0, 0, 0), (.nop, 0, 0, 0, 0), (.nop, 0, 0, 0, 0), (.nop, 0, 0, 0, 0), (.nop, 0, 0, 0, 0), (.nop, 0, 0, 0, 0), (.nop, 0, 0, 0, 0), (.nop, 0, 0, 0, 0), (.nop, 0, 0, 0, 0), (.nop, 0, 0, 0, 0), (.nop, 0, 0, 0, 0)],
    [(.nop, 0, 0, 0, 0), (.nop, 0, 0, 0, 0), (.nop, 0, 0, 0, 0), (.nop, 0, 0, 0, 0), (.nop, 0, 0, 0, 0), (.nop, 0, 0, 0, 0), (.nop, 0, 0, 0, 0), (.nop, 0, 0, 0, 0), (.nop, 0, 0, 0, 0), (.nop, 0, 0, 0, 0), (.nop, 0, 0, 0, 0), (.nop, 0, 0, 0, 0), (.nop, 0, 0, 0, 0), (.nop, 0, 0, 0, 0), (.nop, 0, 0, 0, 0), (.nop, 0, 0, 0, 0), (.nop, 0, 0, 0, 0), (.nop, 0, 0, 0, 0), (.nop, 0, 0, 0, 0), (.nop, 0, 0, 0, 0), (.nop, 0, 0, 0, 0), (.nop, 0, 0, 0, 0), (.nop, 0, 0, 0, 0), (.nop, 0, 0, 0, 0), (.nop, 0, 0, 0, 0), (.nop, 0, 0, 0, 0), (.nop, 0, 0, 0, 0), (.nop, 0, 0, 0, 0), (.nop, 0, 0, 0, 0), (.nop, 0, 0, 0, 0), (.nop, 0, 0, 0, 0), (.nop, 0, 0, 0, 0)],
    [(.nop, 0, 0, 0, 0), (.nop, 0, 0, 0, 0), (.nop, 0, 0, 0, 0), (.nop, 0, 0, 0, 0), (.nop, 0, 0, 0, 0), (.nop, 0, 0, 0, 0), (.nop, 0, 0, 0, 0), (.nop, 0, 0, 0, 0), (.nop, 0, 0, 0, 0), (.nop, 0, 0, 0, 0), (.nop, 0, 0, 0, 0), (.nop, 0, 0, 0, 0), (.nop, 0, 0, 0, 0), (.nop, 0, 0, 0, 0), (.nop, 0, 0, 0, 0), (.nop, 0, 0, 0, 0), (.nop, 0, 0, 0, 0), (.nop, 0, 0, 0, 0), (.nop, 0, 0, 0, 0), (.nop, 0, 0, 0, 0), (.nop, 0, 0, 0, 0), (.nop, 0, 0, 0, 0), (.nop, 0, 0, 0, 0), (.nop, 0, 0, 0, 0), (.nop, 0, 0, 0, 0), (.nop, 0, 0, 0, 0), (.nop, 0, 0, 0, 0), (.nop, 0, 0, 0, 0), (.nop, 0, 0, 0, 0), (.nop, 0, 0, 0, 0), (.nop, 0, 0, 0, 0), (.nop, 0, 0, 0, 0)],
    [(.nop, 0, 0, 0, 0), (.nop, 0, 0, 0, 0), (.nop, 0, 0, 0, 0), (.nop, 0, 0, 0, 0), (.nop, 0, 0, 0, 0), (.nop, 0, 0, 0, 0), (.nop, 0, 0, 0, 0), (.nop, 0, 0, 0, 0), (.nop, 0, 0, 0, 0), (.nop, 0, 0, 0, 0), (.nop, 0, 0, 0, 0), (.nop, 0, 0, 0, 0), (.nop, 0, 0, 0, 0), (.nop, 0, 0, 0, 0), (.nop, 0, 0, 0, 0), (.nop, 0, 0, 0, 0), (.nop, 0, 0, 0, 0), (.nop, 0, 0, 0, 0), (.nop, 0, 0, 0, 0), (.nop, 0, 0, 0, 0), (.nop, 0, 0, 0, 0), (.nop, 0, 0, 0, 0), (.nop, 0, 0, 0, 0), (.nop, 0, 0, 0, 0), (.nop, 0, 0, 0, 0), (.nop, 0, 0, 0, 0), (.nop, 0, 0, 0, 0), (.nop, 0, 0, 0, 0), (.nop, 0, 0, 0, 0)]], 1, 2, 1, 21, 0, 0)
def mi_X11_readable : ev_M := (yX11_readable, cX11_readable, 3, (some .int), [[(.aload_n 0, 1, 0, 0, 0), (.iload_n 1, 1, 0, 0, 0), (.invokevirtual 348, 3, 44, 10, 0), (.nop, 0, 0, 0, 0), (.nop, 0, 0, 0, 0), (.ifCond .ne 5, 3, 0, 0, 0), (.nop, 0, 0, 0, 0), (.nop, 0, 0, 0, 0), (.iconst (-1), 1, 0, 0, 0), (.ireturn, 1, 0, 0, 0), (.nop, 0, 0, 0, 0), (.nop, 0, 0, 0, 0), (.nop, 0, 0, 0, 0), (.nop, 0, 0, 0, 0), (.nop, 0, 0, 0, 0), (.nop, 0, 0, 0, 0), (.nop, 0, 0, 0, 0), (.nop, 0, 0, 0, 0), (.nop, 0, 0, 0, 0), (.nop, 0, 0, 0, 0), (.nop, 0, 0, 0, 0), (.nop, 0, 0, 0, 0), (.nop, 0, 0, 0, 0), (.nop, 0, 0, 0, 0), (.nop, 0, 0, 0, 0), (.nop, 0, 0, 0, 0), (.nop, 0, 0, 0, 0), (.nop, 0, 0, 0, 0), (.nop, 0, 0, 0, 0), (.nop, 0, 0, 0, 0), (.nop, 0, 0, 0, 0), (.nop, 0, 0, 0, 0)],
    [(.nop, 0, 0, 0, 0), (.nop, 0, 0, 0, 0), (.nop, 0, 0, 0, 0), (.nop, 0, 0, 0, 0), (.nop, 0, 0, 0, 0), (.nop, 0, 0, 0, 0), (.nop, 0, 0, 0, 0), (.nop, 0, 0, 0, 0), (.nop, 0, 0, 0, 0), (.nop, 0, 0, 0, 0), (.nop, 0, 0, 0, 0), (.nop, 0, 0, 0, 0), (.nop, 0, 0, 0, 0), (.nop, 0, 0, 0, 0), (.nop, 0, 0, 0, 0), (.nop, 0, 0, 0, 0), (.nop, 0, 0, 0, 0), (.nop, 0, 0, 0, 0), (.nop, 0, 0, 0, 0), (.nop, 0, 0, 0, 0), (.nop, 0, 0, 0, 0), (.nop, 0, 0, 0, 0), (.nop, 0, 0, 0, 0), (.nop, 0, 0, 0, 0), (.nop, 0, 0, 0, 0), (.nop, 0, 0, 0, 0), (.nop, 0, 0, 0, 0), (.nop, 0, 0, 0, 0), (.nop, 0, 0, 0, 0), (.nop, 0, 0, 0, 0), (.nop, 0, 0, 0, 0), (.nop, 0, 0, 0, 0)],
    [(.nop, 0, 0, 0, 0), (.nop, 0, 0, 0, 0), (.nop, 0, 0, 0, 0), (.nop, 0, 0, 0, 0), (.nop, 0, 0, 0, 0), (.nop, 0, 0, 0, 0), (.nop, 0, 0, 0, 0), (.nop, 0, 0, 0, 0), (.nop, 0, 0, 0, 0), (.nop, 0, 0, 0, 0)]], 1, 1, 1, 21, 0, 0)
def mi_X11_register : ev_M := (yX11_register, cX11_register, 2, (some .int), [[(.aload_n 0, 1, 0, 0, 0), (.iload_n 1, 1, 0, 0, 0), (.invokevirtual 280, 3, 45, 10, 0), (.nop, 0, 0, 0, 0), (.nop, 0, 0, 0, 0), (.ifCond .ne 5, 3, 0, 0, 0), (.nop, 0, 0, 0, 0), (.nop, 0, 0, 0, 0), (.iconst (-1), 1, 0, 0, 0), (.ireturn, 1, 0, 0, 0), (.aload_n 0, 1, 0, 0, 0), (.getfield 46, 3, 10, 13, 3), (.nop, 0, 0, 0, 0), (.nop, 0, 0, 0, 0), (.iload_n 1, 1, 0, 0, 0), (.baload, 1, 0, 0, 0), (.ifCond .eq 5, 3, 0, 0, 0), (.nop, 0, 0, 0, 0), (.nop, 0, 0, 0, 0), (.nop, 0, 0, 0, 0), (.nop, 0, 0, 0, 0), (.aload_n 0, 1, 0, 0, 0), (.getfield 46, 3, 10, 13, 3), (.nop, 0, 0, 0, 0), (.nop, 0, 0, 0, 0), (.iload_n 1, 1, 0, 0, 0), (.iconst 1, 1, 0, 0, 0), (.bastore, 1, 0, 0, 0), (.aload_n 0, 1, 0, 0, 0), (.iload_n 1, 1, 0, 0, 0), (.invokevirtual 271, 3, 37, 10, 0), (.nop, 0, 0, 0, 0)],
    [(.nop, 0, 0, 0, 0), (.aload_n 0, 1, 0, 0, 0), (.getfield 52, 3, 10, 15, 3), (.nop, 0, 0, 0, 0), (.nop, 0, 0, 0, 0), (.iload_n 1, 1, 0, 0, 0), (.aload_n 0, 1, 0, 0, 0), (.getfield 257, 3, 10, 31, 1), (.nop, 0, 0, 0, 0), (.nop, 0, 0, 0, 0), (.lastore, 1, 0, 0, 0), (.aload_n 0, 1, 0, 0, 0), (.getfield 55, 3, 10, 16, 3), (.nop, 0, 0, 0, 0), (.nop, 0, 0, 0, 0), (.iload_n 1, 1, 0, 0, 0), (.aload_n 0, 1, 0, 0, 0), (.getfield 261, 3, 10, 32, 1), (.nop, 0, 0, 0, 0), (.nop, 0, 0, 0, 0), (.lastore, 1, 0, 0, 0), (.aload_n 0, 1, 0, 0, 0), (.getfield 58, 3, 10, 17, 3), (.nop, 0, 0, 0, 0), (.nop, 0, 0, 0, 0), (.iload_n 1, 1, 0, 0, 0), (.aload_n 0, 1, 0, 0, 0), (.getfield 268, 3, 10, 33, 0), (.nop, 0, 0, 0, 0), (.nop, 0, 0, 0, 0), (.iastore, 1, 0, 0, 0), (.aload_n 0, 1, 0, 0, 0)],
    [(.iload_n 1, 1, 0, 0, 0), (.invokevirtual 284, 3, 48, 10, 0), (.nop, 0, 0, 0, 0), (.nop, 0, 0, 0, 0), (.iconst 1, 1, 0, 0, 0), (.ireturn, 1, 0, 0, 0)]], 1, 1, 5, 129, 0, 0)
def mi_X11_rotate : ev_M := (yX11_rotate, cX11_rotate, 2, (some .int), [[(.aload_n 0, 1, 0, 0, 0), (.iload_n 1, 1, 0, 0, 0), (.invokevirtual 280, 3, 45, 10, 0), (.nop, 0, 0, 0, 0), (.nop, 0, 0, 0, 0), (.ifCond .ne 5, 3, 0, 0, 0), (.nop, 0, 0, 0, 0), (.nop, 0, 0, 0, 0), (.iconst (-1), 1, 0, 0, 0), (.ireturn, 1, 0, 0, 0), (.aload_n 0, 1, 0, 0, 0), (.getfield 46, 3, 10, 13, 3), (.nop, 0, 0, 0, 0), (.nop, 0, 0, 0, 0), (.iload_n 1, 1, 0, 0, 0), (.baload, 1, 0, 0, 0), (.ifCond .ne 6, 3, 0, 0, 0), (.nop, 0, 0, 0, 0), (.nop, 0, 0, 0, 0), (.bipush (-2), 2, 0, 0, 0), (.nop, 0, 0, 0, 0), (.ireturn, 1, 0, 0, 0), (.nop, 0, 0, 0, 0), (.nop, 0, 0, 0, 0), (.nop, 0, 0, 0, 0), (.nop, 0, 0, 0, 0), (.nop, 0, 0, 0, 0), (.nop, 0, 0, 0, 0), (.nop, 0, 0, 0, 0), (.nop, 0, 0, 0, 0), (.nop, 0, 0, 0, 0), (.nop, 0, 0, 0, 0)],
    [(.nop, 0, 0, 0, 0), (.nop, 0, 0, 0, 0), (.nop, 0, 0, 0, 0), (.nop, 0, 0, 0, 0), (.nop, 0, 0, 0, 0), (.nop, 0, 0, 0, 0), (.nop, 0, 0, 0, 0), (.nop, 0, 0, 0, 0), (.nop, 0, 0, 0, 0), (.nop, 0, 0, 0, 0), (.nop, 0, 0, 0, 0), (.nop, 0, 0, 0, 0), (.nop, 0, 0, 0, 0), (.nop, 0, 0, 0, 0), (.nop, 0, 0, 0, 0), (.nop, 0, 0, 0, 0)]], 1, 1, 1, 21, 0, 0)
def mi_X11_same : ev_M := (yX11_same, cX11_same, 7, (some .int), [[(.aload_n 0, 1, 0, 0, 0), (.iload_n 1, 1, 0, 0, 0), (.iload_n 2, 1, 0, 0, 0), (.iload_n 3, 1, 0, 0, 0), (.invokevirtual 436, 3, 63, 10, 0), (.nop, 0, 0, 0, 0), (.nop, 0, 0, 0, 0), (.istore 5, 2, 0, 0, 0), (.nop, 0, 0, 0, 0), (.aload_n 0, 1, 0, 0, 0), (.iload_n 2, 1, 0, 0, 0), (.iload_n 1, 1, 0, 0, 0), (.iload 4, 2, 0, 0, 0), (.nop, 0, 0, 0, 0), (.invokevirtual 436, 3, 63, 10, 0), (.nop, 0, 0, 0, 0), (.nop, 0, 0, 0, 0), (.istore 6, 2, 0, 0, 0), (.nop, 0, 0, 0, 0), (.iload 5, 2, 0, 0, 0), (.nop, 0, 0, 0, 0), (.ifCond .lt 8, 3, 0, 0, 0), (.nop, 0, 0, 0, 0), (.nop, 0, 0, 0, 0), (.nop, 0, 0, 0, 0), (.nop, 0, 0, 0, 0), (.nop, 0, 0, 0, 0), (.nop, 0, 0, 0, 0), (.nop, 0, 0, 0, 0), (.iconst (-1), 1, 0, 0, 0), (.ireturn, 1, 0, 0, 0), (.nop, 0, 0, 0, 0)],
    [(.nop, 0, 0, 0, 0), (.nop, 0, 0, 0, 0), (.nop, 0, 0, 0, 0), (.nop, 0, 0, 0, 0), (.nop, 0, 0, 0, 0), (.nop, 0, 0, 0, 0), (.nop, 0, 0, 0, 0), (.nop, 0, 0, 0, 0), (.nop, 0, 0, 0, 0), (.nop, 0, 0, 0, 0), (.nop, 0, 0, 0, 0), (.nop, 0, 0, 0, 0), (.nop, 0, 0, 0, 0), (.nop, 0, 0, 0, 0), (.nop, 0, 0, 0, 0), (.nop, 0, 0, 0, 0), (.nop, 0, 0, 0, 0), (.nop, 0, 0, 0, 0), (.nop, 0, 0, 0, 0), (.nop, 0, 0, 0, 0), (.nop, 0, 0, 0, 0), (.nop, 0, 0, 0, 0), (.nop, 0, 0, 0, 0), (.nop, 0, 0, 0, 0), (.nop, 0, 0, 0, 0), (.nop, 0, 0, 0, 0), (.nop, 0, 0, 0, 0), (.nop, 0, 0, 0, 0), (.nop, 0, 0, 0, 0), (.nop, 0, 0, 0, 0), (.nop, 0, 0, 0, 0), (.nop, 0, 0, 0, 0)],
    [(.nop, 0, 0, 0, 0), (.nop, 0, 0, 0, 0), (.nop, 0, 0, 0, 0), (.nop, 0, 0, 0, 0), (.nop, 0, 0, 0, 0), (.nop, 0, 0, 0, 0), (.nop, 0, 0, 0, 0)]], 1, 4, 2, 44, 0, 0)
def mi_X11_session : ev_M := (yX11_session, cX11_session, 6, (some .int), [[(.iload_n 3, 1, 0, 0, 0), (.iconst (-1), 1, 0, 0, 0), (.if_icmp .ne 41, 3, 0, 0, 0), (.nop, 0, 0, 0, 0), (.nop, 0, 0, 0, 0), (.iload 4, 2, 0, 0, 0), (.nop, 0, 0, 0, 0), (.ifCond .ne 36, 3, 0, 0, 0), (.nop, 0, 0, 0, 0), (.nop, 0, 0, 0, 0), (.aload_n 0, 1, 0, 0, 0), (.iload_n 1, 1, 0, 0, 0), (.invokevirtual 280, 3, 45, 10, 0), (.nop, 0, 0, 0, 0), (.nop, 0, 0, 0, 0), (.ifCond .eq 28, 3, 0, 0, 0), (.nop, 0, 0, 0, 0), (.nop, 0, 0, 0, 0), (.aload_n 0, 1, 0, 0, 0), (.iload_n 2, 1, 0, 0, 0), (.invokevirtual 280, 3, 45, 10, 0), (.nop, 0, 0, 0, 0), (.nop, 0, 0, 0, 0), (.ifCond .eq 20, 3, 0, 0, 0), (.nop, 0, 0, 0, 0), (.nop, 0, 0, 0, 0), (.iload_n 1, 1, 0, 0, 0), (.iload_n 2, 1, 0, 0, 0), (.if_icmp .eq 15, 3, 0, 0, 0), (.nop, 0, 0, 0, 0), (.nop, 0, 0, 0, 0), (.aload_n 0, 1, 0, 0, 0)],
    [(.getfield 103, 3, 10, 35, 3), (.nop, 0, 0, 0, 0), (.nop, 0, 0, 0, 0), (.bipush 6, 2, 0, 0, 0), (.nop, 0, 0, 0, 0), (.iload_n 1, 1, 0, 0, 0), (.imul, 1, 0, 0, 0), (.iload_n 2, 1, 0, 0, 0), (.iadd, 1, 0, 0, 0), (.iaload, 1, 0, 0, 0), (.ireturn, 1, 0, 0, 0), (.aload_n 0, 1, 0, 0, 0), (.iload_n 1, 1, 0, 0, 0), (.iload_n 2, 1, 0, 0, 0), (.iload_n 3, 1, 0, 0, 0), (.invokevirtual 436, 3, 63, 10, 0), (.nop, 0, 0, 0, 0), (.nop, 0, 0, 0, 0), (.istore 5, 2, 0, 0, 0), (.nop, 0, 0, 0, 0), (.iload 5, 2, 0, 0, 0), (.nop, 0, 0, 0, 0), (.ifCond .lt 15, 3, 0, 0, 0), (.nop, 0, 0, 0, 0), (.nop, 0, 0, 0, 0), (.nop, 0, 0, 0, 0), (.nop, 0, 0, 0, 0), (.nop, 0, 0, 0, 0), (.nop, 0, 0, 0, 0), (.nop, 0, 0, 0, 0), (.nop, 0, 0, 0, 0), (.nop, 0, 0, 0, 0)],
    [(.nop, 0, 0, 0, 0), (.nop, 0, 0, 0, 0), (.nop, 0, 0, 0, 0), (.nop, 0, 0, 0, 0), (.nop, 0, 0, 0, 0), (.iconst (-1), 1, 0, 0, 0), (.ireturn, 1, 0, 0, 0), (.nop, 0, 0, 0, 0), (.nop, 0, 0, 0, 0), (.nop, 0, 0, 0, 0), (.nop, 0, 0, 0, 0), (.nop, 0, 0, 0, 0), (.nop, 0, 0, 0, 0), (.nop, 0, 0, 0, 0), (.nop, 0, 0, 0, 0), (.nop, 0, 0, 0, 0), (.nop, 0, 0, 0, 0), (.nop, 0, 0, 0, 0), (.nop, 0, 0, 0, 0), (.nop, 0, 0, 0, 0), (.nop, 0, 0, 0, 0), (.nop, 0, 0, 0, 0), (.nop, 0, 0, 0, 0), (.nop, 0, 0, 0, 0), (.nop, 0, 0, 0, 0), (.nop, 0, 0, 0, 0), (.nop, 0, 0, 0, 0), (.nop, 0, 0, 0, 0), (.nop, 0, 0, 0, 0), (.nop, 0, 0, 0, 0), (.nop, 0, 0, 0, 0), (.nop, 0, 0, 0, 0)],
    [(.nop, 0, 0, 0, 0), (.nop, 0, 0, 0, 0), (.nop, 0, 0, 0, 0), (.nop, 0, 0, 0, 0), (.nop, 0, 0, 0, 0), (.nop, 0, 0, 0, 0), (.nop, 0, 0, 0, 0), (.nop, 0, 0, 0, 0), (.nop, 0, 0, 0, 0), (.nop, 0, 0, 0, 0), (.nop, 0, 0, 0, 0), (.nop, 0, 0, 0, 0), (.nop, 0, 0, 0, 0), (.nop, 0, 0, 0, 0), (.nop, 0, 0, 0, 0), (.nop, 0, 0, 0, 0), (.nop, 0, 0, 0, 0), (.nop, 0, 0, 0, 0), (.nop, 0, 0, 0, 0), (.nop, 0, 0, 0, 0), (.nop, 0, 0, 0, 0), (.nop, 0, 0, 0, 0), (.nop, 0, 0, 0, 0), (.nop, 0, 0, 0, 0), (.nop, 0, 0, 0, 0), (.nop, 0, 0, 0, 0), (.nop, 0, 0, 0, 0), (.nop, 0, 0, 0, 0), (.nop, 0, 0, 0, 0), (.nop, 0, 0, 0, 0), (.nop, 0, 0, 0, 0), (.nop, 0, 0, 0, 0)],
    [(.nop, 0, 0, 0, 0), (.nop, 0, 0, 0, 0), (.nop, 0, 0, 0, 0), (.nop, 0, 0, 0, 0), (.nop, 0, 0, 0, 0), (.nop, 0, 0, 0, 0), (.nop, 0, 0, 0, 0), (.nop, 0, 0, 0, 0), (.nop, 0, 0, 0, 0), (.nop, 0, 0, 0, 0), (.nop, 0, 0, 0, 0), (.nop, 0, 0, 0, 0), (.nop, 0, 0, 0, 0), (.nop, 0, 0, 0, 0), (.nop, 0, 0, 0, 0), (.nop, 0, 0, 0, 0), (.nop, 0, 0, 0, 0), (.nop, 0, 0, 0, 0), (.nop, 0, 0, 0, 0), (.nop, 0, 0, 0, 0), (.nop, 0, 0, 0, 0), (.nop, 0, 0, 0, 0), (.nop, 0, 0, 0, 0), (.nop, 0, 0, 0, 0), (.nop, 0, 0, 0, 0), (.nop, 0, 0, 0, 0), (.nop, 0, 0, 0, 0), (.nop, 0, 0, 0, 0), (.nop, 0, 0, 0, 0), (.nop, 0, 0, 0, 0), (.nop, 0, 0, 0, 0), (.nop, 0, 0, 0, 0)],
    [(.nop, 0, 0, 0, 0), (.nop, 0, 0, 0, 0), (.nop, 0, 0, 0, 0), (.nop, 0, 0, 0, 0), (.nop, 0, 0, 0, 0), (.nop, 0, 0, 0, 0), (.nop, 0, 0, 0, 0), (.nop, 0, 0, 0, 0), (.nop, 0, 0, 0, 0), (.nop, 0, 0, 0, 0), (.nop, 0, 0, 0, 0), (.nop, 0, 0, 0, 0), (.nop, 0, 0, 0, 0), (.nop, 0, 0, 0, 0), (.nop, 0, 0, 0, 0), (.nop, 0, 0, 0, 0), (.nop, 0, 0, 0, 0), (.nop, 0, 0, 0, 0), (.nop, 0, 0, 0, 0), (.nop, 0, 0, 0, 0), (.nop, 0, 0, 0, 0), (.nop, 0, 0, 0, 0), (.nop, 0, 0, 0, 0), (.nop, 0, 0, 0, 0), (.nop, 0, 0, 0, 0), (.nop, 0, 0, 0, 0), (.nop, 0, 0, 0, 0), (.nop, 0, 0, 0, 0), (.nop, 0, 0, 0, 0), (.nop, 0, 0, 0, 0), (.nop, 0, 0, 0, 0), (.nop, 0, 0, 0, 0)],
    [(.nop, 0, 0, 0, 0), (.nop, 0, 0, 0, 0), (.nop, 0, 0, 0, 0), (.nop, 0, 0, 0, 0), (.nop, 0, 0, 0, 0), (.nop, 0, 0, 0, 0), (.nop, 0, 0, 0, 0), (.nop, 0, 0, 0, 0), (.nop, 0, 0, 0, 0), (.nop, 0, 0, 0, 0), (.nop, 0, 0, 0, 0), (.nop, 0, 0, 0, 0), (.nop, 0, 0, 0, 0), (.nop, 0, 0, 0, 0), (.nop, 0, 0, 0, 0), (.nop, 0, 0, 0, 0), (.nop, 0, 0, 0, 0), (.nop, 0, 0, 0, 0), (.nop, 0, 0, 0, 0), (.nop, 0, 0, 0, 0)]], 1, 4, 2, 44, 0, 0)
def mi_X11_sessionsOf : ev_M := (yX11_sessionsOf, cX11_sessionsOf, 4, (some .int), [[(.iconst 0, 1, 0, 0, 0), (.istore_n 2, 1, 0, 0, 0), (.iconst 0, 1, 0, 0, 0), (.istore_n 3, 1, 0, 0, 0), (.iload_n 3, 1, 0, 0, 0), (.aload_n 0, 1, 0, 0, 0), (.getfield 211, 3, 10, 0, 0), (.nop, 0, 0, 0, 0), (.nop, 0, 0, 0, 0), (.if_icmp .ge 23, 3, 0, 0, 0), (.nop, 0, 0, 0, 0), (.nop, 0, 0, 0, 0), (.iload_n 2, 1, 0, 0, 0), (.aload_n 0, 1, 0, 0, 0), (.getfield 103, 3, 10, 35, 3), (.nop, 0, 0, 0, 0), (.nop, 0, 0, 0, 0), (.bipush 6, 2, 0, 0, 0), (.nop, 0, 0, 0, 0), (.iload_n 1, 1, 0, 0, 0), (.imul, 1, 0, 0, 0), (.iload_n 3, 1, 0, 0, 0), (.iadd, 1, 0, 0, 0), (.iaload, 1, 0, 0, 0), (.iadd, 1, 0, 0, 0), (.istore_n 2, 1, 0, 0, 0), (.iinc 3 1, 3, 0, 0, 0), (.nop, 0, 0, 0, 0), (.nop, 0, 0, 0, 0), (.goto (-25), 3, 0, 0, 0), (.nop, 0, 0, 0, 0), (.nop, 0, 0, 0, 0)],
    [(.iload_n 2, 1, 0, 0, 0), (.ireturn, 1, 0, 0, 0)]], 1, 1, 0, 0, 0, 0)
def mi_X11_slotOf : ev_M := (yX11_slotOf, cX11_slotOf, 4, (some .int), [[(.aload_n 0, 1, 0, 0, 0), (.iload_n 1, 1, 0, 0, 0), (.invokevirtual 280, 3, 45, 10, 0), (.nop, 0, 0, 0, 0), (.nop, 0, 0, 0, 0), (.ifCond .eq 55, 3, 0, 0, 0), (.nop, 0, 0, 0, 0), (.nop, 0, 0, 0, 0), (.aload_n 0, 1, 0, 0, 0), (.iload_n 2, 1, 0, 0, 0), (.invokevirtual 280, 3, 45, 10, 0), (.nop, 0, 0, 0, 0), (.nop, 0, 0, 0, 0), (.ifCond .eq 47, 3, 0, 0, 0), (.nop, 0, 0, 0, 0), (.nop, 0, 0, 0, 0), (.iload_n 1, 1, 0, 0, 0), (.iload_n 2, 1, 0, 0, 0), (.if_icmp .eq 42, 3, 0, 0, 0), (.nop, 0, 0, 0, 0), (.nop, 0, 0, 0, 0), (.iload_n 3, 1, 0, 0, 0), (.ifCond .lt 38, 3, 0, 0, 0), (.nop, 0, 0, 0, 0), (.nop, 0, 0, 0, 0), (.iload_n 3, 1, 0, 0, 0), (.aload_n 0, 1, 0, 0, 0), (.getfield 103, 3, 10, 35, 3), (.nop, 0, 0, 0, 0), (.nop, 0, 0, 0, 0), (.aload_n 0, 1, 0, 0, 0), (.iload_n 1, 1, 0, 0, 0)],
    [(.invokevirtual 280, 3, 45, 10, 0), (.nop, 0, 0, 0, 0), (.nop, 0, 0, 0, 0), (.ifCond .eq 20, 3, 0, 0, 0), (.nop, 0, 0, 0, 0), (.nop, 0, 0, 0, 0), (.aload_n 0, 1, 0, 0, 0), (.iload_n 2, 1, 0, 0, 0), (.invokevirtual 280, 3, 45, 10, 0), (.nop, 0, 0, 0, 0), (.nop, 0, 0, 0, 0), (.ifCond .eq 12, 3, 0, 0, 0), (.nop, 0, 0, 0, 0), (.nop, 0, 0, 0, 0), (.bipush 6, 2, 0, 0, 0), (.nop, 0, 0, 0, 0), (.iload_n 1, 1, 0, 0, 0), (.imul, 1, 0, 0, 0), (.iload_n 2, 1, 0, 0, 0), (.iadd, 1, 0, 0, 0), (.goto 4, 3, 0, 0, 0), (.nop, 0, 0, 0, 0), (.nop, 0, 0, 0, 0), (.nop, 0, 0, 0, 0), (.iaload, 1, 0, 0, 0), (.if_icmp .lt 6, 3, 0, 0, 0), (.nop, 0, 0, 0, 0), (.nop, 0, 0, 0, 0), (.bipush (-2), 2, 0, 0, 0), (.nop, 0, 0, 0, 0), (.ireturn, 1, 0, 0, 0), (.nop, 0, 0, 0, 0)],
    [(.nop, 0, 0, 0, 0), (.nop, 0, 0, 0, 0), (.nop, 0, 0, 0, 0), (.nop, 0, 0, 0, 0), (.nop, 0, 0, 0, 0), (.nop, 0, 0, 0, 0), (.nop, 0, 0, 0, 0), (.nop, 0, 0, 0, 0), (.nop, 0, 0, 0, 0), (.nop, 0, 0, 0, 0), (.nop, 0, 0, 0, 0), (.nop, 0, 0, 0, 0), (.nop, 0, 0, 0, 0), (.nop, 0, 0, 0, 0), (.nop, 0, 0, 0, 0)]], 1, 3, 1, 21, 0, 0)
def mi_X11_spoil : ev_M := (yX11_spoil, cX11_spoil, 4, (some .int), [[(.aload_n 0, 1, 0, 0, 0), (.iload_n 1, 1, 0, 0, 0), (.invokevirtual 348, 3, 44, 10, 0), (.nop, 0, 0, 0, 0), (.nop, 0, 0, 0, 0), (.ifCond .eq 41, 3, 0, 0, 0), (.nop, 0, 0, 0, 0), (.nop, 0, 0, 0, 0), (.nop, 0, 0, 0, 0), (.nop, 0, 0, 0, 0), (.nop, 0, 0, 0, 0), (.nop, 0, 0, 0, 0), (.nop, 0, 0, 0, 0), (.nop, 0, 0, 0, 0), (.nop, 0, 0, 0, 0), (.nop, 0, 0, 0, 0), (.nop, 0, 0, 0, 0), (.nop, 0, 0, 0, 0), (.nop, 0, 0, 0, 0), (.nop, 0, 0, 0, 0), (.nop, 0, 0, 0, 0), (.nop, 0, 0, 0, 0), (.nop, 0, 0, 0, 0), (.nop, 0, 0, 0, 0), (.nop, 0, 0, 0, 0), (.nop, 0, 0, 0, 0), (.nop, 0, 0, 0, 0), (.nop, 0, 0, 0, 0), (.nop, 0, 0, 0, 0), (.nop, 0, 0, 0, 0), (.nop, 0, 0, 0, 0), (.nop, 0, 0, 0, 0)],
    [(.nop, 0, 0, 0, 0), (.nop, 0, 0, 0, 0), (.nop, 0, 0, 0, 0), (.nop, 0, 0, 0, 0), (.nop, 0, 0, 0, 0), (.nop, 0, 0, 0, 0), (.nop, 0, 0, 0, 0), (.nop, 0, 0, 0, 0), (.nop, 0, 0, 0, 0), (.nop, 0, 0, 0, 0), (.nop, 0, 0, 0, 0), (.nop, 0, 0, 0, 0), (.nop, 0, 0, 0, 0), (.nop, 0, 0, 0, 0), (.iconst (-1), 1, 0, 0, 0), (.ireturn, 1, 0, 0, 0), (.nop, 0, 0, 0, 0), (.nop, 0, 0, 0, 0), (.nop, 0, 0, 0, 0), (.nop, 0, 0, 0, 0), (.nop, 0, 0, 0, 0), (.nop, 0, 0, 0, 0), (.nop, 0, 0, 0, 0), (.nop, 0, 0, 0, 0), (.nop, 0, 0, 0, 0), (.nop, 0, 0, 0, 0), (.nop, 0, 0, 0, 0), (.nop, 0, 0, 0, 0), (.nop, 0, 0, 0, 0), (.nop, 0, 0, 0, 0), (.nop, 0, 0, 0, 0), (.nop, 0, 0, 0, 0)],
    [(.nop, 0, 0, 0, 0), (.nop, 0, 0, 0, 0), (.nop, 0, 0, 0, 0), (.nop, 0, 0, 0, 0), (.nop, 0, 0, 0, 0), (.nop, 0, 0, 0, 0), (.nop, 0, 0, 0, 0), (.nop, 0, 0, 0, 0), (.nop, 0, 0, 0, 0), (.nop, 0, 0, 0, 0), (.nop, 0, 0, 0, 0)]], 1, 3, 1, 21, 0, 0)
def mi_X11_term : ev_M := (yX11_term, cX11_term, 7, (some .int), [[(.iconst 1, 1, 0, 0, 0), (.istore 6, 2, 0, 0, 0), (.nop, 0, 0, 0, 0), (.iload 6, 2, 0, 0, 0), (.nop, 0, 0, 0, 0), (.aload_n 0, 1, 0, 0, 0), (.getfield 13, 3, 10, 2, 0), (.nop, 0, 0, 0, 0), (.nop, 0, 0, 0, 0), (.if_icmp .ge 74, 3, 0, 0, 0), (.nop, 0, 0, 0, 0), (.nop, 0, 0, 0, 0), (.iload_n 1, 1, 0, 0, 0), (.iconst 1, 1, 0, 0, 0), (.if_icmp .eq 69, 3, 0, 0, 0), (.nop, 0, 0, 0, 0), (.nop, 0, 0, 0, 0), (.nop, 0, 0, 0, 0), (.nop, 0, 0, 0, 0), (.nop, 0, 0, 0, 0), (.nop, 0, 0, 0, 0), (.nop, 0, 0, 0, 0), (.nop, 0, 0, 0, 0), (.nop, 0, 0, 0, 0), (.nop, 0, 0, 0, 0), (.nop, 0, 0, 0, 0), (.nop, 0, 0, 0, 0), (.nop, 0, 0, 0, 0), (.nop, 0, 0, 0, 0), (.nop, 0, 0, 0, 0), (.nop, 0, 0, 0, 0), (.nop, 0, 0, 0, 0)],
    [(.nop, 0, 0, 0, 0), (.nop, 0, 0, 0, 0), (.nop, 0, 0, 0, 0), (.nop, 0, 0, 0, 0), (.nop, 0, 0, 0, 0), (.nop, 0, 0, 0, 0), (.nop, 0, 0, 0, 0), (.nop, 0, 0, 0, 0), (.nop, 0, 0, 0, 0), (.nop, 0, 0, 0, 0), (.nop, 0, 0, 0, 0), (.nop, 0, 0, 0, 0), (.nop, 0, 0, 0, 0), (.nop, 0, 0, 0, 0), (.nop, 0, 0, 0, 0), (.nop, 0, 0, 0, 0), (.nop, 0, 0, 0, 0), (.nop, 0, 0, 0, 0), (.nop, 0, 0, 0, 0), (.nop, 0, 0, 0, 0), (.nop, 0, 0, 0, 0), (.nop, 0, 0, 0, 0), (.nop, 0, 0, 0, 0), (.nop, 0, 0, 0, 0), (.nop, 0, 0, 0, 0), (.nop, 0, 0, 0, 0), (.nop, 0, 0, 0, 0), (.nop, 0, 0, 0, 0), (.nop, 0, 0, 0, 0), (.nop, 0, 0, 0, 0), (.nop, 0, 0, 0, 0), (.nop, 0, 0, 0, 0)],
    [(.nop, 0, 0, 0, 0), (.nop, 0, 0, 0, 0), (.nop, 0, 0, 0, 0), (.nop, 0, 0, 0, 0), (.nop, 0, 0, 0, 0), (.nop, 0, 0, 0, 0), (.nop, 0, 0, 0, 0), (.nop, 0, 0, 0, 0), (.nop, 0, 0, 0, 0), (.nop, 0, 0, 0, 0), (.nop, 0, 0, 0, 0), (.nop, 0, 0, 0, 0), (.nop, 0, 0, 0, 0), (.nop, 0, 0, 0, 0), (.nop, 0, 0, 0, 0), (.nop, 0, 0, 0, 0), (.nop, 0, 0, 0, 0), (.nop, 0, 0, 0, 0), (.nop, 0, 0, 0, 0), (.aload_n 0, 1, 0, 0, 0), (.getfield 17, 3, 10, 3, 3), (.nop, 0, 0, 0, 0), (.nop, 0, 0, 0, 0), (.aload_n 0, 1, 0, 0, 0), (.getfield 13, 3, 10, 2, 0), (.nop, 0, 0, 0, 0), (.nop, 0, 0, 0, 0), (.iload_n 1, 1, 0, 0, 0), (.iastore, 1, 0, 0, 0), (.aload_n 0, 1, 0, 0, 0), (.getfield 21, 3, 10, 4, 3), (.nop, 0, 0, 0, 0)],
    [(.nop, 0, 0, 0, 0), (.aload_n 0, 1, 0, 0, 0), (.getfield 13, 3, 10, 2, 0), (.nop, 0, 0, 0, 0), (.nop, 0, 0, 0, 0), (.iload_n 2, 1, 0, 0, 0), (.iastore, 1, 0, 0, 0), (.aload_n 0, 1, 0, 0, 0), (.getfield 24, 3, 10, 5, 3), (.nop, 0, 0, 0, 0), (.nop, 0, 0, 0, 0), (.aload_n 0, 1, 0, 0, 0), (.getfield 13, 3, 10, 2, 0), (.nop, 0, 0, 0, 0), (.nop, 0, 0, 0, 0), (.iload_n 3, 1, 0, 0, 0), (.iastore, 1, 0, 0, 0), (.aload_n 0, 1, 0, 0, 0), (.getfield 27, 3, 10, 6, 3), (.nop, 0, 0, 0, 0), (.nop, 0, 0, 0, 0), (.aload_n 0, 1, 0, 0, 0), (.getfield 13, 3, 10, 2, 0), (.nop, 0, 0, 0, 0), (.nop, 0, 0, 0, 0), (.iload 4, 2, 0, 0, 0), (.nop, 0, 0, 0, 0), (.iastore, 1, 0, 0, 0), (.aload_n 0, 1, 0, 0, 0), (.getfield 30, 3, 10, 7, 3), (.nop, 0, 0, 0, 0), (.nop, 0, 0, 0, 0)],
    [(.aload_n 0, 1, 0, 0, 0), (.getfield 13, 3, 10, 2, 0), (.nop, 0, 0, 0, 0), (.nop, 0, 0, 0, 0), (.iload 5, 2, 0, 0, 0), (.nop, 0, 0, 0, 0), (.iastore, 1, 0, 0, 0), (.aload_n 0, 1, 0, 0, 0), (.getfield 33, 3, 10, 8, 3), (.nop, 0, 0, 0, 0), (.nop, 0, 0, 0, 0), (.aload_n 0, 1, 0, 0, 0), (.getfield 13, 3, 10, 2, 0), (.nop, 0, 0, 0, 0), (.nop, 0, 0, 0, 0), (.iconst 0, 1, 0, 0, 0), (.bastore, 1, 0, 0, 0), (.aload_n 0, 1, 0, 0, 0), (.dup, 1, 0, 0, 0), (.getfield 13, 3, 10, 2, 0), (.nop, 0, 0, 0, 0), (.nop, 0, 0, 0, 0), (.iconst 1, 1, 0, 0, 0), (.iadd, 1, 0, 0, 0), (.putfield 13, 3, 10, 2, 0), (.nop, 0, 0, 0, 0), (.nop, 0, 0, 0, 0), (.aload_n 0, 1, 0, 0, 0), (.getfield 13, 3, 10, 2, 0), (.nop, 0, 0, 0, 0), (.nop, 0, 0, 0, 0), (.iconst 1, 1, 0, 0, 0)],
    [(.isub, 1, 0, 0, 0), (.ireturn, 1, 0, 0, 0)]], 1, 5, 0, 0, 0, 0)
end
section
def mi_X11_times : ev_M := (yX11_times, cX11_times, 18, (some .long), [[(.lload_n 0, 1, 0, 0, 0), (.bipush 31, 2, 0, 0, 0), (.nop, 0, 0, 0, 0), (.lshr, 1, 0, 0, 0), (.lstore 4, 2, 0, 0, 0), (.nop, 0, 0, 0, 0), (.lload_n 0, 1, 0, 0, 0), (.ldc2_w 224, 3, 0, 0, 2147483647), (.nop, 0, 0, 0, 0), (.nop, 0, 0, 0, 0), (.land, 1, 0, 0, 0), (.lstore 6, 2, 0, 0, 0), (.nop, 0, 0, 0, 0), (.lload_n 2, 1, 0, 0, 0), (.bipush 31, 2, 0, 0, 0), (.nop, 0, 0, 0, 0), (.lshr, 1, 0, 0, 0), (.lstore 8, 2, 0, 0, 0), (.nop, 0, 0, 0, 0), (.lload_n 2, 1, 0, 0, 0), (.ldc2_w 224, 3, 0, 0, 2147483647), (.nop, 0, 0, 0, 0), (.nop, 0, 0, 0, 0), (.land, 1, 0, 0, 0), (.lstore 10, 2, 0, 0, 0), (.nop, 0, 0, 0, 0), (.lload 4, 2, 0, 0, 0), (.nop, 0, 0, 0, 0), (.lload 10, 2, 0, 0, 0), (.nop, 0, 0, 0, 0), (.lmul, 1, 0, 0, 0), (.lload 6, 2, 0, 0, 0)],
    [(.nop, 0, 0, 0, 0), (.lload 8, 2, 0, 0, 0), (.nop, 0, 0, 0, 0), (.lmul, 1, 0, 0, 0), (.ladd, 1, 0, 0, 0), (.lstore 12, 2, 0, 0, 0), (.nop, 0, 0, 0, 0), (.lload 6, 2, 0, 0, 0), (.nop, 0, 0, 0, 0), (.lload 10, 2, 0, 0, 0), (.nop, 0, 0, 0, 0), (.lmul, 1, 0, 0, 0), (.lstore 14, 2, 0, 0, 0), (.nop, 0, 0, 0, 0), (.ldc2_w 226, 3, 0, 0, 2), (.nop, 0, 0, 0, 0), (.nop, 0, 0, 0, 0), (.lload 4, 2, 0, 0, 0), (.nop, 0, 0, 0, 0), (.lload 8, 2, 0, 0, 0), (.nop, 0, 0, 0, 0), (.lmul, 1, 0, 0, 0), (.lmul, 1, 0, 0, 0), (.ldc2_w 228, 3, 0, 0, 2305843009213693951), (.nop, 0, 0, 0, 0), (.nop, 0, 0, 0, 0), (.lrem, 1, 0, 0, 0), (.lstore 16, 2, 0, 0, 0), (.nop, 0, 0, 0, 0), (.lload 16, 2, 0, 0, 0), (.nop, 0, 0, 0, 0), (.lload 12, 2, 0, 0, 0)],
    [(.nop, 0, 0, 0, 0), (.bipush 30, 2, 0, 0, 0), (.nop, 0, 0, 0, 0), (.lshr, 1, 0, 0, 0), (.ladd, 1, 0, 0, 0), (.ldc2_w 228, 3, 0, 0, 2305843009213693951), (.nop, 0, 0, 0, 0), (.nop, 0, 0, 0, 0), (.lrem, 1, 0, 0, 0), (.lstore 16, 2, 0, 0, 0), (.nop, 0, 0, 0, 0), (.lload 16, 2, 0, 0, 0), (.nop, 0, 0, 0, 0), (.lload 12, 2, 0, 0, 0), (.nop, 0, 0, 0, 0), (.ldc2_w 230, 3, 0, 0, 1073741823), (.nop, 0, 0, 0, 0), (.nop, 0, 0, 0, 0), (.land, 1, 0, 0, 0), (.bipush 31, 2, 0, 0, 0), (.nop, 0, 0, 0, 0), (.lshl, 1, 0, 0, 0), (.ladd, 1, 0, 0, 0), (.ldc2_w 228, 3, 0, 0, 2305843009213693951), (.nop, 0, 0, 0, 0), (.nop, 0, 0, 0, 0), (.lrem, 1, 0, 0, 0), (.lstore 16, 2, 0, 0, 0), (.nop, 0, 0, 0, 0), (.lload 16, 2, 0, 0, 0), (.nop, 0, 0, 0, 0), (.lload 14, 2, 0, 0, 0)],
    [(.nop, 0, 0, 0, 0), (.ldc2_w 228, 3, 0, 0, 2305843009213693951), (.nop, 0, 0, 0, 0), (.nop, 0, 0, 0, 0), (.lrem, 1, 0, 0, 0), (.ladd, 1, 0, 0, 0), (.ldc2_w 228, 3, 0, 0, 2305843009213693951), (.nop, 0, 0, 0, 0), (.nop, 0, 0, 0, 0), (.lrem, 1, 0, 0, 0), (.lreturn, 1, 0, 0, 0)]], 10, 2, 0, 0, 0, 0)
def mi_X11_timesQ : ev_M := (yX11_timesQ, cX11_timesQ, 18, (some .long), [[(.lload_n 0, 1, 0, 0, 0), (.bipush 31, 2, 0, 0, 0), (.nop, 0, 0, 0, 0), (.lshr, 1, 0, 0, 0), (.lstore 4, 2, 0, 0, 0), (.nop, 0, 0, 0, 0), (.lload_n 0, 1, 0, 0, 0), (.ldc2_w 224, 3, 0, 0, 2147483647), (.nop, 0, 0, 0, 0), (.nop, 0, 0, 0, 0), (.land, 1, 0, 0, 0), (.lstore 6, 2, 0, 0, 0), (.nop, 0, 0, 0, 0), (.lload_n 2, 1, 0, 0, 0), (.bipush 31, 2, 0, 0, 0), (.nop, 0, 0, 0, 0), (.lshr, 1, 0, 0, 0), (.lstore 8, 2, 0, 0, 0), (.nop, 0, 0, 0, 0), (.lload_n 2, 1, 0, 0, 0), (.ldc2_w 224, 3, 0, 0, 2147483647), (.nop, 0, 0, 0, 0), (.nop, 0, 0, 0, 0), (.land, 1, 0, 0, 0), (.lstore 10, 2, 0, 0, 0), (.nop, 0, 0, 0, 0), (.lload 4, 2, 0, 0, 0), (.nop, 0, 0, 0, 0), (.lload 10, 2, 0, 0, 0), (.nop, 0, 0, 0, 0), (.lmul, 1, 0, 0, 0), (.lload 6, 2, 0, 0, 0)],
    [(.nop, 0, 0, 0, 0), (.lload 8, 2, 0, 0, 0), (.nop, 0, 0, 0, 0), (.lmul, 1, 0, 0, 0), (.ladd, 1, 0, 0, 0), (.lstore 12, 2, 0, 0, 0), (.nop, 0, 0, 0, 0), (.lload 6, 2, 0, 0, 0), (.nop, 0, 0, 0, 0), (.lload 10, 2, 0, 0, 0), (.nop, 0, 0, 0, 0), (.lmul, 1, 0, 0, 0), (.lstore 14, 2, 0, 0, 0), (.nop, 0, 0, 0, 0), (.ldc2_w 232, 3, 0, 0, 4), (.nop, 0, 0, 0, 0), (.nop, 0, 0, 0, 0), (.lload 4, 2, 0, 0, 0), (.nop, 0, 0, 0, 0), (.lload 8, 2, 0, 0, 0), (.nop, 0, 0, 0, 0), (.lmul, 1, 0, 0, 0), (.ldc2_w 234, 3, 0, 0, 2305843009213693950), (.nop, 0, 0, 0, 0), (.nop, 0, 0, 0, 0), (.lrem, 1, 0, 0, 0), (.lmul, 1, 0, 0, 0), (.ldc2_w 234, 3, 0, 0, 2305843009213693950), (.nop, 0, 0, 0, 0), (.nop, 0, 0, 0, 0), (.lrem, 1, 0, 0, 0), (.lstore 16, 2, 0, 0, 0)],
    [(.nop, 0, 0, 0, 0), (.lload 16, 2, 0, 0, 0), (.nop, 0, 0, 0, 0), (.ldc2_w 226, 3, 0, 0, 2), (.nop, 0, 0, 0, 0), (.nop, 0, 0, 0, 0), (.lload 12, 2, 0, 0, 0), (.nop, 0, 0, 0, 0), (.bipush 30, 2, 0, 0, 0), (.nop, 0, 0, 0, 0), (.lshr, 1, 0, 0, 0), (.lmul, 1, 0, 0, 0), (.ladd, 1, 0, 0, 0), (.ldc2_w 234, 3, 0, 0, 2305843009213693950), (.nop, 0, 0, 0, 0), (.nop, 0, 0, 0, 0), (.lrem, 1, 0, 0, 0), (.lstore 16, 2, 0, 0, 0), (.nop, 0, 0, 0, 0), (.lload 16, 2, 0, 0, 0), (.nop, 0, 0, 0, 0), (.lload 12, 2, 0, 0, 0), (.nop, 0, 0, 0, 0), (.ldc2_w 230, 3, 0, 0, 1073741823), (.nop, 0, 0, 0, 0), (.nop, 0, 0, 0, 0), (.land, 1, 0, 0, 0), (.bipush 31, 2, 0, 0, 0), (.nop, 0, 0, 0, 0), (.lshl, 1, 0, 0, 0), (.ldc2_w 234, 3, 0, 0, 2305843009213693950), (.nop, 0, 0, 0, 0)],
    [(.nop, 0, 0, 0, 0), (.lrem, 1, 0, 0, 0), (.ladd, 1, 0, 0, 0), (.ldc2_w 234, 3, 0, 0, 2305843009213693950), (.nop, 0, 0, 0, 0), (.nop, 0, 0, 0, 0), (.lrem, 1, 0, 0, 0), (.lstore 16, 2, 0, 0, 0), (.nop, 0, 0, 0, 0), (.lload 16, 2, 0, 0, 0), (.nop, 0, 0, 0, 0), (.lload 14, 2, 0, 0, 0), (.nop, 0, 0, 0, 0), (.ldc2_w 234, 3, 0, 0, 2305843009213693950), (.nop, 0, 0, 0, 0), (.nop, 0, 0, 0, 0), (.lrem, 1, 0, 0, 0), (.ladd, 1, 0, 0, 0), (.ldc2_w 234, 3, 0, 0, 2305843009213693950), (.nop, 0, 0, 0, 0), (.nop, 0, 0, 0, 0), (.lrem, 1, 0, 0, 0), (.lreturn, 1, 0, 0, 0)]], 10, 2, 0, 0, 0, 0)
def mi_X11_user : ev_M := (yX11_user, cX11_user, 3, (some .int), [[(.aload_n 0, 1, 0, 0, 0), (.iload_n 1, 1, 0, 0, 0), (.invokevirtual 280, 3, 45, 10, 0), (.nop, 0, 0, 0, 0), (.nop, 0, 0, 0, 0), (.ifCond .eq 13, 3, 0, 0, 0), (.nop, 0, 0, 0, 0), (.nop, 0, 0, 0, 0), (.iload_n 2, 1, 0, 0, 0), (.ifCond .lt 9, 3, 0, 0, 0), (.nop, 0, 0, 0, 0), (.nop, 0, 0, 0, 0), (.iload_n 2, 1, 0, 0, 0), (.bipush 7, 2, 0, 0, 0), (.nop, 0, 0, 0, 0), (.if_icmp .le 5, 3, 0, 0, 0), (.nop, 0, 0, 0, 0), (.nop, 0, 0, 0, 0), (.iconst (-1), 1, 0, 0, 0), (.ireturn, 1, 0, 0, 0), (.iload_n 2, 1, 0, 0, 0), (.tableswitch 97 0 6 #[43, 58, 65, 71, 77, 84, 91], 43, 0, 0, 0), (.nop, 0, 0, 0, 0), (.nop, 0, 0, 0, 0), (.nop, 0, 0, 0, 0), (.nop, 0, 0, 0, 0), (.nop, 0, 0, 0, 0), (.nop, 0, 0, 0, 0), (.nop, 0, 0, 0, 0), (.nop, 0, 0, 0, 0), (.nop, 0, 0, 0, 0), (.nop, 0, 0, 0, 0)],
    [(.nop, 0, 0, 0, 0), (.nop, 0, 0, 0, 0), (.nop, 0, 0, 0, 0), (.nop, 0, 0, 0, 0), (.nop, 0, 0, 0, 0), (.nop, 0, 0, 0, 0), (.nop, 0, 0, 0, 0), (.nop, 0, 0, 0, 0), (.nop, 0, 0, 0, 0), (.nop, 0, 0, 0, 0), (.nop, 0, 0, 0, 0), (.nop, 0, 0, 0, 0), (.nop, 0, 0, 0, 0), (.nop, 0, 0, 0, 0), (.nop, 0, 0, 0, 0), (.nop, 0, 0, 0, 0), (.nop, 0, 0, 0, 0), (.nop, 0, 0, 0, 0), (.nop, 0, 0, 0, 0), (.nop, 0, 0, 0, 0), (.nop, 0, 0, 0, 0), (.nop, 0, 0, 0, 0), (.nop, 0, 0, 0, 0), (.nop, 0, 0, 0, 0), (.nop, 0, 0, 0, 0), (.nop, 0, 0, 0, 0), (.nop, 0, 0, 0, 0), (.nop, 0, 0, 0, 0), (.nop, 0, 0, 0, 0), (.nop, 0, 0, 0, 0), (.nop, 0, 0, 0, 0), (.nop, 0, 0, 0, 0)],
    [(.aload_n 0, 1, 0, 0, 0), (.getfield 46, 3, 10, 13, 3), (.nop, 0, 0, 0, 0), (.nop, 0, 0, 0, 0), (.iload_n 1, 1, 0, 0, 0), (.baload, 1, 0, 0, 0), (.ifCond .eq 7, 3, 0, 0, 0), (.nop, 0, 0, 0, 0), (.nop, 0, 0, 0, 0), (.nop, 0, 0, 0, 0), (.nop, 0, 0, 0, 0), (.nop, 0, 0, 0, 0), (.nop, 0, 0, 0, 0), (.iconst 0, 1, 0, 0, 0), (.ireturn, 1, 0, 0, 0), (.aload_n 0, 1, 0, 0, 0), (.getfield 61, 3, 10, 18, 3), (.nop, 0, 0, 0, 0), (.nop, 0, 0, 0, 0), (.iload_n 1, 1, 0, 0, 0), (.iaload, 1, 0, 0, 0), (.ireturn, 1, 0, 0, 0), (.aload_n 0, 1, 0, 0, 0), (.iload_n 1, 1, 0, 0, 0), (.invokevirtual 287, 3, 54, 10, 0), (.nop, 0, 0, 0, 0), (.nop, 0, 0, 0, 0), (.ireturn, 1, 0, 0, 0), (.aload_n 0, 1, 0, 0, 0), (.iload_n 1, 1, 0, 0, 0), (.invokevirtual 306, 3, 47, 10, 0), (.nop, 0, 0, 0, 0)],
    [(.nop, 0, 0, 0, 0), (.ireturn, 1, 0, 0, 0), (.aload_n 0, 1, 0, 0, 0), (.getfield 82, 3, 10, 25, 3), (.nop, 0, 0, 0, 0), (.nop, 0, 0, 0, 0), (.iload_n 1, 1, 0, 0, 0), (.iaload, 1, 0, 0, 0), (.ireturn, 1, 0, 0, 0), (.aload_n 0, 1, 0, 0, 0), (.getfield 49, 3, 10, 14, 3), (.nop, 0, 0, 0, 0), (.nop, 0, 0, 0, 0), (.iload_n 1, 1, 0, 0, 0), (.iaload, 1, 0, 0, 0), (.ireturn, 1, 0, 0, 0), (.aload_n 0, 1, 0, 0, 0), (.iload_n 1, 1, 0, 0, 0), (.invokevirtual 430, 3, 46, 10, 0), (.nop, 0, 0, 0, 0), (.nop, 0, 0, 0, 0), (.ireturn, 1, 0, 0, 0), (.aload_n 0, 1, 0, 0, 0), (.iload_n 1, 1, 0, 0, 0), (.invokevirtual 433, 3, 62, 10, 0), (.nop, 0, 0, 0, 0), (.nop, 0, 0, 0, 0), (.ireturn, 1, 0, 0, 0)]], 1, 2, 1, 23, 0, 0)
def mi_X11_write : ev_M := (yX11_write, cX11_write, 10, (some .int), [[(.aload_n 0, 1, 0, 0, 0), (.iload_n 1, 1, 0, 0, 0), (.invokevirtual 280, 3, 45, 10, 0), (.nop, 0, 0, 0, 0), (.nop, 0, 0, 0, 0), (.ifCond .eq 23, 3, 0, 0, 0), (.nop, 0, 0, 0, 0), (.nop, 0, 0, 0, 0), (.aload_n 0, 1, 0, 0, 0), (.iload_n 2, 1, 0, 0, 0), (.invokevirtual 280, 3, 45, 10, 0), (.nop, 0, 0, 0, 0), (.nop, 0, 0, 0, 0), (.ifCond .eq 15, 3, 0, 0, 0), (.nop, 0, 0, 0, 0), (.nop, 0, 0, 0, 0), (.iload_n 1, 1, 0, 0, 0), (.iload_n 2, 1, 0, 0, 0), (.if_icmp .eq 10, 3, 0, 0, 0), (.nop, 0, 0, 0, 0), (.nop, 0, 0, 0, 0), (.aload_n 0, 1, 0, 0, 0), (.getfield 331, 3, 10, 68, 0), (.nop, 0, 0, 0, 0), (.nop, 0, 0, 0, 0), (.ifCond .ne 5, 3, 0, 0, 0), (.nop, 0, 0, 0, 0), (.nop, 0, 0, 0, 0), (.iconst (-1), 1, 0, 0, 0), (.ireturn, 1, 0, 0, 0), (.nop, 0, 0, 0, 0), (.nop, 0, 0, 0, 0)],
    [(.nop, 0, 0, 0, 0), (.nop, 0, 0, 0, 0), (.nop, 0, 0, 0, 0), (.nop, 0, 0, 0, 0), (.nop, 0, 0, 0, 0), (.nop, 0, 0, 0, 0), (.nop, 0, 0, 0, 0), (.nop, 0, 0, 0, 0), (.nop, 0, 0, 0, 0), (.nop, 0, 0, 0, 0), (.nop, 0, 0, 0, 0), (.nop, 0, 0, 0, 0), (.nop, 0, 0, 0, 0), (.nop, 0, 0, 0, 0), (.nop, 0, 0, 0, 0), (.nop, 0, 0, 0, 0), (.nop, 0, 0, 0, 0), (.nop, 0, 0, 0, 0), (.nop, 0, 0, 0, 0), (.nop, 0, 0, 0, 0), (.nop, 0, 0, 0, 0), (.nop, 0, 0, 0, 0), (.nop, 0, 0, 0, 0), (.nop, 0, 0, 0, 0), (.nop, 0, 0, 0, 0), (.nop, 0, 0, 0, 0), (.nop, 0, 0, 0, 0), (.nop, 0, 0, 0, 0), (.nop, 0, 0, 0, 0), (.nop, 0, 0, 0, 0), (.nop, 0, 0, 0, 0), (.nop, 0, 0, 0, 0)],
    [(.nop, 0, 0, 0, 0), (.nop, 0, 0, 0, 0), (.nop, 0, 0, 0, 0), (.nop, 0, 0, 0, 0), (.nop, 0, 0, 0, 0), (.nop, 0, 0, 0, 0), (.nop, 0, 0, 0, 0), (.nop, 0, 0, 0, 0), (.nop, 0, 0, 0, 0), (.nop, 0, 0, 0, 0), (.nop, 0, 0, 0, 0), (.nop, 0, 0, 0, 0), (.nop, 0, 0, 0, 0), (.nop, 0, 0, 0, 0), (.nop, 0, 0, 0, 0), (.nop, 0, 0, 0, 0), (.nop, 0, 0, 0, 0), (.nop, 0, 0, 0, 0), (.nop, 0, 0, 0, 0), (.nop, 0, 0, 0, 0), (.nop, 0, 0, 0, 0), (.nop, 0, 0, 0, 0), (.nop, 0, 0, 0, 0), (.nop, 0, 0, 0, 0), (.nop, 0, 0, 0, 0), (.nop, 0, 0, 0, 0), (.nop, 0, 0, 0, 0), (.nop, 0, 0, 0, 0), (.nop, 0, 0, 0, 0), (.nop, 0, 0, 0, 0), (.nop, 0, 0, 0, 0), (.nop, 0, 0, 0, 0)],
    [(.nop, 0, 0, 0, 0), (.nop, 0, 0, 0, 0), (.nop, 0, 0, 0, 0), (.nop, 0, 0, 0, 0), (.nop, 0, 0, 0, 0), (.nop, 0, 0, 0, 0), (.nop, 0, 0, 0, 0), (.nop, 0, 0, 0, 0), (.nop, 0, 0, 0, 0), (.nop, 0, 0, 0, 0), (.nop, 0, 0, 0, 0), (.nop, 0, 0, 0, 0), (.nop, 0, 0, 0, 0), (.nop, 0, 0, 0, 0), (.nop, 0, 0, 0, 0), (.nop, 0, 0, 0, 0), (.nop, 0, 0, 0, 0), (.nop, 0, 0, 0, 0), (.nop, 0, 0, 0, 0), (.nop, 0, 0, 0, 0), (.nop, 0, 0, 0, 0), (.nop, 0, 0, 0, 0), (.nop, 0, 0, 0, 0), (.nop, 0, 0, 0, 0), (.nop, 0, 0, 0, 0), (.nop, 0, 0, 0, 0), (.nop, 0, 0, 0, 0), (.nop, 0, 0, 0, 0), (.nop, 0, 0, 0, 0), (.nop, 0, 0, 0, 0), (.nop, 0, 0, 0, 0), (.nop, 0, 0, 0, 0)],
    [(.nop, 0, 0, 0, 0), (.nop, 0, 0, 0, 0), (.nop, 0, 0, 0, 0), (.nop, 0, 0, 0, 0), (.nop, 0, 0, 0, 0), (.nop, 0, 0, 0, 0), (.nop, 0, 0, 0, 0), (.nop, 0, 0, 0, 0), (.nop, 0, 0, 0, 0), (.nop, 0, 0, 0, 0), (.nop, 0, 0, 0, 0), (.nop, 0, 0, 0, 0), (.nop, 0, 0, 0, 0), (.nop, 0, 0, 0, 0), (.nop, 0, 0, 0, 0), (.nop, 0, 0, 0, 0), (.nop, 0, 0, 0, 0), (.nop, 0, 0, 0, 0), (.nop, 0, 0, 0, 0), (.nop, 0, 0, 0, 0), (.nop, 0, 0, 0, 0), (.nop, 0, 0, 0, 0), (.nop, 0, 0, 0, 0), (.nop, 0, 0, 0, 0), (.nop, 0, 0, 0, 0), (.nop, 0, 0, 0, 0), (.nop, 0, 0, 0, 0), (.nop, 0, 0, 0, 0), (.nop, 0, 0, 0, 0), (.nop, 0, 0, 0, 0), (.nop, 0, 0, 0, 0), (.nop, 0, 0, 0, 0)],
    [(.nop, 0, 0, 0, 0), (.nop, 0, 0, 0, 0), (.nop, 0, 0, 0, 0), (.nop, 0, 0, 0, 0), (.nop, 0, 0, 0, 0), (.nop, 0, 0, 0, 0), (.nop, 0, 0, 0, 0), (.nop, 0, 0, 0, 0), (.nop, 0, 0, 0, 0), (.nop, 0, 0, 0, 0), (.nop, 0, 0, 0, 0), (.nop, 0, 0, 0, 0), (.nop, 0, 0, 0, 0), (.nop, 0, 0, 0, 0), (.nop, 0, 0, 0, 0), (.nop, 0, 0, 0, 0), (.nop, 0, 0, 0, 0), (.nop, 0, 0, 0, 0), (.nop, 0, 0, 0, 0), (.nop, 0, 0, 0, 0), (.nop, 0, 0, 0, 0), (.nop, 0, 0, 0, 0), (.nop, 0, 0, 0, 0), (.nop, 0, 0, 0, 0), (.nop, 0, 0, 0, 0), (.nop, 0, 0, 0, 0), (.nop, 0, 0, 0, 0), (.nop, 0, 0, 0, 0), (.nop, 0, 0, 0, 0), (.nop, 0, 0, 0, 0), (.nop, 0, 0, 0, 0), (.nop, 0, 0, 0, 0)],
    [(.nop, 0, 0, 0, 0), (.nop, 0, 0, 0, 0), (.nop, 0, 0, 0, 0), (.nop, 0, 0, 0, 0), (.nop, 0, 0, 0, 0), (.nop, 0, 0, 0, 0), (.nop, 0, 0, 0, 0), (.nop, 0, 0, 0, 0), (.nop, 0, 0, 0, 0), (.nop, 0, 0, 0, 0), (.nop, 0, 0, 0, 0), (.nop, 0, 0, 0, 0), (.nop, 0, 0, 0, 0), (.nop, 0, 0, 0, 0), (.nop, 0, 0, 0, 0), (.nop, 0, 0, 0, 0), (.nop, 0, 0, 0, 0), (.nop, 0, 0, 0, 0), (.nop, 0, 0, 0, 0), (.nop, 0, 0, 0, 0), (.nop, 0, 0, 0, 0), (.nop, 0, 0, 0, 0), (.nop, 0, 0, 0, 0), (.nop, 0, 0, 0, 0), (.nop, 0, 0, 0, 0), (.nop, 0, 0, 0, 0), (.nop, 0, 0, 0, 0), (.nop, 0, 0, 0, 0), (.nop, 0, 0, 0, 0), (.nop, 0, 0, 0, 0), (.nop, 0, 0, 0, 0), (.nop, 0, 0, 0, 0)],
    [(.nop, 0, 0, 0, 0), (.nop, 0, 0, 0, 0), (.nop, 0, 0, 0, 0), (.nop, 0, 0, 0, 0), (.nop, 0, 0, 0, 0), (.nop, 0, 0, 0, 0), (.nop, 0, 0, 0, 0), (.nop, 0, 0, 0, 0), (.nop, 0, 0, 0, 0), (.nop, 0, 0, 0, 0), (.nop, 0, 0, 0, 0), (.nop, 0, 0, 0, 0), (.nop, 0, 0, 0, 0), (.nop, 0, 0, 0, 0), (.nop, 0, 0, 0, 0), (.nop, 0, 0, 0, 0), (.nop, 0, 0, 0, 0), (.nop, 0, 0, 0, 0), (.nop, 0, 0, 0, 0), (.nop, 0, 0, 0, 0), (.nop, 0, 0, 0, 0), (.nop, 0, 0, 0, 0), (.nop, 0, 0, 0, 0), (.nop, 0, 0, 0, 0), (.nop, 0, 0, 0, 0), (.nop, 0, 0, 0, 0), (.nop, 0, 0, 0, 0), (.nop, 0, 0, 0, 0), (.nop, 0, 0, 0, 0), (.nop, 0, 0, 0, 0), (.nop, 0, 0, 0, 0), (.nop, 0, 0, 0, 0)],
    [(.nop, 0, 0, 0, 0), (.nop, 0, 0, 0, 0), (.nop, 0, 0, 0, 0), (.nop, 0, 0, 0, 0), (.nop, 0, 0, 0, 0), (.nop, 0, 0, 0, 0), (.nop, 0, 0, 0, 0), (.nop, 0, 0, 0, 0), (.nop, 0, 0, 0, 0), (.nop, 0, 0, 0, 0), (.nop, 0, 0, 0, 0), (.nop, 0, 0, 0, 0), (.nop, 0, 0, 0, 0), (.nop, 0, 0, 0, 0), (.nop, 0, 0, 0, 0), (.nop, 0, 0, 0, 0), (.nop, 0, 0, 0, 0), (.nop, 0, 0, 0, 0), (.nop, 0, 0, 0, 0), (.nop, 0, 0, 0, 0), (.nop, 0, 0, 0, 0), (.nop, 0, 0, 0, 0), (.nop, 0, 0, 0, 0), (.nop, 0, 0, 0, 0), (.nop, 0, 0, 0, 0), (.nop, 0, 0, 0, 0), (.nop, 0, 0, 0, 0), (.nop, 0, 0, 0, 0), (.nop, 0, 0, 0, 0), (.nop, 0, 0, 0, 0), (.nop, 0, 0, 0, 0), (.nop, 0, 0, 0, 0)],
    [(.nop, 0, 0, 0, 0), (.nop, 0, 0, 0, 0), (.nop, 0, 0, 0, 0), (.nop, 0, 0, 0, 0), (.nop, 0, 0, 0, 0), (.nop, 0, 0, 0, 0), (.nop, 0, 0, 0, 0), (.nop, 0, 0, 0, 0), (.nop, 0, 0, 0, 0), (.nop, 0, 0, 0, 0), (.nop, 0, 0, 0, 0), (.nop, 0, 0, 0, 0), (.nop, 0, 0, 0, 0), (.nop, 0, 0, 0, 0), (.nop, 0, 0, 0, 0), (.nop, 0, 0, 0, 0), (.nop, 0, 0, 0, 0), (.nop, 0, 0, 0, 0), (.nop, 0, 0, 0, 0), (.nop, 0, 0, 0, 0), (.nop, 0, 0, 0, 0), (.nop, 0, 0, 0, 0), (.nop, 0, 0, 0, 0), (.nop, 0, 0, 0, 0), (.nop, 0, 0, 0, 0), (.nop, 0, 0, 0, 0), (.nop, 0, 0, 0, 0), (.nop, 0, 0, 0, 0), (.nop, 0, 0, 0, 0), (.nop, 0, 0, 0, 0), (.nop, 0, 0, 0, 0), (.nop, 0, 0, 0, 0)],
    [(.nop, 0, 0, 0, 0), (.nop, 0, 0, 0, 0), (.nop, 0, 0, 0, 0), (.nop, 0, 0, 0, 0), (.nop, 0, 0, 0, 0), (.nop, 0, 0, 0, 0), (.nop, 0, 0, 0, 0), (.nop, 0, 0, 0, 0), (.nop, 0, 0, 0, 0), (.nop, 0, 0, 0, 0), (.nop, 0, 0, 0, 0), (.nop, 0, 0, 0, 0), (.nop, 0, 0, 0, 0), (.nop, 0, 0, 0, 0), (.nop, 0, 0, 0, 0), (.nop, 0, 0, 0, 0), (.nop, 0, 0, 0, 0), (.nop, 0, 0, 0, 0), (.nop, 0, 0, 0, 0), (.nop, 0, 0, 0, 0), (.nop, 0, 0, 0, 0), (.nop, 0, 0, 0, 0), (.nop, 0, 0, 0, 0), (.nop, 0, 0, 0, 0), (.nop, 0, 0, 0, 0), (.nop, 0, 0, 0, 0), (.nop, 0, 0, 0, 0), (.nop, 0, 0, 0, 0), (.nop, 0, 0, 0, 0), (.nop, 0, 0, 0, 0), (.nop, 0, 0, 0, 0), (.nop, 0, 0, 0, 0)],
    [(.nop, 0, 0, 0, 0), (.nop, 0, 0, 0, 0), (.nop, 0, 0, 0, 0), (.nop, 0, 0, 0, 0), (.nop, 0, 0, 0, 0), (.nop, 0, 0, 0, 0), (.nop, 0, 0, 0, 0), (.nop, 0, 0, 0, 0), (.nop, 0, 0, 0, 0), (.nop, 0, 0, 0, 0), (.nop, 0, 0, 0, 0), (.nop, 0, 0, 0, 0), (.nop, 0, 0, 0, 0), (.nop, 0, 0, 0, 0), (.nop, 0, 0, 0, 0), (.nop, 0, 0, 0, 0), (.nop, 0, 0, 0, 0), (.nop, 0, 0, 0, 0), (.nop, 0, 0, 0, 0), (.nop, 0, 0, 0, 0), (.nop, 0, 0, 0, 0), (.nop, 0, 0, 0, 0), (.nop, 0, 0, 0, 0), (.nop, 0, 0, 0, 0), (.nop, 0, 0, 0, 0), (.nop, 0, 0, 0, 0), (.nop, 0, 0, 0, 0), (.nop, 0, 0, 0, 0), (.nop, 0, 0, 0, 0), (.nop, 0, 0, 0, 0), (.nop, 0, 0, 0, 0), (.nop, 0, 0, 0, 0)],
    [(.nop, 0, 0, 0, 0), (.nop, 0, 0, 0, 0), (.nop, 0, 0, 0, 0), (.nop, 0, 0, 0, 0), (.nop, 0, 0, 0, 0), (.nop, 0, 0, 0, 0), (.nop, 0, 0, 0, 0), (.nop, 0, 0, 0, 0), (.nop, 0, 0, 0, 0), (.nop, 0, 0, 0, 0), (.nop, 0, 0, 0, 0), (.nop, 0, 0, 0, 0), (.nop, 0, 0, 0, 0), (.nop, 0, 0, 0, 0), (.nop, 0, 0, 0, 0), (.nop, 0, 0, 0, 0), (.nop, 0, 0, 0, 0), (.nop, 0, 0, 0, 0), (.nop, 0, 0, 0, 0), (.nop, 0, 0, 0, 0), (.nop, 0, 0, 0, 0), (.nop, 0, 0, 0, 0), (.nop, 0, 0, 0, 0), (.nop, 0, 0, 0, 0), (.nop, 0, 0, 0, 0), (.nop, 0, 0, 0, 0), (.nop, 0, 0, 0, 0), (.nop, 0, 0, 0, 0), (.nop, 0, 0, 0, 0), (.nop, 0, 0, 0, 0), (.nop, 0, 0, 0, 0), (.nop, 0, 0, 0, 0)],
    [(.nop, 0, 0, 0, 0), (.nop, 0, 0, 0, 0), (.nop, 0, 0, 0, 0), (.nop, 0, 0, 0, 0), (.nop, 0, 0, 0, 0), (.nop, 0, 0, 0, 0), (.nop, 0, 0, 0, 0), (.nop, 0, 0, 0, 0), (.nop, 0, 0, 0, 0), (.nop, 0, 0, 0, 0), (.nop, 0, 0, 0, 0), (.nop, 0, 0, 0, 0), (.nop, 0, 0, 0, 0), (.nop, 0, 0, 0, 0), (.nop, 0, 0, 0, 0), (.nop, 0, 0, 0, 0), (.nop, 0, 0, 0, 0), (.nop, 0, 0, 0, 0), (.nop, 0, 0, 0, 0), (.nop, 0, 0, 0, 0), (.nop, 0, 0, 0, 0), (.nop, 0, 0, 0, 0), (.nop, 0, 0, 0, 0), (.nop, 0, 0, 0, 0), (.nop, 0, 0, 0, 0), (.nop, 0, 0, 0, 0), (.nop, 0, 0, 0, 0), (.nop, 0, 0, 0, 0), (.nop, 0, 0, 0, 0), (.nop, 0, 0, 0, 0), (.nop, 0, 0, 0, 0), (.nop, 0, 0, 0, 0)],
    [(.nop, 0, 0, 0, 0), (.nop, 0, 0, 0, 0), (.nop, 0, 0, 0, 0), (.nop, 0, 0, 0, 0), (.nop, 0, 0, 0, 0), (.nop, 0, 0, 0, 0), (.nop, 0, 0, 0, 0), (.nop, 0, 0, 0, 0), (.nop, 0, 0, 0, 0), (.nop, 0, 0, 0, 0), (.nop, 0, 0, 0, 0), (.nop, 0, 0, 0, 0), (.nop, 0, 0, 0, 0), (.nop, 0, 0, 0, 0), (.nop, 0, 0, 0, 0), (.nop, 0, 0, 0, 0), (.nop, 0, 0, 0, 0), (.nop, 0, 0, 0, 0), (.nop, 0, 0, 0, 0), (.nop, 0, 0, 0, 0), (.nop, 0, 0, 0, 0), (.nop, 0, 0, 0, 0), (.nop, 0, 0, 0, 0), (.nop, 0, 0, 0, 0), (.nop, 0, 0, 0, 0), (.nop, 0, 0, 0, 0), (.nop, 0, 0, 0, 0), (.nop, 0, 0, 0, 0), (.nop, 0, 0, 0, 0), (.nop, 0, 0, 0, 0), (.nop, 0, 0, 0, 0), (.nop, 0, 0, 0, 0)],
    [(.nop, 0, 0, 0, 0), (.nop, 0, 0, 0, 0), (.nop, 0, 0, 0, 0), (.nop, 0, 0, 0, 0), (.nop, 0, 0, 0, 0), (.nop, 0, 0, 0, 0), (.nop, 0, 0, 0, 0), (.nop, 0, 0, 0, 0), (.nop, 0, 0, 0, 0), (.nop, 0, 0, 0, 0)]], 1, 2, 1, 21, 0, 0)
def mi_X3_isOpen : ev_M := (yX3_isOpen, cX3_isOpen, 2, (some .boolean), [[(.lload_n 0, 1, 0, 0, 0), (.lconst 1, 1, 0, 0, 0), (.lcmp, 1, 0, 0, 0), (.ifCond .lt 15, 3, 0, 0, 0), (.nop, 0, 0, 0, 0), (.nop, 0, 0, 0, 0), (.lload_n 0, 1, 0, 0, 0), (.ldc2_w 11, 3, 0, 0, 2305843009213693951), (.nop, 0, 0, 0, 0), (.nop, 0, 0, 0, 0), (.lcmp, 1, 0, 0, 0), (.ifCond .ge 7, 3, 0, 0, 0), (.nop, 0, 0, 0, 0), (.nop, 0, 0, 0, 0), (.iconst 1, 1, 0, 0, 0), (.goto 4, 3, 0, 0, 0), (.nop, 0, 0, 0, 0), (.nop, 0, 0, 0, 0), (.iconst 0, 1, 0, 0, 0), (.ireturn, 1, 0, 0, 0)]], 0, 1, 0, 0, 0, 0)
def mi_X3_mix : ev_M := (yX3_mix, cX3_mix, 6, (some .long), [[(.lload_n 0, 1, 0, 0, 0), (.ldc2_w 57, 3, 0, 0, 6364136223846793005), (.nop, 0, 0, 0, 0), (.nop, 0, 0, 0, 0), (.lxor, 1, 0, 0, 0), (.ldc2_w 59, 3, 0, 0, -7046029254386353131), (.nop, 0, 0, 0, 0), (.nop, 0, 0, 0, 0), (.lmul, 1, 0, 0, 0), (.lstore 4, 2, 0, 0, 0), (.nop, 0, 0, 0, 0), (.lload 4, 2, 0, 0, 0), (.nop, 0, 0, 0, 0), (.lload 4, 2, 0, 0, 0), (.nop, 0, 0, 0, 0), (.bipush 32, 2, 0, 0, 0), (.nop, 0, 0, 0, 0), (.lushr, 1, 0, 0, 0), (.lxor, 1, 0, 0, 0), (.lload_n 2, 1, 0, 0, 0), (.ladd, 1, 0, 0, 0), (.lstore 4, 2, 0, 0, 0), (.nop, 0, 0, 0, 0), (.lload 4, 2, 0, 0, 0), (.nop, 0, 0, 0, 0), (.ldc2_w 61, 3, 0, 0, -2960836687051489901), (.nop, 0, 0, 0, 0), (.nop, 0, 0, 0, 0), (.lmul, 1, 0, 0, 0), (.lstore 4, 2, 0, 0, 0), (.nop, 0, 0, 0, 0), (.lload 4, 2, 0, 0, 0)],
    [(.nop, 0, 0, 0, 0), (.lload 4, 2, 0, 0, 0), (.nop, 0, 0, 0, 0), (.bipush 29, 2, 0, 0, 0), (.nop, 0, 0, 0, 0), (.lushr, 1, 0, 0, 0), (.lxor, 1, 0, 0, 0), (.lreturn, 1, 0, 0, 0)]], 0, 2, 0, 0, 0, 0)
def mi_X3_power : ev_M := (yX3_power, cX3_power, 9, (some .long), [[(.lload_n 0, 1, 0, 0, 0), (.invokestatic 17, 3, 70, 0, 0), (.nop, 0, 0, 0, 0), (.nop, 0, 0, 0, 0), (.ifCond .ne 5, 3, 0, 0, 0), (.nop, 0, 0, 0, 0), (.nop, 0, 0, 0, 0), (.lconst 0, 1, 0, 0, 0), (.lreturn, 1, 0, 0, 0), (.lconst 1, 1, 0, 0, 0), (.lstore 4, 2, 0, 0, 0), (.nop, 0, 0, 0, 0), (.lload_n 0, 1, 0, 0, 0), (.lstore 6, 2, 0, 0, 0), (.nop, 0, 0, 0, 0), (.iconst 0, 1, 0, 0, 0), (.istore 8, 2, 0, 0, 0), (.nop, 0, 0, 0, 0), (.iload 8, 2, 0, 0, 0), (.nop, 0, 0, 0, 0), (.bipush 61, 2, 0, 0, 0), (.nop, 0, 0, 0, 0), (.if_icmp .ge 38, 3, 0, 0, 0), (.nop, 0, 0, 0, 0), (.nop, 0, 0, 0, 0), (.lload_n 2, 1, 0, 0, 0), (.iload 8, 2, 0, 0, 0), (.nop, 0, 0, 0, 0), (.lushr, 1, 0, 0, 0), (.lconst 1, 1, 0, 0, 0), (.land, 1, 0, 0, 0), (.lconst 1, 1, 0, 0, 0)],
    [(.lcmp, 1, 0, 0, 0), (.ifCond .ne 12, 3, 0, 0, 0), (.nop, 0, 0, 0, 0), (.nop, 0, 0, 0, 0), (.lload 4, 2, 0, 0, 0), (.nop, 0, 0, 0, 0), (.lload 6, 2, 0, 0, 0), (.nop, 0, 0, 0, 0), (.invokestatic 21, 3, 77, 0, 0), (.nop, 0, 0, 0, 0), (.nop, 0, 0, 0, 0), (.lstore 4, 2, 0, 0, 0), (.nop, 0, 0, 0, 0), (.lload 6, 2, 0, 0, 0), (.nop, 0, 0, 0, 0), (.lload 6, 2, 0, 0, 0), (.nop, 0, 0, 0, 0), (.invokestatic 21, 3, 77, 0, 0), (.nop, 0, 0, 0, 0), (.nop, 0, 0, 0, 0), (.lstore 6, 2, 0, 0, 0), (.nop, 0, 0, 0, 0), (.iinc 8 1, 3, 0, 0, 0), (.nop, 0, 0, 0, 0), (.nop, 0, 0, 0, 0), (.goto (-39), 3, 0, 0, 0), (.nop, 0, 0, 0, 0), (.nop, 0, 0, 0, 0), (.lload 4, 2, 0, 0, 0), (.nop, 0, 0, 0, 0), (.lreturn, 1, 0, 0, 0)]], 10, 2, 1, 39, 0, 0)
def mi_X3_rest : ev_M := (yX3_rest, cX3_rest, 6, (some .long), [[(.lload_n 2, 1, 0, 0, 0), (.lconst 0, 1, 0, 0, 0), (.lcmp, 1, 0, 0, 0), (.ifCond .gt 5, 3, 0, 0, 0), (.nop, 0, 0, 0, 0), (.nop, 0, 0, 0, 0), (.nop, 0, 0, 0, 0), (.nop, 0, 0, 0, 0), (.lload_n 0, 1, 0, 0, 0), (.iconst 1, 1, 0, 0, 0), (.lushr, 1, 0, 0, 0), (.lload_n 2, 1, 0, 0, 0), (.lrem, 1, 0, 0, 0), (.lstore 4, 2, 0, 0, 0), (.nop, 0, 0, 0, 0), (.lload 4, 2, 0, 0, 0), (.nop, 0, 0, 0, 0), (.ldc2_w 25, 3, 0, 0, 2), (.nop, 0, 0, 0, 0), (.nop, 0, 0, 0, 0), (.lmul, 1, 0, 0, 0), (.lload_n 0, 1, 0, 0, 0), (.lconst 1, 1, 0, 0, 0), (.land, 1, 0, 0, 0), (.ladd, 1, 0, 0, 0), (.lload_n 2, 1, 0, 0, 0), (.lrem, 1, 0, 0, 0), (.lreturn, 1, 0, 0, 0)]], 0, 2, 0, 0, 0, 0)
def mi_X3_sealProof : ev_M := (yX3_sealProof, cX3_sealProof, 7, (some .long), [[(.aload_n 0, 1, 0, 0, 0), (.getfield 37, 3, 6, 1, 1), (.nop, 0, 0, 0, 0), (.nop, 0, 0, 0, 0), (.lload_n 1, 1, 0, 0, 0), (.invokestatic 43, 3, 75, 0, 0), (.nop, 0, 0, 0, 0), (.nop, 0, 0, 0, 0), (.lstore 5, 2, 0, 0, 0), (.nop, 0, 0, 0, 0), (.aload_n 0, 1, 0, 0, 0), (.getfield 46, 3, 6, 0, 1), (.nop, 0, 0, 0, 0), (.nop, 0, 0, 0, 0), (.lload 5, 2, 0, 0, 0), (.nop, 0, 0, 0, 0), (.lload_n 3, 1, 0, 0, 0), (.invokestatic 49, 3, 78, 0, 0), (.nop, 0, 0, 0, 0), (.nop, 0, 0, 0, 0), (.ladd, 1, 0, 0, 0), (.ldc2_w 32, 3, 0, 0, 2305843009213693950), (.nop, 0, 0, 0, 0), (.nop, 0, 0, 0, 0), (.lrem, 1, 0, 0, 0), (.lreturn, 1, 0, 0, 0)]], 0, 3, 2, 48, 0, 0)
def mi_X3_sealSum : ev_M := (yX3_sealSum, cX3_sealSum, 4, (some .long), [[(.lconst 0, 1, 0, 0, 0), (.lload_n 0, 1, 0, 0, 0), (.invokestatic 34, 3, 71, 0, 0), (.nop, 0, 0, 0, 0), (.nop, 0, 0, 0, 0), (.lload_n 2, 1, 0, 0, 0), (.invokestatic 34, 3, 71, 0, 0), (.nop, 0, 0, 0, 0), (.nop, 0, 0, 0, 0), (.ldc2_w 32, 3, 0, 0, 2305843009213693950), (.nop, 0, 0, 0, 0), (.nop, 0, 0, 0, 0), (.invokestatic 29, 3, 73, 0, 0), (.nop, 0, 0, 0, 0), (.nop, 0, 0, 0, 0), (.lreturn, 1, 0, 0, 0)]], 0, 2, 1, 25, 0, 0)
def mi_X3_secretOf : ev_M := (yX3_secretOf, cX3_secretOf, 2, (some .long), [[(.lload_n 0, 1, 0, 0, 0), (.ldc2_w 27, 3, 0, 0, 2305843009213693949), (.nop, 0, 0, 0, 0), (.nop, 0, 0, 0, 0), (.invokestatic 29, 3, 73, 0, 0), (.nop, 0, 0, 0, 0), (.nop, 0, 0, 0, 0), (.lconst 1, 1, 0, 0, 0), (.ladd, 1, 0, 0, 0), (.lreturn, 1, 0, 0, 0)]], 0, 1, 1, 25, 0, 0)
def mi_X3_times : ev_M := (yX3_times, cX3_times, 20, (some .long), [[(.lload_n 0, 1, 0, 0, 0), (.bipush 32, 2, 0, 0, 0), (.nop, 0, 0, 0, 0), (.lushr, 1, 0, 0, 0), (.lstore 4, 2, 0, 0, 0), (.nop, 0, 0, 0, 0), (.lload_n 0, 1, 0, 0, 0), (.ldc2_w 13, 3, 0, 0, 4294967295), (.nop, 0, 0, 0, 0), (.nop, 0, 0, 0, 0), (.land, 1, 0, 0, 0), (.lstore 6, 2, 0, 0, 0), (.nop, 0, 0, 0, 0), (.lload_n 2, 1, 0, 0, 0), (.bipush 32, 2, 0, 0, 0), (.nop, 0, 0, 0, 0), (.lushr, 1, 0, 0, 0), (.lstore 8, 2, 0, 0, 0), (.nop, 0, 0, 0, 0), (.lload_n 2, 1, 0, 0, 0), (.ldc2_w 13, 3, 0, 0, 4294967295), (.nop, 0, 0, 0, 0), (.nop, 0, 0, 0, 0), (.land, 1, 0, 0, 0), (.lstore 10, 2, 0, 0, 0), (.nop, 0, 0, 0, 0), (.lload 4, 2, 0, 0, 0), (.nop, 0, 0, 0, 0), (.lload 10, 2, 0, 0, 0), (.nop, 0, 0, 0, 0), (.lmul, 1, 0, 0, 0), (.lload 6, 2, 0, 0, 0)],
    [(.nop, 0, 0, 0, 0), (.lload 8, 2, 0, 0, 0), (.nop, 0, 0, 0, 0), (.lmul, 1, 0, 0, 0), (.ladd, 1, 0, 0, 0), (.lstore 12, 2, 0, 0, 0), (.nop, 0, 0, 0, 0), (.lload 6, 2, 0, 0, 0), (.nop, 0, 0, 0, 0), (.lload 10, 2, 0, 0, 0), (.nop, 0, 0, 0, 0), (.lmul, 1, 0, 0, 0), (.lstore 14, 2, 0, 0, 0), (.nop, 0, 0, 0, 0), (.lload 4, 2, 0, 0, 0), (.nop, 0, 0, 0, 0), (.lload 8, 2, 0, 0, 0), (.nop, 0, 0, 0, 0), (.lmul, 1, 0, 0, 0), (.iconst 3, 1, 0, 0, 0), (.lshl, 1, 0, 0, 0), (.lload 12, 2, 0, 0, 0), (.nop, 0, 0, 0, 0), (.bipush 29, 2, 0, 0, 0), (.nop, 0, 0, 0, 0), (.lushr, 1, 0, 0, 0), (.ladd, 1, 0, 0, 0), (.lload 12, 2, 0, 0, 0), (.nop, 0, 0, 0, 0), (.ldc2_w 15, 3, 0, 0, 536870911), (.nop, 0, 0, 0, 0), (.nop, 0, 0, 0, 0)],
    [(.land, 1, 0, 0, 0), (.bipush 32, 2, 0, 0, 0), (.nop, 0, 0, 0, 0), (.lshl, 1, 0, 0, 0), (.ladd, 1, 0, 0, 0), (.lload 14, 2, 0, 0, 0), (.nop, 0, 0, 0, 0), (.ldc2_w 11, 3, 0, 0, 2305843009213693951), (.nop, 0, 0, 0, 0), (.nop, 0, 0, 0, 0), (.land, 1, 0, 0, 0), (.ladd, 1, 0, 0, 0), (.lload 14, 2, 0, 0, 0), (.nop, 0, 0, 0, 0), (.bipush 61, 2, 0, 0, 0), (.nop, 0, 0, 0, 0), (.lushr, 1, 0, 0, 0), (.ladd, 1, 0, 0, 0), (.lstore 16, 2, 0, 0, 0), (.nop, 0, 0, 0, 0), (.lload 16, 2, 0, 0, 0), (.nop, 0, 0, 0, 0), (.ldc2_w 11, 3, 0, 0, 2305843009213693951), (.nop, 0, 0, 0, 0), (.nop, 0, 0, 0, 0), (.land, 1, 0, 0, 0), (.lload 16, 2, 0, 0, 0), (.nop, 0, 0, 0, 0), (.bipush 61, 2, 0, 0, 0), (.nop, 0, 0, 0, 0), (.lushr, 1, 0, 0, 0), (.ladd, 1, 0, 0, 0)],
    [(.lstore 18, 2, 0, 0, 0), (.nop, 0, 0, 0, 0), (.lload 18, 2, 0, 0, 0), (.nop, 0, 0, 0, 0), (.ldc2_w 11, 3, 0, 0, 2305843009213693951), (.nop, 0, 0, 0, 0), (.nop, 0, 0, 0, 0), (.lcmp, 1, 0, 0, 0), (.ifCond .lt 12, 3, 0, 0, 0), (.nop, 0, 0, 0, 0), (.nop, 0, 0, 0, 0), (.lload 18, 2, 0, 0, 0), (.nop, 0, 0, 0, 0), (.ldc2_w 11, 3, 0, 0, 2305843009213693951), (.nop, 0, 0, 0, 0), (.nop, 0, 0, 0, 0), (.lsub, 1, 0, 0, 0), (.goto 5, 3, 0, 0, 0), (.nop, 0, 0, 0, 0), (.nop, 0, 0, 0, 0), (.lload 18, 2, 0, 0, 0), (.nop, 0, 0, 0, 0), (.lreturn, 1, 0, 0, 0)]], 10, 2, 0, 0, 0, 0)
def mi_X3_timesModuloQ : ev_M := (yX3_timesModuloQ, cX3_timesModuloQ, 9, (some .long), [[(.lconst 0, 1, 0, 0, 0), (.lstore 4, 2, 0, 0, 0), (.nop, 0, 0, 0, 0), (.lload_n 0, 1, 0, 0, 0), (.lstore 6, 2, 0, 0, 0), (.nop, 0, 0, 0, 0), (.iconst 0, 1, 0, 0, 0), (.istore 8, 2, 0, 0, 0), (.nop, 0, 0, 0, 0), (.iload 8, 2, 0, 0, 0), (.nop, 0, 0, 0, 0), (.bipush 61, 2, 0, 0, 0), (.nop, 0, 0, 0, 0), (.if_icmp .ge 43, 3, 0, 0, 0), (.nop, 0, 0, 0, 0), (.nop, 0, 0, 0, 0), (.lload_n 2, 1, 0, 0, 0), (.iload 8, 2, 0, 0, 0), (.nop, 0, 0, 0, 0), (.lushr, 1, 0, 0, 0), (.lconst 1, 1, 0, 0, 0), (.land, 1, 0, 0, 0), (.lconst 1, 1, 0, 0, 0), (.lcmp, 1, 0, 0, 0), (.ifCond .ne 14, 3, 0, 0, 0), (.nop, 0, 0, 0, 0), (.nop, 0, 0, 0, 0), (.lload 4, 2, 0, 0, 0), (.nop, 0, 0, 0, 0), (.lload 6, 2, 0, 0, 0), (.nop, 0, 0, 0, 0), (.ladd, 1, 0, 0, 0)],
    [(.ldc2_w 32, 3, 0, 0, 2305843009213693950), (.nop, 0, 0, 0, 0), (.nop, 0, 0, 0, 0), (.lrem, 1, 0, 0, 0), (.lstore 4, 2, 0, 0, 0), (.nop, 0, 0, 0, 0), (.lload 6, 2, 0, 0, 0), (.nop, 0, 0, 0, 0), (.ldc2_w 25, 3, 0, 0, 2), (.nop, 0, 0, 0, 0), (.nop, 0, 0, 0, 0), (.lmul, 1, 0, 0, 0), (.ldc2_w 32, 3, 0, 0, 2305843009213693950), (.nop, 0, 0, 0, 0), (.nop, 0, 0, 0, 0), (.lrem, 1, 0, 0, 0), (.lstore 6, 2, 0, 0, 0), (.nop, 0, 0, 0, 0), (.iinc 8 1, 3, 0, 0, 0), (.nop, 0, 0, 0, 0), (.nop, 0, 0, 0, 0), (.goto (-44), 3, 0, 0, 0), (.nop, 0, 0, 0, 0), (.nop, 0, 0, 0, 0), (.lload 4, 2, 0, 0, 0), (.nop, 0, 0, 0, 0), (.lreturn, 1, 0, 0, 0)]], 10, 2, 0, 0, 0, 0)
def mi_X4_init : ev_M := (yX4_init, cX4_init, 1, none, [[(.aload_n 0, 1, 0, 0, 0), (.invokespecial 3, 3, 999, 0, 0), (.nop, 0, 0, 0, 0), (.nop, 0, 0, 0, 0), (.aload_n 0, 1, 0, 0, 0), (.bipush 10, 2, 0, 0, 0), (.nop, 0, 0, 0, 0), (.newarray .long, 2, 1, 0, 0), (.nop, 0, 0, 0, 0), (.putfield 9, 3, 3, 0, 3), (.nop, 0, 0, 0, 0), (.nop, 0, 0, 0, 0), (.return_, 1, 0, 0, 0)]], 2, 0, 1, 12, 1, 10)
def mi_X5_drawSecret : ev_M := (yX5_drawSecret, cX5_drawSecret, 3, (some (.object "RatchetPost$Secret")), [[(.aload_n 0, 1, 0, 0, 0), (.dup, 1, 0, 0, 0), (.getfield 47, 3, 4, 1, 0), (.nop, 0, 0, 0, 0), (.nop, 0, 0, 0, 0), (.iconst 1, 1, 0, 0, 0), (.iadd, 1, 0, 0, 0), (.putfield 47, 3, 4, 1, 0), (.nop, 0, 0, 0, 0), (.nop, 0, 0, 0, 0), (.aload_n 0, 1, 0, 0, 0), (.getfield 32, 3, 4, 0, 1), (.nop, 0, 0, 0, 0), (.nop, 0, 0, 0, 0), (.aload_n 0, 1, 0, 0, 0), (.getfield 47, 3, 4, 1, 0), (.nop, 0, 0, 0, 0), (.nop, 0, 0, 0, 0), (.i2l, 1, 0, 0, 0), (.invokestatic 51, 3, 71, 0, 0), (.nop, 0, 0, 0, 0), (.nop, 0, 0, 0, 0), (.invokestatic 57, 3, 76, 0, 0), (.nop, 0, 0, 0, 0), (.nop, 0, 0, 0, 0), (.lstore_n 1, 1, 0, 0, 0), (.aload_n 0, 1, 0, 0, 0), (.new 9, 3, 6, 0, 0), (.nop, 0, 0, 0, 0), (.nop, 0, 0, 0, 0), (.dup, 1, 0, 0, 0), (.lload_n 1, 1, 0, 0, 0)],
    [(.ldc2_w 61, 3, 0, 0, 3), (.nop, 0, 0, 0, 0), (.nop, 0, 0, 0, 0), (.lload_n 1, 1, 0, 0, 0), (.invokestatic 63, 3, 72, 0, 0), (.nop, 0, 0, 0, 0), (.nop, 0, 0, 0, 0), (.aload_n 0, 1, 0, 0, 0), (.getfield 66, 3, 4, 2, 3), (.nop, 0, 0, 0, 0), (.nop, 0, 0, 0, 0), (.invokespecial 69, 3, 95, 0, 0), (.nop, 0, 0, 0, 0), (.nop, 0, 0, 0, 0), (.putfield 66, 3, 4, 2, 3), (.nop, 0, 0, 0, 0), (.nop, 0, 0, 0, 0), (.aload_n 0, 1, 0, 0, 0), (.getfield 66, 3, 4, 2, 3), (.nop, 0, 0, 0, 0), (.nop, 0, 0, 0, 0), (.areturn, 1, 0, 0, 0)]], 1, 0, 2, 67, 1, 4)
def mi_X5_enrol : ev_M := (yX5_enrol, cX5_enrol, 1, none, [[(.aload_n 0, 1, 0, 0, 0), (.aload_n 0, 1, 0, 0, 0), (.invokevirtual 78, 3, 80, 4, 0), (.nop, 0, 0, 0, 0), (.nop, 0, 0, 0, 0), (.putfield 43, 3, 4, 3, 3), (.nop, 0, 0, 0, 0), (.nop, 0, 0, 0, 0), (.aload_n 0, 1, 0, 0, 0), (.invokevirtual 82, 3, 86, 4, 0), (.nop, 0, 0, 0, 0), (.nop, 0, 0, 0, 0), (.return_, 1, 0, 0, 0)]], 1, 0, 4, 111, 3, 12)
def mi_X5_giveAway : ev_M := (yX5_giveAway, cX5_giveAway, 2, none, [[(.aload_n 0, 1, 0, 0, 0), (.getfield 43, 3, 4, 3, 3), (.nop, 0, 0, 0, 0), (.nop, 0, 0, 0, 0), (.invokestatic 127, 3, 94, 0, 0), (.nop, 0, 0, 0, 0), (.nop, 0, 0, 0, 0), (.iconst 1, 1, 0, 0, 0), (.istore_n 1, 1, 0, 0, 0), (.iload_n 1, 1, 0, 0, 0), (.aload_n 0, 1, 0, 0, 0), (.getfield 85, 3, 4, 4, 0), (.nop, 0, 0, 0, 0), (.nop, 0, 0, 0, 0), (.if_icmp .gt 17, 3, 0, 0, 0), (.nop, 0, 0, 0, 0), (.nop, 0, 0, 0, 0), (.nop, 0, 0, 0, 0), (.nop, 0, 0, 0, 0), (.nop, 0, 0, 0, 0), (.nop, 0, 0, 0, 0), (.nop, 0, 0, 0, 0), (.nop, 0, 0, 0, 0), (.nop, 0, 0, 0, 0), (.nop, 0, 0, 0, 0), (.nop, 0, 0, 0, 0), (.nop, 0, 0, 0, 0), (.nop, 0, 0, 0, 0), (.nop, 0, 0, 0, 0), (.nop, 0, 0, 0, 0), (.nop, 0, 0, 0, 0), (.iconst 1, 1, 0, 0, 0)],
    [(.istore_n 1, 1, 0, 0, 0), (.iload_n 1, 1, 0, 0, 0), (.aload_n 0, 1, 0, 0, 0), (.getfield 111, 3, 4, 11, 0), (.nop, 0, 0, 0, 0), (.nop, 0, 0, 0, 0), (.if_icmp .gt 17, 3, 0, 0, 0), (.nop, 0, 0, 0, 0), (.nop, 0, 0, 0, 0), (.nop, 0, 0, 0, 0), (.nop, 0, 0, 0, 0), (.nop, 0, 0, 0, 0), (.nop, 0, 0, 0, 0), (.nop, 0, 0, 0, 0), (.nop, 0, 0, 0, 0), (.nop, 0, 0, 0, 0), (.nop, 0, 0, 0, 0), (.nop, 0, 0, 0, 0), (.nop, 0, 0, 0, 0), (.nop, 0, 0, 0, 0), (.nop, 0, 0, 0, 0), (.nop, 0, 0, 0, 0), (.nop, 0, 0, 0, 0), (.iconst 0, 1, 0, 0, 0), (.istore_n 1, 1, 0, 0, 0), (.iload_n 1, 1, 0, 0, 0), (.aload_n 0, 1, 0, 0, 0), (.getfield 38, 3, 4, 13, 3), (.nop, 0, 0, 0, 0), (.nop, 0, 0, 0, 0), (.arraylength, 1, 0, 0, 0), (.if_icmp .ge 18, 3, 0, 0, 0)],
    [(.nop, 0, 0, 0, 0), (.nop, 0, 0, 0, 0), (.aload_n 0, 1, 0, 0, 0), (.getfield 38, 3, 4, 13, 3), (.nop, 0, 0, 0, 0), (.nop, 0, 0, 0, 0), (.iload_n 1, 1, 0, 0, 0), (.aaload, 1, 0, 0, 0), (.invokevirtual 137, 3, 91, 5, 0), (.nop, 0, 0, 0, 0), (.nop, 0, 0, 0, 0), (.iinc 1 1, 3, 0, 0, 0), (.nop, 0, 0, 0, 0), (.nop, 0, 0, 0, 0), (.goto (-21), 3, 0, 0, 0), (.nop, 0, 0, 0, 0), (.nop, 0, 0, 0, 0), (.return_, 1, 0, 0, 0)]], 1, 0, 1, 21, 0, 0)
def mi_X5_init : ev_M := (yX5_init, cX5_init, 5, none, [[(.aload_n 0, 1, 0, 0, 0), (.invokespecial 3, 3, 999, 0, 0), (.nop, 0, 0, 0, 0), (.nop, 0, 0, 0, 0), (.aload_n 0, 1, 0, 0, 0), (.bipush 21, 2, 0, 0, 0), (.nop, 0, 0, 0, 0), (.anewarray 9, 3, 4, 0, 0), (.nop, 0, 0, 0, 0), (.nop, 0, 0, 0, 0), (.putfield 11, 3, 4, 8, 3), (.nop, 0, 0, 0, 0), (.nop, 0, 0, 0, 0), (.aload_n 0, 1, 0, 0, 0), (.bipush 61, 2, 0, 0, 0), (.nop, 0, 0, 0, 0), (.anewarray 9, 3, 4, 0, 0), (.nop, 0, 0, 0, 0), (.nop, 0, 0, 0, 0), (.putfield 17, 3, 4, 9, 3), (.nop, 0, 0, 0, 0), (.nop, 0, 0, 0, 0), (.aload_n 0, 1, 0, 0, 0), (.bipush 61, 2, 0, 0, 0), (.nop, 0, 0, 0, 0), (.newarray .boolean, 2, 2, 0, 0), (.nop, 0, 0, 0, 0), (.putfield 20, 3, 4, 10, 3), (.nop, 0, 0, 0, 0), (.nop, 0, 0, 0, 0), (.aload_n 0, 1, 0, 0, 0), (.bipush 100, 2, 0, 0, 0)],
    [(.nop, 0, 0, 0, 0), (.newarray .long, 2, 1, 0, 0), (.nop, 0, 0, 0, 0), (.putfield 24, 3, 4, 14, 3), (.nop, 0, 0, 0, 0), (.nop, 0, 0, 0, 0), (.aload_n 0, 1, 0, 0, 0), (.bipush 100, 2, 0, 0, 0), (.nop, 0, 0, 0, 0), (.newarray .int, 2, 0, 0, 0), (.nop, 0, 0, 0, 0), (.putfield 28, 3, 4, 15, 3), (.nop, 0, 0, 0, 0), (.nop, 0, 0, 0, 0), (.aload_n 0, 1, 0, 0, 0), (.lload_n 1, 1, 0, 0, 0), (.putfield 32, 3, 4, 0, 1), (.nop, 0, 0, 0, 0), (.nop, 0, 0, 0, 0), (.aload_n 0, 1, 0, 0, 0), (.iload_n 3, 1, 0, 0, 0), (.anewarray 36, 3, 6, 0, 0), (.nop, 0, 0, 0, 0), (.nop, 0, 0, 0, 0), (.putfield 38, 3, 4, 13, 3), (.nop, 0, 0, 0, 0), (.nop, 0, 0, 0, 0), (.iconst 0, 1, 0, 0, 0), (.istore 4, 2, 0, 0, 0), (.nop, 0, 0, 0, 0), (.iload 4, 2, 0, 0, 0), (.nop, 0, 0, 0, 0)],
    [(.iload_n 3, 1, 0, 0, 0), (.if_icmp .ge 23, 3, 0, 0, 0), (.nop, 0, 0, 0, 0), (.nop, 0, 0, 0, 0), (.aload_n 0, 1, 0, 0, 0), (.getfield 38, 3, 4, 13, 3), (.nop, 0, 0, 0, 0), (.nop, 0, 0, 0, 0), (.iload 4, 2, 0, 0, 0), (.nop, 0, 0, 0, 0), (.new 36, 3, 5, 0, 0), (.nop, 0, 0, 0, 0), (.nop, 0, 0, 0, 0), (.dup, 1, 0, 0, 0), (.invokespecial 42, 3, 92, 0, 0), (.nop, 0, 0, 0, 0), (.nop, 0, 0, 0, 0), (.aastore, 1, 0, 0, 0), (.iinc 4 1, 3, 0, 0, 0), (.nop, 0, 0, 0, 0), (.nop, 0, 0, 0, 0), (.goto (-23), 3, 0, 0, 0), (.nop, 0, 0, 0, 0), (.nop, 0, 0, 0, 0), (.return_, 1, 0, 0, 0)]], 2, 2, 2, 32, 18, 385)
def mi_X5_isRegistered : ev_M := (yX5_isRegistered, cX5_isRegistered, 1, (some .boolean), [[(.aload_n 0, 1, 0, 0, 0), (.getfield 43, 3, 4, 3, 3), (.nop, 0, 0, 0, 0), (.nop, 0, 0, 0, 0), (.ifnull 7, 3, 0, 0, 0), (.nop, 0, 0, 0, 0), (.nop, 0, 0, 0, 0), (.nop, 0, 0, 0, 0), (.nop, 0, 0, 0, 0), (.nop, 0, 0, 0, 0), (.nop, 0, 0, 0, 0), (.iconst 0, 1, 0, 0, 0), (.ireturn, 1, 0, 0, 0)]], 1, 0, 0, 0, 0, 0)
def mi_X5_leastOnce : ev_M := (yX5_leastOnce, cX5_leastOnce, 1, (some .int), [[(.aload_n 0, 1, 0, 0, 0), (.getfield 114, 3, 4, 12, 0), (.nop, 0, 0, 0, 0), (.nop, 0, 0, 0, 0), (.aload_n 0, 1, 0, 0, 0), (.getfield 111, 3, 4, 11, 0), (.nop, 0, 0, 0, 0), (.nop, 0, 0, 0, 0), (.if_icmp .ge 12, 3, 0, 0, 0), (.nop, 0, 0, 0, 0), (.nop, 0, 0, 0, 0), (.nop, 0, 0, 0, 0), (.nop, 0, 0, 0, 0), (.nop, 0, 0, 0, 0), (.nop, 0, 0, 0, 0), (.nop, 0, 0, 0, 0), (.nop, 0, 0, 0, 0), (.nop, 0, 0, 0, 0), (.nop, 0, 0, 0, 0), (.nop, 0, 0, 0, 0), (.iconst 0, 1, 0, 0, 0), (.ireturn, 1, 0, 0, 0)]], 1, 0, 0, 0, 0, 0)
def mi_X5_makeLentKey : ev_M := (yX5_makeLentKey, cX5_makeLentKey, 3, none, [[(.aload_n 0, 1, 0, 0, 0), (.getfield 43, 3, 4, 3, 3), (.nop, 0, 0, 0, 0), (.nop, 0, 0, 0, 0), (.ifnull 77, 3, 0, 0, 0), (.nop, 0, 0, 0, 0), (.nop, 0, 0, 0, 0), (.aload_n 0, 1, 0, 0, 0), (.getfield 85, 3, 4, 4, 0), (.nop, 0, 0, 0, 0), (.nop, 0, 0, 0, 0), (.bipush 20, 2, 0, 0, 0), (.nop, 0, 0, 0, 0), (.if_icmp .ge 68, 3, 0, 0, 0), (.nop, 0, 0, 0, 0), (.nop, 0, 0, 0, 0), (.aload_n 0, 1, 0, 0, 0), (.invokevirtual 78, 3, 80, 4, 0), (.nop, 0, 0, 0, 0), (.nop, 0, 0, 0, 0), (.astore_n 1, 1, 0, 0, 0), (.aload_n 0, 1, 0, 0, 0), (.invokevirtual 78, 3, 80, 4, 0), (.nop, 0, 0, 0, 0), (.nop, 0, 0, 0, 0), (.astore_n 2, 1, 0, 0, 0), (.aload_n 0, 1, 0, 0, 0), (.dup, 1, 0, 0, 0), (.getfield 85, 3, 4, 4, 0), (.nop, 0, 0, 0, 0), (.nop, 0, 0, 0, 0), (.iconst 1, 1, 0, 0, 0)],
    [(.iadd, 1, 0, 0, 0), (.putfield 85, 3, 4, 4, 0), (.nop, 0, 0, 0, 0), (.nop, 0, 0, 0, 0), (.aload_n 0, 1, 0, 0, 0), (.getfield 11, 3, 4, 8, 3), (.nop, 0, 0, 0, 0), (.nop, 0, 0, 0, 0), (.aload_n 0, 1, 0, 0, 0), (.getfield 85, 3, 4, 4, 0), (.nop, 0, 0, 0, 0), (.nop, 0, 0, 0, 0), (.aload_n 1, 1, 0, 0, 0), (.aastore, 1, 0, 0, 0), (.aload_n 0, 1, 0, 0, 0), (.aload_n 1, 1, 0, 0, 0), (.getfield 72, 3, 6, 1, 1), (.nop, 0, 0, 0, 0), (.nop, 0, 0, 0, 0), (.putfield 88, 3, 4, 5, 1), (.nop, 0, 0, 0, 0), (.nop, 0, 0, 0, 0), (.aload_n 0, 1, 0, 0, 0), (.aload_n 2, 1, 0, 0, 0), (.getfield 72, 3, 6, 1, 1), (.nop, 0, 0, 0, 0), (.nop, 0, 0, 0, 0), (.putfield 91, 3, 4, 6, 1), (.nop, 0, 0, 0, 0), (.nop, 0, 0, 0, 0), (.aload_n 0, 1, 0, 0, 0), (.aload_n 2, 1, 0, 0, 0)],
    [(.aload_n 1, 1, 0, 0, 0), (.getfield 72, 3, 6, 1, 1), (.nop, 0, 0, 0, 0), (.nop, 0, 0, 0, 0), (.aload_n 0, 1, 0, 0, 0), (.getfield 43, 3, 4, 3, 3), (.nop, 0, 0, 0, 0), (.nop, 0, 0, 0, 0), (.getfield 94, 3, 6, 0, 1), (.nop, 0, 0, 0, 0), (.nop, 0, 0, 0, 0), (.invokestatic 97, 3, 74, 0, 0), (.nop, 0, 0, 0, 0), (.nop, 0, 0, 0, 0), (.putfield 101, 3, 4, 7, 1), (.nop, 0, 0, 0, 0), (.nop, 0, 0, 0, 0), (.return_, 1, 0, 0, 0)]], 1, 0, 3, 89, 2, 8)
def mi_X5_onceSecretsKept : ev_M := (yX5_onceSecretsKept, cX5_onceSecretsKept, 3, (some .int), [[(.iconst 0, 1, 0, 0, 0), (.istore_n 1, 1, 0, 0, 0), (.iconst 1, 1, 0, 0, 0), (.istore_n 2, 1, 0, 0, 0), (.iload_n 2, 1, 0, 0, 0), (.aload_n 0, 1, 0, 0, 0), (.getfield 111, 3, 4, 11, 0), (.nop, 0, 0, 0, 0), (.nop, 0, 0, 0, 0), (.if_icmp .gt 21, 3, 0, 0, 0), (.nop, 0, 0, 0, 0), (.nop, 0, 0, 0, 0), (.nop, 0, 0, 0, 0), (.nop, 0, 0, 0, 0), (.nop, 0, 0, 0, 0), (.nop, 0, 0, 0, 0), (.nop, 0, 0, 0, 0), (.nop, 0, 0, 0, 0), (.nop, 0, 0, 0, 0), (.nop, 0, 0, 0, 0), (.nop, 0, 0, 0, 0), (.nop, 0, 0, 0, 0), (.nop, 0, 0, 0, 0), (.nop, 0, 0, 0, 0), (.nop, 0, 0, 0, 0), (.nop, 0, 0, 0, 0), (.nop, 0, 0, 0, 0), (.nop, 0, 0, 0, 0), (.nop, 0, 0, 0, 0), (.nop, 0, 0, 0, 0), (.iload_n 1, 1, 0, 0, 0), (.ireturn, 1, 0, 0, 0)]], 1, 0, 0, 0, 0, 0)
def mi_X5_onceThere : ev_M := (yX5_onceThere, cX5_onceThere, 1, (some .int), [[(.aload_n 0, 1, 0, 0, 0), (.getfield 111, 3, 4, 11, 0), (.nop, 0, 0, 0, 0), (.nop, 0, 0, 0, 0), (.aload_n 0, 1, 0, 0, 0), (.getfield 114, 3, 4, 12, 0), (.nop, 0, 0, 0, 0), (.nop, 0, 0, 0, 0), (.isub, 1, 0, 0, 0), (.ireturn, 1, 0, 0, 0)]], 1, 0, 0, 0, 0, 0)
def mi_X5_sessionsInAll : ev_M := (yX5_sessionsInAll, cX5_sessionsInAll, 3, (some .int), [[(.iconst 0, 1, 0, 0, 0), (.istore_n 1, 1, 0, 0, 0), (.iconst 0, 1, 0, 0, 0), (.istore_n 2, 1, 0, 0, 0), (.iload_n 2, 1, 0, 0, 0), (.aload_n 0, 1, 0, 0, 0), (.getfield 38, 3, 4, 13, 3), (.nop, 0, 0, 0, 0), (.nop, 0, 0, 0, 0), (.arraylength, 1, 0, 0, 0), (.if_icmp .ge 21, 3, 0, 0, 0), (.nop, 0, 0, 0, 0), (.nop, 0, 0, 0, 0), (.iload_n 1, 1, 0, 0, 0), (.aload_n 0, 1, 0, 0, 0), (.getfield 38, 3, 4, 13, 3), (.nop, 0, 0, 0, 0), (.nop, 0, 0, 0, 0), (.iload_n 2, 1, 0, 0, 0), (.aaload, 1, 0, 0, 0), (.getfield 121, 3, 5, 1, 0), (.nop, 0, 0, 0, 0), (.nop, 0, 0, 0, 0), (.iadd, 1, 0, 0, 0), (.istore_n 1, 1, 0, 0, 0), (.iinc 2 1, 3, 0, 0, 0), (.nop, 0, 0, 0, 0), (.nop, 0, 0, 0, 0), (.goto (-24), 3, 0, 0, 0), (.nop, 0, 0, 0, 0), (.nop, 0, 0, 0, 0), (.iload_n 1, 1, 0, 0, 0)],
    [(.ireturn, 1, 0, 0, 0)]], 1, 0, 0, 0, 0, 0)
def mi_X6_at : ev_M := (yX6_at, cX6_at, 2, (some (.object "RatchetPost$Session")), [[(.iload_n 1, 1, 0, 0, 0), (.ifCond .lt 20, 3, 0, 0, 0), (.nop, 0, 0, 0, 0), (.nop, 0, 0, 0, 0), (.iload_n 1, 1, 0, 0, 0), (.aload_n 0, 1, 0, 0, 0), (.getfield 17, 3, 5, 1, 0), (.nop, 0, 0, 0, 0), (.nop, 0, 0, 0, 0), (.if_icmp .ge 12, 3, 0, 0, 0), (.nop, 0, 0, 0, 0), (.nop, 0, 0, 0, 0), (.nop, 0, 0, 0, 0), (.nop, 0, 0, 0, 0), (.nop, 0, 0, 0, 0), (.nop, 0, 0, 0, 0), (.nop, 0, 0, 0, 0), (.nop, 0, 0, 0, 0), (.nop, 0, 0, 0, 0), (.nop, 0, 0, 0, 0), (.nop, 0, 0, 0, 0), (.aconst_null, 1, 0, 0, 0), (.areturn, 1, 0, 0, 0)]], 1, 1, 0, 0, 0, 0)
def mi_X6_giveAway : ev_M := (yX6_giveAway, cX6_giveAway, 2, none, [[(.iconst 0, 1, 0, 0, 0), (.istore_n 1, 1, 0, 0, 0), (.iload_n 1, 1, 0, 0, 0), (.aload_n 0, 1, 0, 0, 0), (.getfield 17, 3, 5, 1, 0), (.nop, 0, 0, 0, 0), (.nop, 0, 0, 0, 0), (.if_icmp .ge 18, 3, 0, 0, 0), (.nop, 0, 0, 0, 0), (.nop, 0, 0, 0, 0), (.nop, 0, 0, 0, 0), (.nop, 0, 0, 0, 0), (.nop, 0, 0, 0, 0), (.nop, 0, 0, 0, 0), (.nop, 0, 0, 0, 0), (.nop, 0, 0, 0, 0), (.nop, 0, 0, 0, 0), (.nop, 0, 0, 0, 0), (.nop, 0, 0, 0, 0), (.nop, 0, 0, 0, 0), (.nop, 0, 0, 0, 0), (.nop, 0, 0, 0, 0), (.nop, 0, 0, 0, 0), (.nop, 0, 0, 0, 0), (.nop, 0, 0, 0, 0), (.return_, 1, 0, 0, 0)]], 1, 0, 0, 0, 0, 0)
def mi_X6_init : ev_M := (yX6_init, cX6_init, 1, none, [[(.aload_n 0, 1, 0, 0, 0), (.invokespecial 3, 3, 999, 0, 0), (.nop, 0, 0, 0, 0), (.nop, 0, 0, 0, 0), (.aload_n 0, 1, 0, 0, 0), (.iconst 4, 1, 0, 0, 0), (.anewarray 9, 3, 7, 0, 0), (.nop, 0, 0, 0, 0), (.nop, 0, 0, 0, 0), (.putfield 11, 3, 5, 0, 3), (.nop, 0, 0, 0, 0), (.nop, 0, 0, 0, 0), (.return_, 1, 0, 0, 0)]], 2, 0, 1, 12, 1, 4)
def mi_X6_retireAll : ev_M := (yX6_retireAll, cX6_retireAll, 3, (some .int), [[(.aload_n 0, 1, 0, 0, 0), (.getfield 17, 3, 5, 1, 0), (.nop, 0, 0, 0, 0), (.nop, 0, 0, 0, 0), (.istore_n 1, 1, 0, 0, 0), (.iconst 0, 1, 0, 0, 0), (.istore_n 2, 1, 0, 0, 0), (.iload_n 2, 1, 0, 0, 0), (.iload_n 1, 1, 0, 0, 0), (.if_icmp .ge 16, 3, 0, 0, 0), (.nop, 0, 0, 0, 0), (.nop, 0, 0, 0, 0), (.nop, 0, 0, 0, 0), (.nop, 0, 0, 0, 0), (.nop, 0, 0, 0, 0), (.nop, 0, 0, 0, 0), (.nop, 0, 0, 0, 0), (.nop, 0, 0, 0, 0), (.nop, 0, 0, 0, 0), (.nop, 0, 0, 0, 0), (.nop, 0, 0, 0, 0), (.nop, 0, 0, 0, 0), (.nop, 0, 0, 0, 0), (.nop, 0, 0, 0, 0), (.nop, 0, 0, 0, 0), (.aload_n 0, 1, 0, 0, 0), (.iconst 0, 1, 0, 0, 0), (.putfield 17, 3, 5, 1, 0), (.nop, 0, 0, 0, 0), (.nop, 0, 0, 0, 0), (.iload_n 1, 1, 0, 0, 0), (.ireturn, 1, 0, 0, 0)]], 1, 0, 0, 0, 0, 0)
def mi_X7_give : ev_M := (yX7_give, cX7_give, 1, none, [[(.aload_n 0, 1, 0, 0, 0), (.ifnull 8, 3, 0, 0, 0), (.nop, 0, 0, 0, 0), (.nop, 0, 0, 0, 0), (.nop, 0, 0, 0, 0), (.nop, 0, 0, 0, 0), (.nop, 0, 0, 0, 0), (.nop, 0, 0, 0, 0), (.nop, 0, 0, 0, 0), (.return_, 1, 0, 0, 0)]], 0, 1, 0, 0, 0, 0)
def mi_X7_init : ev_M := (yX7_init, cX7_init, 6, none, [[(.aload_n 0, 1, 0, 0, 0), (.invokespecial 1, 3, 999, 0, 0), (.nop, 0, 0, 0, 0), (.nop, 0, 0, 0, 0), (.aload_n 0, 1, 0, 0, 0), (.lload_n 1, 1, 0, 0, 0), (.putfield 7, 3, 6, 0, 1), (.nop, 0, 0, 0, 0), (.nop, 0, 0, 0, 0), (.aload_n 0, 1, 0, 0, 0), (.lload_n 3, 1, 0, 0, 0), (.putfield 13, 3, 6, 1, 1), (.nop, 0, 0, 0, 0), (.nop, 0, 0, 0, 0), (.aload_n 0, 1, 0, 0, 0), (.aload 5, 2, 0, 0, 0), (.nop, 0, 0, 0, 0), (.putfield 16, 3, 6, 2, 3), (.nop, 0, 0, 0, 0), (.nop, 0, 0, 0, 0), (.return_, 1, 0, 0, 0)]], 2, 3, 1, 12, 0, 0)
def mi_X9_giveRoot : ev_M := (yX9_giveRoot, cX9_giveRoot, 1, none, [[(.aload_n 0, 1, 0, 0, 0), (.iconst 1, 1, 0, 0, 0), (.putfield 41, 3, 8, 4, 2), (.nop, 0, 0, 0, 0), (.nop, 0, 0, 0, 0), (.return_, 1, 0, 0, 0)]], 1, 0, 0, 0, 0, 0)
def mi_X9_init : ev_M := (yX9_init, cX9_init, 3, none, [[(.aload_n 0, 1, 0, 0, 0), (.invokespecial 3, 3, 999, 0, 0), (.nop, 0, 0, 0, 0), (.nop, 0, 0, 0, 0), (.aload_n 0, 1, 0, 0, 0), (.ldc 11, 2, 0, 0, 1000000), (.nop, 0, 0, 0, 0), (.putfield 12, 3, 8, 5, 0), (.nop, 0, 0, 0, 0), (.nop, 0, 0, 0, 0), (.aload_n 0, 1, 0, 0, 0), (.bipush 80, 2, 0, 0, 0), (.nop, 0, 0, 0, 0), (.newarray .boolean, 2, 2, 0, 0), (.nop, 0, 0, 0, 0), (.putfield 16, 3, 8, 6, 3), (.nop, 0, 0, 0, 0), (.nop, 0, 0, 0, 0), (.aload_n 0, 1, 0, 0, 0), (.aload_n 1, 1, 0, 0, 0), (.putfield 20, 3, 8, 0, 3), (.nop, 0, 0, 0, 0), (.nop, 0, 0, 0, 0), (.aload_n 0, 1, 0, 0, 0), (.aload_n 2, 1, 0, 0, 0), (.putfield 24, 3, 8, 1, 3), (.nop, 0, 0, 0, 0), (.nop, 0, 0, 0, 0), (.return_, 1, 0, 0, 0)]], 2, 2, 1, 12, 1, 80)
def mi_L_law : ev_M := (yL_law, cL_law, 4, (some .boolean), [[(.new 7, 3, 9, 0, 0), (.nop, 0, 0, 0, 0), (.nop, 0, 0, 0, 0), (.dup, 1, 0, 0, 0), (.aload_n 0, 1, 0, 0, 0), (.iconst 0, 1, 0, 0, 0), (.invokestatic 9, 3, 0, 0, 0), (.nop, 0, 0, 0, 0), (.nop, 0, 0, 0, 0), (.aload_n 0, 1, 0, 0, 0), (.iconst 1, 1, 0, 0, 0), (.invokestatic 9, 3, 0, 0, 0), (.nop, 0, 0, 0, 0), (.nop, 0, 0, 0, 0), (.invokespecial 15, 3, 12, 0, 0), (.nop, 0, 0, 0, 0), (.nop, 0, 0, 0, 0), (.astore_n 1, 1, 0, 0, 0), (.new 18, 3, 10, 0, 0), (.nop, 0, 0, 0, 0), (.nop, 0, 0, 0, 0), (.dup, 1, 0, 0, 0), (.aload_n 0, 1, 0, 0, 0), (.iconst 0, 1, 0, 0, 0), (.invokestatic 9, 3, 0, 0, 0), (.nop, 0, 0, 0, 0), (.nop, 0, 0, 0, 0), (.aload_n 0, 1, 0, 0, 0), (.iconst 1, 1, 0, 0, 0), (.invokestatic 9, 3, 0, 0, 0), (.nop, 0, 0, 0, 0), (.nop, 0, 0, 0, 0)],
    [(.invokespecial 20, 3, 42, 0, 0), (.nop, 0, 0, 0, 0), (.nop, 0, 0, 0, 0), (.astore_n 2, 1, 0, 0, 0), (.iconst 2, 1, 0, 0, 0), (.istore_n 3, 1, 0, 0, 0), (.iload_n 3, 1, 0, 0, 0), (.aload_n 0, 1, 0, 0, 0), (.arraylength, 1, 0, 0, 0), (.bipush 6, 2, 0, 0, 0), (.nop, 0, 0, 0, 0), (.isub, 1, 0, 0, 0), (.if_icmp .gt 896, 3, 0, 0, 0), (.nop, 0, 0, 0, 0), (.nop, 0, 0, 0, 0), (.aload_n 0, 1, 0, 0, 0), (.iload_n 3, 1, 0, 0, 0), (.iaload, 1, 0, 0, 0), (.bipush 31, 2, 0, 0, 0), (.nop, 0, 0, 0, 0), (.iand, 1, 0, 0, 0), (.tableswitch 881 0 21 #[103, 166, 189, 212, 245, 268, 301, 334, 367, 400, 423, 446, 489, 522, 585, 618, 652, 705, 759, 812, 835, 858], 103, 0, 0, 0), (.nop, 0, 0, 0, 0), (.nop, 0, 0, 0, 0), (.nop, 0, 0, 0, 0), (.nop, 0, 0, 0, 0), (.nop, 0, 0, 0, 0), (.nop, 0, 0, 0, 0), (.nop, 0, 0, 0, 0), (.nop, 0, 0, 0, 0), (.nop, 0, 0, 0, 0), (.nop, 0, 0, 0, 0)],
    [(.nop, 0, 0, 0, 0), (.nop, 0, 0, 0, 0), (.nop, 0, 0, 0, 0), (.nop, 0, 0, 0, 0), (.nop, 0, 0, 0, 0), (.nop, 0, 0, 0, 0), (.nop, 0, 0, 0, 0), (.nop, 0, 0, 0, 0), (.nop, 0, 0, 0, 0), (.nop, 0, 0, 0, 0), (.nop, 0, 0, 0, 0), (.nop, 0, 0, 0, 0), (.nop, 0, 0, 0, 0), (.nop, 0, 0, 0, 0), (.nop, 0, 0, 0, 0), (.nop, 0, 0, 0, 0), (.nop, 0, 0, 0, 0), (.nop, 0, 0, 0, 0), (.nop, 0, 0, 0, 0), (.nop, 0, 0, 0, 0), (.nop, 0, 0, 0, 0), (.nop, 0, 0, 0, 0), (.nop, 0, 0, 0, 0), (.nop, 0, 0, 0, 0), (.nop, 0, 0, 0, 0), (.nop, 0, 0, 0, 0), (.nop, 0, 0, 0, 0), (.nop, 0, 0, 0, 0), (.nop, 0, 0, 0, 0), (.nop, 0, 0, 0, 0), (.nop, 0, 0, 0, 0), (.nop, 0, 0, 0, 0)],
    [(.nop, 0, 0, 0, 0), (.nop, 0, 0, 0, 0), (.nop, 0, 0, 0, 0), (.nop, 0, 0, 0, 0), (.nop, 0, 0, 0, 0), (.nop, 0, 0, 0, 0), (.nop, 0, 0, 0, 0), (.nop, 0, 0, 0, 0), (.nop, 0, 0, 0, 0), (.nop, 0, 0, 0, 0), (.nop, 0, 0, 0, 0), (.nop, 0, 0, 0, 0), (.nop, 0, 0, 0, 0), (.nop, 0, 0, 0, 0), (.nop, 0, 0, 0, 0), (.nop, 0, 0, 0, 0), (.nop, 0, 0, 0, 0), (.nop, 0, 0, 0, 0), (.nop, 0, 0, 0, 0), (.nop, 0, 0, 0, 0), (.nop, 0, 0, 0, 0), (.nop, 0, 0, 0, 0), (.nop, 0, 0, 0, 0), (.nop, 0, 0, 0, 0), (.nop, 0, 0, 0, 0), (.nop, 0, 0, 0, 0), (.nop, 0, 0, 0, 0), (.nop, 0, 0, 0, 0), (.nop, 0, 0, 0, 0), (.nop, 0, 0, 0, 0), (.nop, 0, 0, 0, 0), (.nop, 0, 0, 0, 0)],
    [(.nop, 0, 0, 0, 0), (.nop, 0, 0, 0, 0), (.nop, 0, 0, 0, 0), (.nop, 0, 0, 0, 0), (.nop, 0, 0, 0, 0), (.nop, 0, 0, 0, 0), (.nop, 0, 0, 0, 0), (.nop, 0, 0, 0, 0), (.nop, 0, 0, 0, 0), (.nop, 0, 0, 0, 0), (.nop, 0, 0, 0, 0), (.nop, 0, 0, 0, 0), (.nop, 0, 0, 0, 0), (.nop, 0, 0, 0, 0), (.nop, 0, 0, 0, 0), (.nop, 0, 0, 0, 0), (.nop, 0, 0, 0, 0), (.nop, 0, 0, 0, 0), (.nop, 0, 0, 0, 0), (.nop, 0, 0, 0, 0), (.nop, 0, 0, 0, 0), (.nop, 0, 0, 0, 0), (.nop, 0, 0, 0, 0), (.nop, 0, 0, 0, 0), (.nop, 0, 0, 0, 0), (.nop, 0, 0, 0, 0), (.nop, 0, 0, 0, 0), (.nop, 0, 0, 0, 0), (.aload_n 1, 1, 0, 0, 0), (.aload_n 0, 1, 0, 0, 0), (.iload_n 3, 1, 0, 0, 0), (.iconst 1, 1, 0, 0, 0)],
    [(.iadd, 1, 0, 0, 0), (.iaload, 1, 0, 0, 0), (.aload_n 0, 1, 0, 0, 0), (.iload_n 3, 1, 0, 0, 0), (.iconst 2, 1, 0, 0, 0), (.iadd, 1, 0, 0, 0), (.iaload, 1, 0, 0, 0), (.aload_n 0, 1, 0, 0, 0), (.iload_n 3, 1, 0, 0, 0), (.iconst 3, 1, 0, 0, 0), (.iadd, 1, 0, 0, 0), (.iaload, 1, 0, 0, 0), (.aload_n 0, 1, 0, 0, 0), (.iload_n 3, 1, 0, 0, 0), (.iconst 4, 1, 0, 0, 0), (.iadd, 1, 0, 0, 0), (.iaload, 1, 0, 0, 0), (.aload_n 0, 1, 0, 0, 0), (.iload_n 3, 1, 0, 0, 0), (.iconst 5, 1, 0, 0, 0), (.iadd, 1, 0, 0, 0), (.iaload, 1, 0, 0, 0), (.invokevirtual 21, 3, 9, 9, 0), (.nop, 0, 0, 0, 0), (.nop, 0, 0, 0, 0), (.aload_n 2, 1, 0, 0, 0), (.aload_n 0, 1, 0, 0, 0), (.iload_n 3, 1, 0, 0, 0), (.iconst 1, 1, 0, 0, 0), (.iadd, 1, 0, 0, 0), (.iaload, 1, 0, 0, 0), (.aload_n 0, 1, 0, 0, 0)],
    [(.iload_n 3, 1, 0, 0, 0), (.iconst 2, 1, 0, 0, 0), (.iadd, 1, 0, 0, 0), (.iaload, 1, 0, 0, 0), (.aload_n 0, 1, 0, 0, 0), (.iload_n 3, 1, 0, 0, 0), (.iconst 3, 1, 0, 0, 0), (.iadd, 1, 0, 0, 0), (.iaload, 1, 0, 0, 0), (.aload_n 0, 1, 0, 0, 0), (.iload_n 3, 1, 0, 0, 0), (.iconst 4, 1, 0, 0, 0), (.iadd, 1, 0, 0, 0), (.iaload, 1, 0, 0, 0), (.aload_n 0, 1, 0, 0, 0), (.iload_n 3, 1, 0, 0, 0), (.iconst 5, 1, 0, 0, 0), (.iadd, 1, 0, 0, 0), (.iaload, 1, 0, 0, 0), (.invokevirtual 25, 3, 39, 10, 0), (.nop, 0, 0, 0, 0), (.nop, 0, 0, 0, 0), (.if_icmp .eq 720, 3, 0, 0, 0), (.nop, 0, 0, 0, 0), (.nop, 0, 0, 0, 0), (.nop, 0, 0, 0, 0), (.nop, 0, 0, 0, 0), (.aload_n 1, 1, 0, 0, 0), (.aload_n 0, 1, 0, 0, 0), (.iload_n 3, 1, 0, 0, 0), (.iconst 1, 1, 0, 0, 0), (.iadd, 1, 0, 0, 0)],
    [(.iaload, 1, 0, 0, 0), (.invokevirtual 26, 3, 8, 9, 0), (.nop, 0, 0, 0, 0), (.nop, 0, 0, 0, 0), (.aload_n 2, 1, 0, 0, 0), (.aload_n 0, 1, 0, 0, 0), (.iload_n 3, 1, 0, 0, 0), (.iconst 1, 1, 0, 0, 0), (.iadd, 1, 0, 0, 0), (.iaload, 1, 0, 0, 0), (.invokevirtual 30, 3, 38, 10, 0), (.nop, 0, 0, 0, 0), (.nop, 0, 0, 0, 0), (.if_icmp .eq 697, 3, 0, 0, 0), (.nop, 0, 0, 0, 0), (.nop, 0, 0, 0, 0), (.nop, 0, 0, 0, 0), (.nop, 0, 0, 0, 0), (.aload_n 1, 1, 0, 0, 0), (.aload_n 0, 1, 0, 0, 0), (.iload_n 3, 1, 0, 0, 0), (.iconst 1, 1, 0, 0, 0), (.iadd, 1, 0, 0, 0), (.iaload, 1, 0, 2, 0), (.invokevirtual 31, 3, 23, 9, 0), (.nop, 0, 0, 0, 0), (.nop, 0, 0, 0, 0), (.aload_n 2, 1, 0, 0, 0), (.aload_n 0, 1, 0, 0, 0), (.iload_n 3, 1, 0, 0, 0), (.iconst 1, 1, 0, 0, 0), (.iadd, 1, 0, 0, 0)],
    [(.iaload, 1, 0, 2, 0), (.invokevirtual 34, 3, 58, 10, 0), (.nop, 0, 0, 0, 0), (.nop, 0, 0, 0, 0), (.if_icmp .eq 674, 3, 0, 0, 0), (.nop, 0, 0, 0, 0), (.nop, 0, 0, 0, 0), (.nop, 0, 0, 0, 0), (.nop, 0, 0, 0, 0), (.aload_n 1, 1, 0, 0, 0), (.aload_n 0, 1, 0, 0, 0), (.iload_n 3, 1, 0, 0, 0), (.iconst 1, 1, 0, 0, 0), (.iadd, 1, 0, 0, 0), (.iaload, 1, 0, 2, 0), (.aload_n 0, 1, 0, 0, 0), (.iload_n 3, 1, 0, 0, 0), (.iconst 2, 1, 0, 0, 0), (.iadd, 1, 0, 0, 0), (.iaload, 1, 0, 6, 0), (.invokevirtual 35, 3, 20, 9, 0), (.nop, 0, 0, 0, 0), (.nop, 0, 0, 0, 0), (.aload_n 2, 1, 0, 0, 0), (.aload_n 0, 1, 0, 0, 0), (.iload_n 3, 1, 0, 0, 0), (.iconst 1, 1, 0, 0, 0), (.iadd, 1, 0, 0, 0), (.iaload, 1, 0, 2, 0), (.aload_n 0, 1, 0, 0, 0), (.iload_n 3, 1, 0, 0, 0), (.iconst 2, 1, 0, 0, 0)],
    [(.iadd, 1, 0, 0, 0), (.iaload, 1, 0, 6, 0), (.invokevirtual 39, 3, 56, 10, 0), (.nop, 0, 0, 0, 0), (.nop, 0, 0, 0, 0), (.if_icmp .eq 641, 3, 0, 0, 0), (.nop, 0, 0, 0, 0), (.nop, 0, 0, 0, 0), (.nop, 0, 0, 0, 0), (.nop, 0, 0, 0, 0), (.aload_n 1, 1, 0, 0, 0), (.aload_n 0, 1, 0, 0, 0), (.iload_n 3, 1, 0, 0, 0), (.iconst 1, 1, 0, 0, 0), (.iadd, 1, 0, 0, 0), (.iaload, 1, 0, 2, 0), (.invokevirtual 40, 3, 24, 9, 0), (.nop, 0, 0, 0, 0), (.nop, 0, 0, 0, 0), (.aload_n 2, 1, 0, 0, 0), (.aload_n 0, 1, 0, 0, 0), (.iload_n 3, 1, 0, 0, 0), (.iconst 1, 1, 0, 0, 0), (.iadd, 1, 0, 0, 0), (.iaload, 1, 0, 2, 0), (.invokevirtual 43, 3, 59, 10, 0), (.nop, 0, 0, 0, 0), (.nop, 0, 0, 0, 0), (.if_icmp .eq 618, 3, 0, 0, 0), (.nop, 0, 0, 0, 0), (.nop, 0, 0, 0, 0), (.nop, 0, 0, 0, 0)],
    [(.nop, 0, 0, 0, 0), (.aload_n 1, 1, 0, 0, 0), (.aload_n 0, 1, 0, 0, 0), (.iload_n 3, 1, 0, 0, 0), (.iconst 1, 1, 0, 0, 0), (.iadd, 1, 0, 0, 0), (.iaload, 1, 0, 2, 0), (.aload_n 0, 1, 0, 0, 0), (.iload_n 3, 1, 0, 0, 0), (.iconst 2, 1, 0, 0, 0), (.iadd, 1, 0, 0, 0), (.iaload, 1, 0, 8, 0), (.invokevirtual 44, 3, 29, 9, 0), (.nop, 0, 0, 0, 0), (.nop, 0, 0, 0, 0), (.aload_n 2, 1, 0, 0, 0), (.aload_n 0, 1, 0, 0, 0), (.iload_n 3, 1, 0, 0, 0), (.iconst 1, 1, 0, 0, 0), (.iadd, 1, 0, 0, 0), (.iaload, 1, 0, 2, 0), (.aload_n 0, 1, 0, 0, 0), (.iload_n 3, 1, 0, 0, 0), (.iconst 2, 1, 0, 0, 0), (.iadd, 1, 0, 0, 0), (.iaload, 1, 0, 8, 0), (.invokevirtual 47, 3, 69, 10, 0), (.nop, 0, 0, 0, 0), (.nop, 0, 0, 0, 0), (.if_icmp .eq 585, 3, 0, 0, 0), (.nop, 0, 0, 0, 0), (.nop, 0, 0, 0, 0)],
    [(.nop, 0, 0, 0, 0), (.nop, 0, 0, 0, 0), (.aload_n 1, 1, 0, 0, 0), (.aload_n 0, 1, 0, 0, 0), (.iload_n 3, 1, 0, 0, 0), (.iconst 1, 1, 0, 0, 0), (.iadd, 1, 0, 0, 0), (.iaload, 1, 0, 2, 0), (.aload_n 0, 1, 0, 0, 0), (.iload_n 3, 1, 0, 0, 0), (.iconst 2, 1, 0, 0, 0), (.iadd, 1, 0, 0, 0), (.iaload, 1, 0, 8, 0), (.invokevirtual 48, 3, 3, 9, 0), (.nop, 0, 0, 0, 0), (.nop, 0, 0, 0, 0), (.aload_n 2, 1, 0, 0, 0), (.aload_n 0, 1, 0, 0, 0), (.iload_n 3, 1, 0, 0, 0), (.iconst 1, 1, 0, 0, 0), (.iadd, 1, 0, 0, 0), (.iaload, 1, 0, 2, 0), (.aload_n 0, 1, 0, 0, 0), (.iload_n 3, 1, 0, 0, 0), (.iconst 2, 1, 0, 0, 0), (.iadd, 1, 0, 0, 0), (.iaload, 1, 0, 8, 0), (.invokevirtual 51, 3, 31, 10, 0), (.nop, 0, 0, 0, 0), (.nop, 0, 0, 0, 0), (.if_icmp .eq 552, 3, 0, 0, 0), (.nop, 0, 0, 0, 0)],
    [(.nop, 0, 0, 0, 0), (.nop, 0, 0, 0, 0), (.nop, 0, 0, 0, 0), (.aload_n 1, 1, 0, 0, 0), (.aload_n 0, 1, 0, 0, 0), (.iload_n 3, 1, 0, 0, 0), (.iconst 1, 1, 0, 0, 0), (.iadd, 1, 0, 0, 0), (.iaload, 1, 0, 2, 0), (.aload_n 0, 1, 0, 0, 0), (.iload_n 3, 1, 0, 0, 0), (.iconst 2, 1, 0, 0, 0), (.iadd, 1, 0, 0, 0), (.iaload, 1, 0, 8, 0), (.invokevirtual 52, 3, 11, 9, 0), (.nop, 0, 0, 0, 0), (.nop, 0, 0, 0, 0), (.aload_n 2, 1, 0, 0, 0), (.aload_n 0, 1, 0, 0, 0), (.iload_n 3, 1, 0, 0, 0), (.iconst 1, 1, 0, 0, 0), (.iadd, 1, 0, 0, 0), (.iaload, 1, 0, 2, 0), (.aload_n 0, 1, 0, 0, 0), (.iload_n 3, 1, 0, 0, 0), (.iconst 2, 1, 0, 0, 0), (.iadd, 1, 0, 0, 0), (.iaload, 1, 0, 8, 0), (.invokevirtual 55, 3, 41, 10, 0), (.nop, 0, 0, 0, 0), (.nop, 0, 0, 0, 0), (.if_icmp .eq 519, 3, 0, 0, 0)],
    [(.nop, 0, 0, 0, 0), (.nop, 0, 0, 0, 0), (.nop, 0, 0, 0, 0), (.nop, 0, 0, 0, 0), (.aload_n 1, 1, 0, 0, 0), (.aload_n 0, 1, 0, 0, 0), (.iload_n 3, 1, 0, 0, 0), (.iconst 1, 1, 0, 0, 0), (.iadd, 1, 0, 0, 0), (.iaload, 1, 0, 7, 0), (.aload_n 0, 1, 0, 0, 0), (.iload_n 3, 1, 0, 0, 0), (.iconst 2, 1, 0, 0, 0), (.iadd, 1, 0, 0, 0), (.iaload, 1, 0, 0, 0), (.invokevirtual 56, 3, 5, 9, 0), (.nop, 0, 0, 0, 0), (.nop, 0, 0, 0, 0), (.aload_n 2, 1, 0, 0, 0), (.aload_n 0, 1, 0, 0, 0), (.iload_n 3, 1, 0, 0, 0), (.iconst 1, 1, 0, 0, 0), (.iadd, 1, 0, 0, 0), (.iaload, 1, 0, 7, 0), (.aload_n 0, 1, 0, 0, 0), (.iload_n 3, 1, 0, 0, 0), (.iconst 2, 1, 0, 0, 0), (.iadd, 1, 0, 0, 0), (.iaload, 1, 0, 0, 0), (.invokevirtual 59, 3, 33, 10, 0), (.nop, 0, 0, 0, 0), (.nop, 0, 0, 0, 0)],
    [(.if_icmp .eq 486, 3, 0, 0, 0), (.nop, 0, 0, 0, 0), (.nop, 0, 0, 0, 0), (.nop, 0, 0, 0, 0), (.nop, 0, 0, 0, 0), (.aload_n 1, 1, 0, 0, 0), (.aload_n 0, 1, 0, 0, 0), (.iload_n 3, 1, 0, 0, 0), (.iconst 1, 1, 0, 0, 0), (.iadd, 1, 0, 0, 0), (.iaload, 1, 0, 7, 0), (.invokevirtual 60, 3, 4, 9, 0), (.nop, 0, 0, 0, 0), (.nop, 0, 0, 0, 0), (.aload_n 2, 1, 0, 0, 0), (.aload_n 0, 1, 0, 0, 0), (.iload_n 3, 1, 0, 0, 0), (.iconst 1, 1, 0, 0, 0), (.iadd, 1, 0, 0, 0), (.iaload, 1, 0, 7, 0), (.invokevirtual 63, 3, 32, 10, 0), (.nop, 0, 0, 0, 0), (.nop, 0, 0, 0, 0), (.if_icmp .eq 463, 3, 0, 0, 0), (.nop, 0, 0, 0, 0), (.nop, 0, 0, 0, 0), (.nop, 0, 0, 0, 0), (.nop, 0, 0, 0, 0), (.aload_n 1, 1, 0, 0, 0), (.aload_n 0, 1, 0, 0, 0), (.iload_n 3, 1, 0, 0, 0), (.iconst 1, 1, 0, 0, 0)],
    [(.iadd, 1, 0, 0, 0), (.iaload, 1, 0, 7, 0), (.invokevirtual 64, 3, 6, 9, 0), (.nop, 0, 0, 0, 0), (.nop, 0, 0, 0, 0), (.aload_n 2, 1, 0, 0, 0), (.aload_n 0, 1, 0, 0, 0), (.iload_n 3, 1, 0, 0, 0), (.iconst 1, 1, 0, 0, 0), (.iadd, 1, 0, 0, 0), (.iaload, 1, 0, 7, 0), (.invokevirtual 67, 3, 34, 10, 0), (.nop, 0, 0, 0, 0), (.nop, 0, 0, 0, 0), (.if_icmp .eq 440, 3, 0, 0, 0), (.nop, 0, 0, 0, 0), (.nop, 0, 0, 0, 0), (.nop, 0, 0, 0, 0), (.nop, 0, 0, 0, 0), (.aload_n 1, 1, 0, 0, 0), (.aload_n 0, 1, 0, 0, 0), (.iload_n 3, 1, 0, 0, 0), (.iconst 1, 1, 0, 0, 0), (.iadd, 1, 0, 0, 0), (.iaload, 1, 0, 7, 0), (.aload_n 0, 1, 0, 0, 0), (.iload_n 3, 1, 0, 0, 0), (.iconst 2, 1, 0, 0, 0), (.iadd, 1, 0, 0, 0), (.iaload, 1, 0, 0, 0), (.aload_n 0, 1, 0, 0, 0), (.iload_n 3, 1, 0, 0, 0)],
    [(.iconst 3, 1, 0, 0, 0), (.iadd, 1, 0, 0, 0), (.iaload, 1, 0, 0, 0), (.invokevirtual 68, 3, 27, 9, 0), (.nop, 0, 0, 0, 0), (.nop, 0, 0, 0, 0), (.aload_n 2, 1, 0, 0, 0), (.aload_n 0, 1, 0, 0, 0), (.iload_n 3, 1, 0, 0, 0), (.iconst 1, 1, 0, 0, 0), (.iadd, 1, 0, 0, 0), (.iaload, 1, 0, 7, 0), (.aload_n 0, 1, 0, 0, 0), (.iload_n 3, 1, 0, 0, 0), (.iconst 2, 1, 0, 0, 0), (.iadd, 1, 0, 0, 0), (.iaload, 1, 0, 0, 0), (.aload_n 0, 1, 0, 0, 0), (.iload_n 3, 1, 0, 0, 0), (.iconst 3, 1, 0, 0, 0), (.iadd, 1, 0, 0, 0), (.iaload, 1, 0, 0, 0), (.invokevirtual 72, 3, 64, 10, 0), (.nop, 0, 0, 0, 0), (.nop, 0, 0, 0, 0), (.if_icmp .eq 397, 3, 0, 0, 0), (.nop, 0, 0, 0, 0), (.nop, 0, 0, 0, 0), (.nop, 0, 0, 0, 0), (.nop, 0, 0, 0, 0), (.aload_n 1, 1, 0, 0, 0), (.aload_n 0, 1, 0, 0, 0)],
    [(.iload_n 3, 1, 0, 0, 0), (.iconst 1, 1, 0, 0, 0), (.iadd, 1, 0, 0, 0), (.iaload, 1, 0, 7, 0), (.aload_n 0, 1, 0, 0, 0), (.iload_n 3, 1, 0, 0, 0), (.iconst 2, 1, 0, 0, 0), (.iadd, 1, 0, 0, 0), (.iaload, 1, 0, 0, 0), (.invokevirtual 73, 3, 16, 9, 0), (.nop, 0, 0, 0, 0), (.nop, 0, 0, 0, 0), (.aload_n 2, 1, 0, 0, 0), (.aload_n 0, 1, 0, 0, 0), (.iload_n 3, 1, 0, 0, 0), (.iconst 1, 1, 0, 0, 0), (.iadd, 1, 0, 0, 0), (.iaload, 1, 0, 7, 0), (.aload_n 0, 1, 0, 0, 0), (.iload_n 3, 1, 0, 0, 0), (.iconst 2, 1, 0, 0, 0), (.iadd, 1, 0, 0, 0), (.iaload, 1, 0, 0, 0), (.invokevirtual 76, 3, 49, 10, 0), (.nop, 0, 0, 0, 0), (.nop, 0, 0, 0, 0), (.if_icmp .eq 364, 3, 0, 0, 0), (.nop, 0, 0, 0, 0), (.nop, 0, 0, 0, 0), (.nop, 0, 0, 0, 0), (.nop, 0, 0, 0, 0), (.aload_n 1, 1, 0, 0, 0)],
    [(.aload_n 0, 1, 0, 0, 0), (.iload_n 3, 1, 0, 0, 0), (.iconst 1, 1, 0, 0, 0), (.iadd, 1, 0, 0, 0), (.iaload, 1, 0, 2, 0), (.aload_n 0, 1, 0, 0, 0), (.iload_n 3, 1, 0, 0, 0), (.iconst 2, 1, 0, 0, 0), (.iadd, 1, 0, 0, 0), (.iaload, 1, 0, 0, 0), (.i2l, 1, 0, 0, 0), (.bipush 32, 2, 0, 0, 0), (.nop, 0, 0, 0, 0), (.lshl, 1, 0, 0, 0), (.aload_n 0, 1, 0, 0, 0), (.iload_n 3, 1, 0, 0, 0), (.iconst 3, 1, 0, 0, 0), (.iadd, 1, 0, 0, 0), (.iaload, 1, 0, 0, 0), (.i2l, 1, 0, 0, 0), (.ldc2_w 77, 3, 0, 0, 4294967295), (.nop, 0, 0, 0, 0), (.nop, 0, 0, 0, 0), (.land, 1, 0, 0, 0), (.lor, 1, 0, 0, 0), (.invokevirtual 79, 3, 10, 9, 0), (.nop, 0, 0, 0, 0), (.nop, 0, 0, 0, 0), (.aload_n 2, 1, 0, 0, 0), (.aload_n 0, 1, 0, 0, 0), (.iload_n 3, 1, 0, 0, 0), (.iconst 1, 1, 0, 0, 0)],
    [(.iadd, 1, 0, 0, 0), (.iaload, 1, 0, 2, 0), (.aload_n 0, 1, 0, 0, 0), (.iload_n 3, 1, 0, 0, 0), (.iconst 2, 1, 0, 0, 0), (.iadd, 1, 0, 0, 0), (.iaload, 1, 0, 0, 0), (.i2l, 1, 0, 0, 0), (.bipush 32, 2, 0, 0, 0), (.nop, 0, 0, 0, 0), (.lshl, 1, 0, 0, 0), (.aload_n 0, 1, 0, 0, 0), (.iload_n 3, 1, 0, 0, 0), (.iconst 3, 1, 0, 0, 0), (.iadd, 1, 0, 0, 0), (.iaload, 1, 0, 0, 0), (.i2l, 1, 0, 0, 0), (.ldc2_w 77, 3, 0, 0, 4294967295), (.nop, 0, 0, 0, 0), (.nop, 0, 0, 0, 0), (.land, 1, 0, 0, 0), (.lor, 1, 0, 0, 0), (.invokevirtual 83, 3, 40, 10, 0), (.nop, 0, 0, 0, 0), (.nop, 0, 0, 0, 0), (.if_icmp .eq 301, 3, 0, 0, 0), (.nop, 0, 0, 0, 0), (.nop, 0, 0, 0, 0), (.nop, 0, 0, 0, 0), (.nop, 0, 0, 0, 0), (.aload_n 1, 1, 0, 0, 0), (.aload_n 0, 1, 0, 0, 0)],
    [(.iload_n 3, 1, 0, 0, 0), (.iconst 1, 1, 0, 0, 0), (.iadd, 1, 0, 0, 0), (.iaload, 1, 0, 2, 0), (.aload_n 0, 1, 0, 0, 0), (.iload_n 3, 1, 0, 0, 0), (.iconst 2, 1, 0, 0, 0), (.iadd, 1, 0, 0, 0), (.iaload, 1, 0, 3, 0), (.invokevirtual 84, 3, 28, 9, 0), (.nop, 0, 0, 0, 0), (.nop, 0, 0, 0, 0), (.aload_n 2, 1, 0, 0, 0), (.aload_n 0, 1, 0, 0, 0), (.iload_n 3, 1, 0, 0, 0), (.iconst 1, 1, 0, 0, 0), (.iadd, 1, 0, 0, 0), (.iaload, 1, 0, 2, 0), (.aload_n 0, 1, 0, 0, 0), (.iload_n 3, 1, 0, 0, 0), (.iconst 2, 1, 0, 0, 0), (.iadd, 1, 0, 0, 0), (.iaload, 1, 0, 3, 0), (.invokevirtual 87, 3, 68, 10, 0), (.nop, 0, 0, 0, 0), (.nop, 0, 0, 0, 0), (.if_icmp .eq 268, 3, 0, 0, 0), (.nop, 0, 0, 0, 0), (.nop, 0, 0, 0, 0), (.nop, 0, 0, 0, 0), (.nop, 0, 0, 0, 0), (.aload_n 1, 1, 0, 0, 0)],
    [(.aload_n 0, 1, 0, 0, 0), (.iload_n 3, 1, 0, 0, 0), (.iconst 1, 1, 0, 0, 0), (.iadd, 1, 0, 0, 0), (.iaload, 1, 0, 2, 0), (.aload_n 0, 1, 0, 0, 0), (.iload_n 3, 1, 0, 0, 0), (.iconst 2, 1, 0, 0, 0), (.iadd, 1, 0, 0, 0), (.iaload, 1, 0, 3, 0), (.invokevirtual 88, 3, 18, 9, 0), (.nop, 0, 0, 0, 0), (.nop, 0, 0, 0, 0), (.aload_n 2, 1, 0, 0, 0), (.aload_n 0, 1, 0, 0, 0), (.iload_n 3, 1, 0, 0, 0), (.iconst 1, 1, 0, 0, 0), (.iadd, 1, 0, 0, 0), (.iaload, 1, 0, 2, 0), (.aload_n 0, 1, 0, 0, 0), (.iload_n 3, 1, 0, 0, 0), (.iconst 2, 1, 0, 0, 0), (.iadd, 1, 0, 0, 0), (.iaload, 1, 0, 3, 0), (.invokevirtual 92, 3, 53, 10, 0), (.nop, 0, 0, 0, 0), (.nop, 0, 0, 0, 0), (.lcmp, 1, 0, 0, 0), (.ifCond .eq 234, 3, 0, 0, 0), (.nop, 0, 0, 0, 0), (.nop, 0, 0, 0, 0), (.nop, 0, 0, 0, 0)],
    [(.nop, 0, 0, 0, 0), (.aload_n 1, 1, 0, 0, 0), (.aload_n 0, 1, 0, 0, 0), (.iload_n 3, 1, 0, 0, 0), (.iconst 1, 1, 0, 0, 0), (.iadd, 1, 0, 0, 0), (.iaload, 1, 0, 2, 0), (.aload_n 0, 1, 0, 0, 0), (.iload_n 3, 1, 0, 0, 0), (.iconst 2, 1, 0, 0, 0), (.iadd, 1, 0, 0, 0), (.iaload, 1, 0, 8, 0), (.aload_n 0, 1, 0, 0, 0), (.iload_n 3, 1, 0, 0, 0), (.iconst 3, 1, 0, 0, 0), (.iadd, 1, 0, 0, 0), (.iaload, 1, 0, 4, 0), (.aload_n 0, 1, 0, 0, 0), (.iload_n 3, 1, 0, 0, 0), (.iconst 4, 1, 0, 0, 0), (.iadd, 1, 0, 0, 0), (.iaload, 1, 0, 5, 0), (.invokevirtual 93, 3, 26, 9, 0), (.nop, 0, 0, 0, 0), (.nop, 0, 0, 0, 0), (.aload_n 2, 1, 0, 0, 0), (.aload_n 0, 1, 0, 0, 0), (.iload_n 3, 1, 0, 0, 0), (.iconst 1, 1, 0, 0, 0), (.iadd, 1, 0, 0, 0), (.iaload, 1, 0, 2, 0), (.aload_n 0, 1, 0, 0, 0)],
    [(.iload_n 3, 1, 0, 0, 0), (.iconst 2, 1, 0, 0, 0), (.iadd, 1, 0, 0, 0), (.iaload, 1, 0, 8, 0), (.aload_n 0, 1, 0, 0, 0), (.iload_n 3, 1, 0, 0, 0), (.iconst 3, 1, 0, 0, 0), (.iadd, 1, 0, 0, 0), (.iaload, 1, 0, 4, 0), (.aload_n 0, 1, 0, 0, 0), (.iload_n 3, 1, 0, 0, 0), (.iconst 4, 1, 0, 0, 0), (.iadd, 1, 0, 0, 0), (.iaload, 1, 0, 5, 0), (.invokevirtual 97, 3, 61, 10, 0), (.nop, 0, 0, 0, 0), (.nop, 0, 0, 0, 0), (.if_icmp .eq 181, 3, 0, 0, 0), (.nop, 0, 0, 0, 0), (.nop, 0, 0, 0, 0), (.nop, 0, 0, 0, 0), (.nop, 0, 0, 0, 0), (.aload_n 1, 1, 0, 0, 0), (.aload_n 0, 1, 0, 0, 0), (.iload_n 3, 1, 0, 0, 0), (.iconst 1, 1, 0, 0, 0), (.iadd, 1, 0, 0, 0), (.iaload, 1, 0, 2, 0), (.aload_n 0, 1, 0, 0, 0), (.iload_n 3, 1, 0, 0, 0), (.iconst 2, 1, 0, 0, 0), (.iadd, 1, 0, 0, 0)],
    [(.iaload, 1, 0, 8, 0), (.aload_n 0, 1, 0, 0, 0), (.iload_n 3, 1, 0, 0, 0), (.iconst 3, 1, 0, 0, 0), (.iadd, 1, 0, 0, 0), (.iaload, 1, 0, 10, 0), (.aload_n 0, 1, 0, 0, 0), (.iload_n 3, 1, 0, 0, 0), (.iconst 4, 1, 0, 0, 0), (.iadd, 1, 0, 0, 0), (.iaload, 1, 0, 0, 0), (.invokevirtual 98, 3, 13, 9, 0), (.nop, 0, 0, 0, 0), (.nop, 0, 0, 0, 0), (.aload_n 2, 1, 0, 0, 0), (.aload_n 0, 1, 0, 0, 0), (.iload_n 3, 1, 0, 0, 0), (.iconst 1, 1, 0, 0, 0), (.iadd, 1, 0, 0, 0), (.iaload, 1, 0, 2, 0), (.aload_n 0, 1, 0, 0, 0), (.iload_n 3, 1, 0, 0, 0), (.iconst 2, 1, 0, 0, 0), (.iadd, 1, 0, 0, 0), (.iaload, 1, 0, 8, 0), (.aload_n 0, 1, 0, 0, 0), (.iload_n 3, 1, 0, 0, 0), (.iconst 3, 1, 0, 0, 0), (.iadd, 1, 0, 0, 0), (.iaload, 1, 0, 10, 0), (.aload_n 0, 1, 0, 0, 0), (.iload_n 3, 1, 0, 0, 0)],
    [(.iconst 4, 1, 0, 0, 0), (.iadd, 1, 0, 0, 0), (.iaload, 1, 0, 0, 0), (.invokevirtual 102, 3, 43, 10, 0), (.nop, 0, 0, 0, 0), (.nop, 0, 0, 0, 0), (.lcmp, 1, 0, 0, 0), (.ifCond .eq 127, 3, 0, 0, 0), (.nop, 0, 0, 0, 0), (.nop, 0, 0, 0, 0), (.nop, 0, 0, 0, 0), (.nop, 0, 0, 0, 0), (.aload_n 1, 1, 0, 0, 0), (.aload_n 0, 1, 0, 0, 0), (.iload_n 3, 1, 0, 0, 0), (.iconst 1, 1, 0, 0, 0), (.iadd, 1, 0, 0, 0), (.iaload, 1, 0, 2, 0), (.aload_n 0, 1, 0, 0, 0), (.iload_n 3, 1, 0, 0, 0), (.iconst 2, 1, 0, 0, 0), (.iadd, 1, 0, 0, 0), (.iaload, 1, 0, 8, 0), (.aload_n 0, 1, 0, 0, 0), (.iload_n 3, 1, 0, 0, 0), (.iconst 3, 1, 0, 0, 0), (.iadd, 1, 0, 0, 0), (.iaload, 1, 0, 10, 0), (.aload_n 0, 1, 0, 0, 0), (.iload_n 3, 1, 0, 0, 0), (.iconst 4, 1, 0, 0, 0), (.iadd, 1, 0, 0, 0)],
    [(.iaload, 1, 0, 10, 0), (.invokevirtual 103, 3, 25, 9, 0), (.nop, 0, 0, 0, 0), (.nop, 0, 0, 0, 0), (.aload_n 2, 1, 0, 0, 0), (.aload_n 0, 1, 0, 0, 0), (.iload_n 3, 1, 0, 0, 0), (.iconst 1, 1, 0, 0, 0), (.iadd, 1, 0, 0, 0), (.iaload, 1, 0, 2, 0), (.aload_n 0, 1, 0, 0, 0), (.iload_n 3, 1, 0, 0, 0), (.iconst 2, 1, 0, 0, 0), (.iadd, 1, 0, 0, 0), (.iaload, 1, 0, 8, 0), (.aload_n 0, 1, 0, 0, 0), (.iload_n 3, 1, 0, 0, 0), (.iconst 3, 1, 0, 0, 0), (.iadd, 1, 0, 0, 0), (.iaload, 1, 0, 10, 0), (.aload_n 0, 1, 0, 0, 0), (.iload_n 3, 1, 0, 0, 0), (.iconst 4, 1, 0, 0, 0), (.iadd, 1, 0, 0, 0), (.iaload, 1, 0, 10, 0), (.invokevirtual 106, 3, 60, 10, 0), (.nop, 0, 0, 0, 0), (.nop, 0, 0, 0, 0), (.if_icmp .eq 74, 3, 0, 0, 0), (.nop, 0, 0, 0, 0), (.nop, 0, 0, 0, 0), (.nop, 0, 0, 0, 0)],
    [(.nop, 0, 0, 0, 0), (.aload_n 1, 1, 0, 0, 0), (.aload_n 0, 1, 0, 0, 0), (.iload_n 3, 1, 0, 0, 0), (.iconst 1, 1, 0, 0, 0), (.iadd, 1, 0, 0, 0), (.iaload, 1, 0, 2, 0), (.invokevirtual 107, 3, 17, 9, 0), (.nop, 0, 0, 0, 0), (.nop, 0, 0, 0, 0), (.aload_n 2, 1, 0, 0, 0), (.aload_n 0, 1, 0, 0, 0), (.iload_n 3, 1, 0, 0, 0), (.iconst 1, 1, 0, 0, 0), (.iadd, 1, 0, 0, 0), (.iaload, 1, 0, 2, 0), (.invokevirtual 110, 3, 50, 10, 0), (.nop, 0, 0, 0, 0), (.nop, 0, 0, 0, 0), (.if_icmp .eq 51, 3, 0, 0, 0), (.nop, 0, 0, 0, 0), (.nop, 0, 0, 0, 0), (.nop, 0, 0, 0, 0), (.nop, 0, 0, 0, 0), (.aload_n 1, 1, 0, 0, 0), (.aload_n 0, 1, 0, 0, 0), (.iload_n 3, 1, 0, 0, 0), (.iconst 1, 1, 0, 0, 0), (.iadd, 1, 0, 0, 0), (.iaload, 1, 0, 7, 0), (.invokevirtual 111, 3, 22, 9, 0), (.nop, 0, 0, 0, 0)],
    [(.nop, 0, 0, 0, 0), (.aload_n 2, 1, 0, 0, 0), (.aload_n 0, 1, 0, 0, 0), (.iload_n 3, 1, 0, 0, 0), (.iconst 1, 1, 0, 0, 0), (.iadd, 1, 0, 0, 0), (.iaload, 1, 0, 7, 0), (.invokevirtual 114, 3, 57, 10, 0), (.nop, 0, 0, 0, 0), (.nop, 0, 0, 0, 0), (.if_icmp .eq 28, 3, 0, 0, 0), (.nop, 0, 0, 0, 0), (.nop, 0, 0, 0, 0), (.nop, 0, 0, 0, 0), (.nop, 0, 0, 0, 0), (.aload_n 1, 1, 0, 0, 0), (.aload_n 0, 1, 0, 0, 0), (.iload_n 3, 1, 0, 0, 0), (.iconst 1, 1, 0, 0, 0), (.iadd, 1, 0, 0, 0), (.iaload, 1, 0, 9, 0), (.invokevirtual 115, 3, 7, 9, 0), (.nop, 0, 0, 0, 0), (.nop, 0, 0, 0, 0), (.aload_n 2, 1, 0, 0, 0), (.aload_n 0, 1, 0, 0, 0), (.iload_n 3, 1, 0, 0, 0), (.iconst 1, 1, 0, 0, 0), (.iadd, 1, 0, 0, 0), (.iaload, 1, 0, 9, 0), (.invokevirtual 118, 3, 35, 10, 0), (.nop, 0, 0, 0, 0)],
    [(.nop, 0, 0, 0, 0), (.if_icmp .eq 5, 3, 0, 0, 0), (.nop, 0, 0, 0, 0), (.nop, 0, 0, 0, 0), (.nop, 0, 0, 0, 0), (.nop, 0, 0, 0, 0), (.iinc 3 6, 3, 0, 0, 0), (.nop, 0, 0, 0, 0), (.nop, 0, 0, 0, 0), (.goto (-899), 3, 0, 0, 0), (.nop, 0, 0, 0, 0), (.nop, 0, 0, 0, 0), (.iconst 1, 1, 0, 0, 0), (.ireturn, 1, 0, 0, 0)]], 0, 1, 6, 152, 600000, 7302249)
end
section
def ev_pg : List ev_M := [mi_L_cell, mi_X0_init, mi_X10_arePair, mi_X10_begin, mi_X10_byteOf, mi_X10_come, mi_X10_copy, mi_X10_count, mi_X10_end, mi_X10_feed, mi_X10_forge, mi_X10_forget, mi_X10_init, mi_X10_inside, mi_X10_isLetter, mi_X10_isUser, mi_X10_letter, mi_X10_look, mi_X10_number, mi_X10_oneIf, mi_X10_publish, mi_X10_putOnTape, mi_X10_readable, mi_X10_register, mi_X10_rotate, mi_X10_same, mi_X10_session, mi_X10_spoil, mi_X10_user, mi_X10_write, mi_X11_asSecret, mi_X11_begin, mi_X11_byteOf, mi_X11_come, mi_X11_copy, mi_X11_count, mi_X11_draw, mi_X11_drawTerm, mi_X11_end, mi_X11_feed, mi_X11_forge, mi_X11_forget, mi_X11_init, mi_X11_inside, mi_X11_isLetter, mi_X11_isThere, mi_X11_keptSecrets, mi_X11_leastOnce, mi_X11_lend, mi_X11_letter, mi_X11_look, mi_X11_mix, mi_X11_modQ, mi_X11_number, mi_X11_onceInDirectory, mi_X11_power, mi_X11_publish, mi_X11_readable, mi_X11_register, mi_X11_rotate, mi_X11_same, mi_X11_session, mi_X11_sessionsOf, mi_X11_slotOf, mi_X11_spoil, mi_X11_term, mi_X11_times, mi_X11_timesQ, mi_X11_user, mi_X11_write, mi_X3_isOpen, mi_X3_mix, mi_X3_power, mi_X3_rest, mi_X3_sealProof, mi_X3_sealSum, mi_X3_secretOf, mi_X3_times, mi_X3_timesModuloQ, mi_X4_init, mi_X5_drawSecret, mi_X5_enrol, mi_X5_giveAway, mi_X5_init, mi_X5_isRegistered, mi_X5_leastOnce, mi_X5_makeLentKey, mi_X5_onceSecretsKept, mi_X5_onceThere, mi_X5_sessionsInAll, mi_X6_at, mi_X6_giveAway, mi_X6_init, mi_X6_retireAll, mi_X7_give, mi_X7_init, mi_X9_giveRoot, mi_X9_init]
def nd_L_cell : ev_N := [(50002, 1000, .initialized "RatchetPostLaw"), (50003, 4218, .static ⟨"RatchetPostLaw", "cell", "([II)I"⟩)]
def nd_X0_init : ev_N := [(50002, 1002, .initialized "RatchetPost$Envelope"), (50004, 1027, .instanceMethod ⟨"RatchetPost$Envelope", "<init>", "()V"⟩), (3, 1029, .methodLink "RatchetPost$Envelope" 3 objectInit), (50006, 1020, .instanceMethod objectInit), (50007, 1021, .code objectInit ⟨#[0xb1]⟩ 1 none), (40000, 1091, .arrayClass .int), (9, 1030, .fieldLink "RatchetPost$Envelope" 9 "RatchetPost$Envelope" "bytes" "[I")]
def nd_X10_arePair : ev_N := [(50002, 1001, .initialized "RatchetPost"), (50004, 2183, .instanceMethod ⟨"RatchetPost", "arePair", "(II)Z"⟩), (50005, 2, .selects "RatchetPost" ⟨"RatchetPost", "arePair", "(II)Z"⟩ ⟨"RatchetPost", "arePair", "(II)Z"⟩), (76, 2075, .methodLink "RatchetPost" 76 ⟨"RatchetPost", "isUser", "(I)Z"⟩)]
def nd_X10_begin : ev_N := [(50002, 1001, .initialized "RatchetPost"), (50004, 3194, .instanceMethod ⟨"RatchetPost", "begin", "(II)I"⟩), (50005, 3195, .selects "RatchetPost" ⟨"RatchetPost", "begin", "(II)I"⟩ ⟨"RatchetPost", "begin", "(II)I"⟩), (103, 2181, .methodLink "RatchetPost" 103 ⟨"RatchetPost", "arePair", "(II)Z"⟩), (58, 2013, .fieldLink "RatchetPost" 58 "RatchetPost" "people" "[LRatchetPost$Person;"), (80, 2079, .methodLink "RatchetPost" 80 ⟨"RatchetPost$Person", "isRegistered", "()Z"⟩)]
def nd_X10_byteOf : ev_N := [(50002, 1001, .initialized "RatchetPost"), (50004, 4099, .instanceMethod ⟨"RatchetPost", "byteOf", "(I)I"⟩), (50005, 4100, .selects "RatchetPost" ⟨"RatchetPost", "byteOf", "(I)I"⟩ ⟨"RatchetPost", "byteOf", "(I)I"⟩), (157, 2024, .fieldLink "RatchetPost" 157 "RatchetPost" "readingSize" "I")]
def nd_X10_come : ev_N := [(50002, 1001, .initialized "RatchetPost"), (50004, 3206, .instanceMethod ⟨"RatchetPost", "come", "(II)I"⟩), (50005, 3207, .selects "RatchetPost" ⟨"RatchetPost", "come", "(II)I"⟩ ⟨"RatchetPost", "come", "(II)I"⟩), (133, 3209, .methodLink "RatchetPost" 133 ⟨"RatchetPost", "isLetter", "(I)Z"⟩)]
def nd_X10_copy : ev_N := [(50002, 1001, .initialized "RatchetPost"), (50004, 4103, .instanceMethod ⟨"RatchetPost", "copy", "(I)I"⟩), (50005, 4104, .selects "RatchetPost" ⟨"RatchetPost", "copy", "(I)I"⟩ ⟨"RatchetPost", "copy", "(I)I"⟩), (133, 3209, .methodLink "RatchetPost" 133 ⟨"RatchetPost", "isLetter", "(I)Z"⟩)]
def nd_X10_count : ev_N := [(50002, 1001, .initialized "RatchetPost"), (50004, 4214, .instanceMethod ⟨"RatchetPost", "count", "(I)I"⟩), (50005, 4215, .selects "RatchetPost" ⟨"RatchetPost", "count", "(I)I"⟩ ⟨"RatchetPost", "count", "(I)I"⟩), (107, 2015, .fieldLink "RatchetPost" 107 "RatchetPost" "letterCount" "I"), (164, 2016, .fieldLink "RatchetPost" 164 "RatchetPost" "copyCount" "I"), (268, 2020, .fieldLink "RatchetPost" 268 "RatchetPost" "lookCount" "I"), (157, 2024, .fieldLink "RatchetPost" 157 "RatchetPost" "readingSize" "I"), (68, 2022, .fieldLink "RatchetPost" 68 "RatchetPost" "tapeSize" "I")]
def nd_X10_end : ev_N := [(50002, 1001, .initialized "RatchetPost"), (50004, 2068, .instanceMethod ⟨"RatchetPost", "end", "(I)I"⟩), (50005, 2069, .selects "RatchetPost" ⟨"RatchetPost", "end", "(I)I"⟩ ⟨"RatchetPost", "end", "(I)I"⟩), (68, 2022, .fieldLink "RatchetPost" 68 "RatchetPost" "tapeSize" "I")]
def nd_X10_feed : ev_N := [(50002, 1001, .initialized "RatchetPost"), (50004, 2060, .instanceMethod ⟨"RatchetPost", "feed", "(IIIII)I"⟩), (50005, 2061, .selects "RatchetPost" ⟨"RatchetPost", "feed", "(IIIII)I"⟩ ⟨"RatchetPost", "feed", "(IIIII)I"⟩), (68, 2022, .fieldLink "RatchetPost" 68 "RatchetPost" "tapeSize" "I"), (72, 2063, .methodLink "RatchetPost" 72 ⟨"RatchetPost", "putOnTape", "(I)V"⟩)]
def nd_X10_forge : ev_N := [(50002, 1001, .initialized "RatchetPost"), (50004, 4122, .instanceMethod ⟨"RatchetPost", "forge", "(IJ)I"⟩), (50005, 4123, .selects "RatchetPost" ⟨"RatchetPost", "forge", "(IJ)I"⟩ ⟨"RatchetPost", "forge", "(IJ)I"⟩), (76, 2075, .methodLink "RatchetPost" 76 ⟨"RatchetPost", "isUser", "(I)Z"⟩), (58, 2013, .fieldLink "RatchetPost" 58 "RatchetPost" "people" "[LRatchetPost$Person;"), (80, 2079, .methodLink "RatchetPost" 80 ⟨"RatchetPost$Person", "isRegistered", "()Z"⟩)]
def nd_X10_forget : ev_N := [(50002, 1001, .initialized "RatchetPost"), (50004, 3198, .instanceMethod ⟨"RatchetPost", "forget", "(II)I"⟩), (50005, 3199, .selects "RatchetPost" ⟨"RatchetPost", "forget", "(II)I"⟩ ⟨"RatchetPost", "forget", "(II)I"⟩), (103, 2181, .methodLink "RatchetPost" 103 ⟨"RatchetPost", "arePair", "(II)Z"⟩), (58, 2013, .fieldLink "RatchetPost" 58 "RatchetPost" "people" "[LRatchetPost$Person;"), (110, 1210, .fieldLink "RatchetPost" 110 "RatchetPost$Person" "rows" "[LRatchetPost$Row;"), (130, 3201, .methodLink "RatchetPost" 130 ⟨"RatchetPost$Row", "retireAll", "()I"⟩)]
def nd_X10_init : ev_N := [(50002, 1001, .initialized "RatchetPost"), (50004, 1017, .instanceMethod ⟨"RatchetPost", "<init>", "(II)V"⟩), (1, 1019, .methodLink "RatchetPost" 1 objectInit), (50006, 1020, .instanceMethod objectInit), (50007, 1021, .code objectInit ⟨#[0xb1]⟩ 1 none), (9, 1022, .classLink "RatchetPost" 9 "RatchetPost$Letter"), (11, 2014, .fieldLink "RatchetPost" 11 "RatchetPost" "letters" "[LRatchetPost$Letter;"), (40000, 1091, .arrayClass .int), (15, 2021, .fieldLink "RatchetPost" 15 "RatchetPost" "tape" "[I"), (19, 2023, .fieldLink "RatchetPost" 19 "RatchetPost" "reading" "[I"), (22, 1024, .classLink "RatchetPost" 22 "RatchetPost$Envelope"), (30000, 1002, .initialized "RatchetPost$Envelope"), (20000, 1025, .instantiable "RatchetPost$Envelope" 16), (24, 1026, .methodLinkNest "RatchetPost" 24 ⟨"RatchetPost$Envelope", "<init>", "()V"⟩ "RatchetPost"), (25, 2025, .fieldLink "RatchetPost" 25 "RatchetPost" "envelope" "LRatchetPost$Envelope;"), (29, 1092, .classLink "RatchetPost" 29 "RatchetPost$Opening"), (30003, 1003, .initialized "RatchetPost$Opening"), (20003, 1093, .instantiable "RatchetPost$Opening" 8), (31, 1094, .methodLinkNest "RatchetPost" 31 ⟨"RatchetPost$Opening", "<init>", "()V"⟩ "RatchetPost"), (32, 2026, .fieldLink "RatchetPost" 32 "RatchetPost" "opening" "LRatchetPost$Opening;"), (36, 1125, .classLink "RatchetPost" 36 "RatchetPost$Turn"), (30008, 1004, .initialized "RatchetPost$Turn"), (20008, 1126, .instantiable "RatchetPost$Turn" 7), (38, 1127, .classLink "RatchetPost" 38 "RatchetPost$Secret"), (40, 1129, .methodLink "RatchetPost" 40 ⟨"RatchetPost$Turn", "<init>", "(LRatchetPost$Turn;[LRatchetPost$Secret;)V"⟩), (43, 2027, .fieldLink "RatchetPost" 43 "RatchetPost" "noTurn" "LRatchetPost$Turn;"), (47, 1157, .methodLink "RatchetPost" 47 Lib.Math.min.name), (50009, 1158, .static Lib.Math.min.name), (50010, 1005, .initialized "java/lang/Math"), (50012, 1159, .code Lib.Math.min.name Lib.Math.min.code 2 (some .int)), (53, 1160, .methodLink "RatchetPost" 53 Lib.Math.max.name), (50008, 1161, .static Lib.Math.max.name), (50011, 1162, .code Lib.Math.max.name Lib.Math.max.code 2 (some .int)), (56, 1163, .classLink "RatchetPost" 56 "RatchetPost$Person"), (58, 2013, .fieldLink "RatchetPost" 58 "RatchetPost" "people" "[LRatchetPost$Person;"), (30004, 1006, .initialized "RatchetPost$Person"), (20004, 1165, .instantiable "RatchetPost$Person" 17), (62, 1166, .methodLink "RatchetPost" 62 ⟨"RatchetPost$Person", "<init>", "(JI)V"⟩), (65, 2009, .methodLink "RatchetPost" 65 ⟨"RatchetPost$Turn", "giveRoot", "()V"⟩)]
def nd_X10_inside : ev_N := [(50002, 1001, .initialized "RatchetPost"), (50004, 4151, .instanceMethod ⟨"RatchetPost", "inside", "(IIII)J"⟩), (50005, 4152, .selects "RatchetPost" ⟨"RatchetPost", "inside", "(IIII)J"⟩ ⟨"RatchetPost", "inside", "(IIII)J"⟩), (103, 2181, .methodLink "RatchetPost" 103 ⟨"RatchetPost", "arePair", "(II)Z"⟩), (58, 2013, .fieldLink "RatchetPost" 58 "RatchetPost" "people" "[LRatchetPost$Person;"), (110, 1210, .fieldLink "RatchetPost" 110 "RatchetPost$Person" "rows" "[LRatchetPost$Row;"), (122, 3140, .methodLink "RatchetPost" 122 ⟨"RatchetPost$Row", "at", "(I)LRatchetPost$Session;"⟩)]
def nd_X10_isLetter : ev_N := [(50002, 1001, .initialized "RatchetPost"), (50004, 3211, .instanceMethod ⟨"RatchetPost", "isLetter", "(I)Z"⟩), (50005, 8, .selects "RatchetPost" ⟨"RatchetPost", "isLetter", "(I)Z"⟩ ⟨"RatchetPost", "isLetter", "(I)Z"⟩), (107, 2015, .fieldLink "RatchetPost" 107 "RatchetPost" "letterCount" "I")]
def nd_X10_isUser : ev_N := [(50002, 1001, .initialized "RatchetPost"), (50004, 2077, .instanceMethod ⟨"RatchetPost", "isUser", "(I)Z"⟩), (50005, 1, .selects "RatchetPost" ⟨"RatchetPost", "isUser", "(I)Z"⟩ ⟨"RatchetPost", "isUser", "(I)Z"⟩), (58, 2013, .fieldLink "RatchetPost" 58 "RatchetPost" "people" "[LRatchetPost$Person;")]
def nd_X10_letter : ev_N := [(50002, 1001, .initialized "RatchetPost"), (50004, 4118, .instanceMethod ⟨"RatchetPost", "letter", "(II)I"⟩), (50005, 4119, .selects "RatchetPost" ⟨"RatchetPost", "letter", "(II)I"⟩ ⟨"RatchetPost", "letter", "(II)I"⟩), (133, 3209, .methodLink "RatchetPost" 133 ⟨"RatchetPost", "isLetter", "(I)Z"⟩)]
def nd_X10_look : ev_N := [(50002, 1001, .initialized "RatchetPost"), (50004, 4159, .instanceMethod ⟨"RatchetPost", "look", "(I)I"⟩), (50005, 4160, .selects "RatchetPost" ⟨"RatchetPost", "look", "(I)I"⟩ ⟨"RatchetPost", "look", "(I)I"⟩), (76, 2075, .methodLink "RatchetPost" 76 ⟨"RatchetPost", "isUser", "(I)Z"⟩), (58, 2013, .fieldLink "RatchetPost" 58 "RatchetPost" "people" "[LRatchetPost$Person;"), (265, 4162, .methodLink "RatchetPost" 265 ⟨"RatchetPost$Person", "giveAway", "()V"⟩), (268, 2020, .fieldLink "RatchetPost" 268 "RatchetPost" "lookCount" "I")]
def nd_X10_number : ev_N := [(50002, 1001, .initialized "RatchetPost"), (50004, 4143, .instanceMethod ⟨"RatchetPost", "number", "(II)J"⟩), (50005, 4144, .selects "RatchetPost" ⟨"RatchetPost", "number", "(II)J"⟩ ⟨"RatchetPost", "number", "(II)J"⟩), (76, 2075, .methodLink "RatchetPost" 76 ⟨"RatchetPost", "isUser", "(I)Z"⟩), (58, 2013, .fieldLink "RatchetPost" 58 "RatchetPost" "people" "[LRatchetPost$Person;"), (80, 2079, .methodLink "RatchetPost" 80 ⟨"RatchetPost$Person", "isRegistered", "()Z"⟩)]
def nd_X10_oneIf : ev_N := [(50002, 1001, .initialized "RatchetPost"), (50003, 4131, .static ⟨"RatchetPost", "oneIf", "(Z)I"⟩)]
def nd_X10_publish : ev_N := [(50002, 1001, .initialized "RatchetPost"), (50004, 2161, .instanceMethod ⟨"RatchetPost", "publish", "(II)I"⟩), (50005, 2162, .selects "RatchetPost" ⟨"RatchetPost", "publish", "(II)I"⟩ ⟨"RatchetPost", "publish", "(II)I"⟩), (76, 2075, .methodLink "RatchetPost" 76 ⟨"RatchetPost", "isUser", "(I)Z"⟩), (58, 2013, .fieldLink "RatchetPost" 58 "RatchetPost" "people" "[LRatchetPost$Person;"), (80, 2079, .methodLink "RatchetPost" 80 ⟨"RatchetPost$Person", "isRegistered", "()Z"⟩)]
def nd_X10_putOnTape : ev_N := [(50002, 1001, .initialized "RatchetPost"), (50004, 2065, .instanceMethod ⟨"RatchetPost", "putOnTape", "(I)V"⟩), (50005, 0, .selects "RatchetPost" ⟨"RatchetPost", "putOnTape", "(I)V"⟩ ⟨"RatchetPost", "putOnTape", "(I)V"⟩), (68, 2022, .fieldLink "RatchetPost" 68 "RatchetPost" "tapeSize" "I"), (15, 2021, .fieldLink "RatchetPost" 15 "RatchetPost" "tape" "[I")]
def nd_X10_readable : ev_N := [(50002, 1001, .initialized "RatchetPost"), (50004, 4195, .instanceMethod ⟨"RatchetPost", "readable", "(I)I"⟩), (50005, 4196, .selects "RatchetPost" ⟨"RatchetPost", "readable", "(I)I"⟩ ⟨"RatchetPost", "readable", "(I)I"⟩), (133, 3209, .methodLink "RatchetPost" 133 ⟨"RatchetPost", "isLetter", "(I)Z"⟩)]
def nd_X10_register : ev_N := [(50002, 1001, .initialized "RatchetPost"), (50004, 2072, .instanceMethod ⟨"RatchetPost", "register", "(I)I"⟩), (50005, 2073, .selects "RatchetPost" ⟨"RatchetPost", "register", "(I)I"⟩ ⟨"RatchetPost", "register", "(I)I"⟩), (76, 2075, .methodLink "RatchetPost" 76 ⟨"RatchetPost", "isUser", "(I)Z"⟩), (58, 2013, .fieldLink "RatchetPost" 58 "RatchetPost" "people" "[LRatchetPost$Person;"), (80, 2079, .methodLink "RatchetPost" 80 ⟨"RatchetPost$Person", "isRegistered", "()Z"⟩), (84, 2083, .methodLink "RatchetPost" 84 ⟨"RatchetPost$Person", "enrol", "()V"⟩)]
def nd_X10_rotate : ev_N := [(50002, 1001, .initialized "RatchetPost"), (50004, 2173, .instanceMethod ⟨"RatchetPost", "rotate", "(I)I"⟩), (50005, 2174, .selects "RatchetPost" ⟨"RatchetPost", "rotate", "(I)I"⟩ ⟨"RatchetPost", "rotate", "(I)I"⟩), (76, 2075, .methodLink "RatchetPost" 76 ⟨"RatchetPost", "isUser", "(I)Z"⟩), (58, 2013, .fieldLink "RatchetPost" 58 "RatchetPost" "people" "[LRatchetPost$Person;"), (80, 2079, .methodLink "RatchetPost" 80 ⟨"RatchetPost$Person", "isRegistered", "()Z"⟩)]
def nd_X10_same : ev_N := [(50002, 1001, .initialized "RatchetPost"), (50004, 4155, .instanceMethod ⟨"RatchetPost", "same", "(IIII)I"⟩), (50005, 4156, .selects "RatchetPost" ⟨"RatchetPost", "same", "(IIII)I"⟩ ⟨"RatchetPost", "same", "(IIII)I"⟩), (103, 2181, .methodLink "RatchetPost" 103 ⟨"RatchetPost", "arePair", "(II)Z"⟩), (58, 2013, .fieldLink "RatchetPost" 58 "RatchetPost" "people" "[LRatchetPost$Person;"), (110, 1210, .fieldLink "RatchetPost" 110 "RatchetPost$Person" "rows" "[LRatchetPost$Row;"), (122, 3140, .methodLink "RatchetPost" 122 ⟨"RatchetPost$Row", "at", "(I)LRatchetPost$Session;"⟩)]
def nd_X10_session : ev_N := [(50002, 1001, .initialized "RatchetPost"), (50004, 4147, .instanceMethod ⟨"RatchetPost", "session", "(IIII)I"⟩), (50005, 4148, .selects "RatchetPost" ⟨"RatchetPost", "session", "(IIII)I"⟩ ⟨"RatchetPost", "session", "(IIII)I"⟩), (103, 2181, .methodLink "RatchetPost" 103 ⟨"RatchetPost", "arePair", "(II)Z"⟩), (58, 2013, .fieldLink "RatchetPost" 58 "RatchetPost" "people" "[LRatchetPost$Person;"), (110, 1210, .fieldLink "RatchetPost" 110 "RatchetPost$Person" "rows" "[LRatchetPost$Row;"), (114, 1182, .fieldLink "RatchetPost" 114 "RatchetPost$Row" "size" "I"), (122, 3140, .methodLink "RatchetPost" 122 ⟨"RatchetPost$Row", "at", "(I)LRatchetPost$Session;"⟩)]
def nd_X10_spoil : ev_N := [(50002, 1001, .initialized "RatchetPost"), (50004, 4114, .instanceMethod ⟨"RatchetPost", "spoil", "(III)I"⟩), (50005, 4115, .selects "RatchetPost" ⟨"RatchetPost", "spoil", "(III)I"⟩ ⟨"RatchetPost", "spoil", "(III)I"⟩), (133, 3209, .methodLink "RatchetPost" 133 ⟨"RatchetPost", "isLetter", "(I)Z"⟩)]
def nd_X10_user : ev_N := [(50002, 1001, .initialized "RatchetPost"), (50004, 4127, .instanceMethod ⟨"RatchetPost", "user", "(II)I"⟩), (50005, 4128, .selects "RatchetPost" ⟨"RatchetPost", "user", "(II)I"⟩ ⟨"RatchetPost", "user", "(II)I"⟩), (76, 2075, .methodLink "RatchetPost" 76 ⟨"RatchetPost", "isUser", "(I)Z"⟩), (58, 2013, .fieldLink "RatchetPost" 58 "RatchetPost" "people" "[LRatchetPost$Person;"), (80, 2079, .methodLink "RatchetPost" 80 ⟨"RatchetPost$Person", "isRegistered", "()Z"⟩), (180, 4130, .methodLink "RatchetPost" 180 ⟨"RatchetPost", "oneIf", "(Z)I"⟩), (97, 1196, .fieldLink "RatchetPost" 97 "RatchetPost$Person" "lentNumber" "I"), (87, 2164, .methodLink "RatchetPost" 87 ⟨"RatchetPost$Person", "onceThere", "()I"⟩), (184, 4133, .methodLink "RatchetPost" 184 ⟨"RatchetPost$Person", "leastOnce", "()I"⟩), (91, 1206, .fieldLink "RatchetPost" 91 "RatchetPost$Person" "onceMade" "I"), (187, 1191, .fieldLink "RatchetPost" 187 "RatchetPost$Person" "drawn" "I"), (190, 4134, .methodLink "RatchetPost" 190 ⟨"RatchetPost$Person", "onceSecretsKept", "()I"⟩), (193, 4138, .methodLink "RatchetPost" 193 ⟨"RatchetPost$Person", "sessionsInAll", "()I"⟩)]
def nd_X10_write : ev_N := [(50002, 1001, .initialized "RatchetPost"), (50004, 2178, .instanceMethod ⟨"RatchetPost", "write", "(II)I"⟩), (50005, 2179, .selects "RatchetPost" ⟨"RatchetPost", "write", "(II)I"⟩ ⟨"RatchetPost", "write", "(II)I"⟩), (103, 2181, .methodLink "RatchetPost" 103 ⟨"RatchetPost", "arePair", "(II)Z"⟩), (68, 2022, .fieldLink "RatchetPost" 68 "RatchetPost" "tapeSize" "I")]
def nd_X11_asSecret : ev_N := [(50002, 1008, .initialized "RatchetPostModel"), (50003, 6031, .static ⟨"RatchetPostModel", "asSecret", "(J)J"⟩), (228, 6033, .constantLong "RatchetPostModel" 228 (2305843009213693951)), (242, 6034, .constantLong "RatchetPostModel" 242 (3)), (244, 6035, .constantLong "RatchetPostModel" 244 (2305843009213693949))]
def nd_X11_begin : ev_N := [(50002, 1008, .initialized "RatchetPostModel"), (50004, 6074, .instanceMethod ⟨"RatchetPostModel", "begin", "(II)I"⟩), (50005, 6075, .selects "RatchetPostModel" ⟨"RatchetPostModel", "begin", "(II)I"⟩ ⟨"RatchetPostModel", "begin", "(II)I"⟩), (280, 6012, .methodLink "RatchetPostModel" 280 ⟨"RatchetPostModel", "isThere", "(I)Z"⟩), (46, 4239, .fieldLink "RatchetPostModel" 46 "RatchetPostModel" "isUser" "[Z")]
def nd_X11_byteOf : ev_N := [(50002, 1008, .initialized "RatchetPostModel"), (50004, 6159, .instanceMethod ⟨"RatchetPostModel", "byteOf", "(I)I"⟩), (50005, 6160, .selects "RatchetPostModel" ⟨"RatchetPostModel", "byteOf", "(I)I"⟩ ⟨"RatchetPostModel", "byteOf", "(I)I"⟩), (354, 5061, .fieldLink "RatchetPostModel" 354 "RatchetPostModel" "readingSize" "I")]
def nd_X11_come : ev_N := [(50002, 1008, .initialized "RatchetPostModel"), (50004, 6167, .instanceMethod ⟨"RatchetPostModel", "come", "(II)I"⟩), (50005, 6168, .selects "RatchetPostModel" ⟨"RatchetPostModel", "come", "(II)I"⟩ ⟨"RatchetPostModel", "come", "(II)I"⟩), (280, 6012, .methodLink "RatchetPostModel" 280 ⟨"RatchetPostModel", "isThere", "(I)Z"⟩), (348, 6146, .methodLink "RatchetPostModel" 348 ⟨"RatchetPostModel", "isLetter", "(I)Z"⟩)]
def nd_X11_copy : ev_N := [(50002, 1008, .initialized "RatchetPostModel"), (50004, 6143, .instanceMethod ⟨"RatchetPostModel", "copy", "(I)I"⟩), (50005, 6144, .selects "RatchetPostModel" ⟨"RatchetPostModel", "copy", "(I)I"⟩ ⟨"RatchetPostModel", "copy", "(I)I"⟩), (348, 6146, .methodLink "RatchetPostModel" 348 ⟨"RatchetPostModel", "isLetter", "(I)Z"⟩)]
def nd_X11_count : ev_N := [(50002, 1008, .initialized "RatchetPostModel"), (50004, 7031, .instanceMethod ⟨"RatchetPostModel", "count", "(I)I"⟩), (50005, 7032, .selects "RatchetPostModel" ⟨"RatchetPostModel", "count", "(I)I"⟩ ⟨"RatchetPostModel", "count", "(I)I"⟩), (337, 5058, .fieldLink "RatchetPostModel" 337 "RatchetPostModel" "letters" "I"), (351, 5059, .fieldLink "RatchetPostModel" 351 "RatchetPostModel" "copies" "I"), (439, 5072, .fieldLink "RatchetPostModel" 439 "RatchetPostModel" "looks" "I"), (354, 5061, .fieldLink "RatchetPostModel" 354 "RatchetPostModel" "readingSize" "I"), (331, 5054, .fieldLink "RatchetPostModel" 331 "RatchetPostModel" "taped" "I")]
def nd_X11_draw : ev_N := [(50002, 1008, .initialized "RatchetPostModel"), (50004, 6022, .instanceMethod ⟨"RatchetPostModel", "draw", "(I)V"⟩), (50005, 23, .selects "RatchetPostModel" ⟨"RatchetPostModel", "draw", "(I)V"⟩ ⟨"RatchetPostModel", "draw", "(I)V"⟩), (49, 5000, .fieldLink "RatchetPostModel" 49 "RatchetPostModel" "draws" "[I"), (7, 4227, .fieldLink "RatchetPostModel" 7 "RatchetPostModel" "seeds" "[J"), (220, 6024, .methodLink "RatchetPostModel" 220 ⟨"RatchetPostModel", "mix", "(JJ)J"⟩), (253, 6030, .methodLink "RatchetPostModel" 253 ⟨"RatchetPostModel", "asSecret", "(J)J"⟩), (257, 5017, .fieldLink "RatchetPostModel" 257 "RatchetPostModel" "drawn" "J"), (242, 6034, .constantLong "RatchetPostModel" 242 (3)), (239, 6036, .methodLink "RatchetPostModel" 239 ⟨"RatchetPostModel", "power", "(JJ)J"⟩), (261, 5018, .fieldLink "RatchetPostModel" 261 "RatchetPostModel" "drawnOpen" "J")]
def nd_X11_drawTerm : ev_N := [(50002, 1008, .initialized "RatchetPostModel"), (50004, 6018, .instanceMethod ⟨"RatchetPostModel", "drawTerm", "(I)V"⟩), (50005, 22, .selects "RatchetPostModel" ⟨"RatchetPostModel", "drawTerm", "(I)V"⟩ ⟨"RatchetPostModel", "drawTerm", "(I)V"⟩), (264, 6020, .methodLink "RatchetPostModel" 264 ⟨"RatchetPostModel", "draw", "(I)V"⟩), (249, 6045, .methodLink "RatchetPostModel" 249 ⟨"RatchetPostModel", "term", "(IIIII)I"⟩), (268, 5019, .fieldLink "RatchetPostModel" 268 "RatchetPostModel" "drawnTerm" "I"), (40, 4237, .fieldLink "RatchetPostModel" 40 "RatchetPostModel" "openNumber" "[J"), (246, 4236, .fieldLink "RatchetPostModel" 246 "RatchetPostModel" "opens" "I"), (261, 5018, .fieldLink "RatchetPostModel" 261 "RatchetPostModel" "drawnOpen" "J"), (43, 4238, .fieldLink "RatchetPostModel" 43 "RatchetPostModel" "openTerm" "[I")]
def nd_X11_end : ev_N := [(50002, 1008, .initialized "RatchetPostModel"), (50004, 6127, .instanceMethod ⟨"RatchetPostModel", "end", "(I)I"⟩), (50005, 6128, .selects "RatchetPostModel" ⟨"RatchetPostModel", "end", "(I)I"⟩ ⟨"RatchetPostModel", "end", "(I)I"⟩), (331, 5054, .fieldLink "RatchetPostModel" 331 "RatchetPostModel" "taped" "I")]
def nd_X11_feed : ev_N := [(50002, 1008, .initialized "RatchetPostModel"), (50004, 6123, .instanceMethod ⟨"RatchetPostModel", "feed", "(IIIII)I"⟩), (50005, 6124, .selects "RatchetPostModel" ⟨"RatchetPostModel", "feed", "(IIIII)I"⟩ ⟨"RatchetPostModel", "feed", "(IIIII)I"⟩), (331, 5054, .fieldLink "RatchetPostModel" 331 "RatchetPostModel" "taped" "I"), (196, 5053, .fieldLink "RatchetPostModel" 196 "RatchetPostModel" "tape" "[I")]
def nd_X11_forge : ev_N := [(50002, 1008, .initialized "RatchetPostModel"), (50004, 6163, .instanceMethod ⟨"RatchetPostModel", "forge", "(IJ)I"⟩), (50005, 6164, .selects "RatchetPostModel" ⟨"RatchetPostModel", "forge", "(IJ)I"⟩ ⟨"RatchetPostModel", "forge", "(IJ)I"⟩), (280, 6012, .methodLink "RatchetPostModel" 280 ⟨"RatchetPostModel", "isThere", "(I)Z"⟩), (46, 4239, .fieldLink "RatchetPostModel" 46 "RatchetPostModel" "isUser" "[Z")]
def nd_X11_forget : ev_N := [(50002, 1008, .initialized "RatchetPostModel"), (50004, 6119, .instanceMethod ⟨"RatchetPostModel", "forget", "(II)I"⟩), (50005, 6120, .selects "RatchetPostModel" ⟨"RatchetPostModel", "forget", "(II)I"⟩ ⟨"RatchetPostModel", "forget", "(II)I"⟩), (280, 6012, .methodLink "RatchetPostModel" 280 ⟨"RatchetPostModel", "isThere", "(I)Z"⟩), (103, 5021, .fieldLink "RatchetPostModel" 103 "RatchetPostModel" "rowMany" "[I")]
def nd_X11_init : ev_N := [(50002, 1008, .initialized "RatchetPostModel"), (50004, 4223, .instanceMethod ⟨"RatchetPostModel", "<init>", "(II)V"⟩), (1, 4225, .methodLink "RatchetPostModel" 1 objectInit), (50006, 1020, .instanceMethod objectInit), (50007, 1021, .code objectInit ⟨#[0xb1]⟩ 1 none), (40001, 1124, .arrayClass .long), (7, 4227, .fieldLink "RatchetPostModel" 7 "RatchetPostModel" "seeds" "[J"), (13, 4228, .fieldLink "RatchetPostModel" 13 "RatchetPostModel" "terms" "I"), (40000, 1091, .arrayClass .int), (17, 4229, .fieldLink "RatchetPostModel" 17 "RatchetPostModel" "tSort" "[I"), (21, 4230, .fieldLink "RatchetPostModel" 21 "RatchetPostModel" "tA" "[I"), (24, 4231, .fieldLink "RatchetPostModel" 24 "RatchetPostModel" "tB" "[I"), (27, 4232, .fieldLink "RatchetPostModel" 27 "RatchetPostModel" "tC" "[I"), (30, 4233, .fieldLink "RatchetPostModel" 30 "RatchetPostModel" "tD" "[I"), (40002, 1156, .arrayClass .boolean), (33, 4234, .fieldLink "RatchetPostModel" 33 "RatchetPostModel" "isGot" "[Z"), (37, 4235, .fieldLink "RatchetPostModel" 37 "RatchetPostModel" "isKnown" "[Z"), (40, 4237, .fieldLink "RatchetPostModel" 40 "RatchetPostModel" "openNumber" "[J"), (43, 4238, .fieldLink "RatchetPostModel" 43 "RatchetPostModel" "openTerm" "[I"), (46, 4239, .fieldLink "RatchetPostModel" 46 "RatchetPostModel" "isUser" "[Z"), (49, 5000, .fieldLink "RatchetPostModel" 49 "RatchetPostModel" "draws" "[I"), (52, 5001, .fieldLink "RatchetPostModel" 52 "RatchetPostModel" "identity" "[J"), (55, 5002, .fieldLink "RatchetPostModel" 55 "RatchetPostModel" "identityOpen" "[J"), (58, 5003, .fieldLink "RatchetPostModel" 58 "RatchetPostModel" "identityTerm" "[I"), (61, 5004, .fieldLink "RatchetPostModel" 61 "RatchetPostModel" "lents" "[I"), (64, 5005, .fieldLink "RatchetPostModel" 64 "RatchetPostModel" "lent" "[J"), (67, 5006, .fieldLink "RatchetPostModel" 67 "RatchetPostModel" "lentOpen" "[J"), (70, 5007, .fieldLink "RatchetPostModel" 70 "RatchetPostModel" "lentTerm" "[I"), (73, 5008, .fieldLink "RatchetPostModel" 73 "RatchetPostModel" "directoryLent" "[J"), (76, 5009, .fieldLink "RatchetPostModel" 76 "RatchetPostModel" "sealR" "[J"), (79, 5010, .fieldLink "RatchetPostModel" 79 "RatchetPostModel" "sealT" "[J"), (82, 5011, .fieldLink "RatchetPostModel" 82 "RatchetPostModel" "onces" "[I"), (85, 5012, .fieldLink "RatchetPostModel" 85 "RatchetPostModel" "once" "[J"), (88, 5013, .fieldLink "RatchetPostModel" 88 "RatchetPostModel" "onceOpen" "[J"), (91, 5014, .fieldLink "RatchetPostModel" 91 "RatchetPostModel" "onceTerm" "[I"), (94, 5015, .fieldLink "RatchetPostModel" 94 "RatchetPostModel" "onceThere" "[Z"), (97, 5016, .fieldLink "RatchetPostModel" 97 "RatchetPostModel" "onceKept" "[Z"), (100, 5020, .fieldLink "RatchetPostModel" 100 "RatchetPostModel" "order" "[I"), (103, 5021, .fieldLink "RatchetPostModel" 103 "RatchetPostModel" "rowMany" "[I"), (106, 5022, .fieldLink "RatchetPostModel" 106 "RatchetPostModel" "sRoot" "[J"), (109, 5023, .fieldLink "RatchetPostModel" 109 "RatchetPostModel" "sSend" "[J"), (112, 5024, .fieldLink "RatchetPostModel" 112 "RatchetPostModel" "hasSend" "[Z"), (115, 5025, .fieldLink "RatchetPostModel" 115 "RatchetPostModel" "sRecv" "[J"), (118, 5026, .fieldLink "RatchetPostModel" 118 "RatchetPostModel" "hasRecv" "[Z"), (121, 5027, .fieldLink "RatchetPostModel" 121 "RatchetPostModel" "sOwn" "[J"), (124, 5028, .fieldLink "RatchetPostModel" 124 "RatchetPostModel" "sOwnOpen" "[J"), (127, 5029, .fieldLink "RatchetPostModel" 127 "RatchetPostModel" "sOther" "[J"), (130, 5030, .fieldLink "RatchetPostModel" 130 "RatchetPostModel" "hasOther" "[Z"), (133, 5031, .fieldLink "RatchetPostModel" 133 "RatchetPostModel" "sNs" "[I"), (136, 5032, .fieldLink "RatchetPostModel" 136 "RatchetPostModel" "sNr" "[I"), (139, 5033, .fieldLink "RatchetPostModel" 139 "RatchetPostModel" "sPn" "[I"), (142, 5034, .fieldLink "RatchetPostModel" 142 "RatchetPostModel" "goesWith" "[Z"), (145, 5035, .fieldLink "RatchetPostModel" 145 "RatchetPostModel" "isBegun" "[Z"), (148, 5036, .fieldLink "RatchetPostModel" 148 "RatchetPostModel" "sE" "[J"), (151, 5037, .fieldLink "RatchetPostModel" 151 "RatchetPostModel" "sLent" "[I"), (154, 5038, .fieldLink "RatchetPostModel" 154 "RatchetPostModel" "sOnce" "[I"), (157, 5039, .fieldLink "RatchetPostModel" 157 "RatchetPostModel" "tRoot" "[I"), (160, 5040, .fieldLink "RatchetPostModel" 160 "RatchetPostModel" "tFirst" "[I"), (163, 5041, .fieldLink "RatchetPostModel" 163 "RatchetPostModel" "tSend" "[I"), (166, 5042, .fieldLink "RatchetPostModel" 166 "RatchetPostModel" "tRecv" "[I"), (169, 5043, .fieldLink "RatchetPostModel" 169 "RatchetPostModel" "tOwn" "[I"), (172, 5044, .fieldLink "RatchetPostModel" 172 "RatchetPostModel" "keptMany" "[I"), (175, 5045, .fieldLink "RatchetPostModel" 175 "RatchetPostModel" "keptOpen" "[J"), (178, 5046, .fieldLink "RatchetPostModel" 178 "RatchetPostModel" "keptPlace" "[I"), (181, 5047, .fieldLink "RatchetPostModel" 181 "RatchetPostModel" "keptKey" "[J"), (184, 5048, .fieldLink "RatchetPostModel" 184 "RatchetPostModel" "keptTerm" "[I"), (187, 5050, .fieldLink "RatchetPostModel" 187 "RatchetPostModel" "heard" "[I"), (190, 5051, .fieldLink "RatchetPostModel" 190 "RatchetPostModel" "heardLent" "[I"), (193, 5052, .fieldLink "RatchetPostModel" 193 "RatchetPostModel" "heardE" "[J"), (196, 5053, .fieldLink "RatchetPostModel" 196 "RatchetPostModel" "tape" "[I"), (199, 5055, .fieldLink "RatchetPostModel" 199 "RatchetPostModel" "letterByte" "[I"), (202, 5056, .fieldLink "RatchetPostModel" 202 "RatchetPostModel" "letterSize" "[I"), (205, 5057, .fieldLink "RatchetPostModel" 205 "RatchetPostModel" "letterTerm" "[I"), (208, 5060, .fieldLink "RatchetPostModel" 208 "RatchetPostModel" "reading" "[I"), (211, 4226, .fieldLink "RatchetPostModel" 211 "RatchetPostModel" "n" "I")]
def nd_X11_inside : ev_N := [(50002, 1008, .initialized "RatchetPostModel"), (50004, 7007, .instanceMethod ⟨"RatchetPostModel", "inside", "(IIII)J"⟩), (50005, 7008, .selects "RatchetPostModel" ⟨"RatchetPostModel", "inside", "(IIII)J"⟩ ⟨"RatchetPostModel", "inside", "(IIII)J"⟩), (436, 7002, .methodLink "RatchetPostModel" 436 ⟨"RatchetPostModel", "slotOf", "(III)I"⟩)]
def nd_X11_isLetter : ev_N := [(50002, 1008, .initialized "RatchetPostModel"), (50004, 6148, .instanceMethod ⟨"RatchetPostModel", "isLetter", "(I)Z"⟩), (50005, 37, .selects "RatchetPostModel" ⟨"RatchetPostModel", "isLetter", "(I)Z"⟩ ⟨"RatchetPostModel", "isLetter", "(I)Z"⟩), (337, 5058, .fieldLink "RatchetPostModel" 337 "RatchetPostModel" "letters" "I")]
def nd_X11_isThere : ev_N := [(50002, 1008, .initialized "RatchetPostModel"), (50004, 6014, .instanceMethod ⟨"RatchetPostModel", "isThere", "(I)Z"⟩), (50005, 21, .selects "RatchetPostModel" ⟨"RatchetPostModel", "isThere", "(I)Z"⟩ ⟨"RatchetPostModel", "isThere", "(I)Z"⟩), (211, 4226, .fieldLink "RatchetPostModel" 211 "RatchetPostModel" "n" "I")]
def nd_X11_keptSecrets : ev_N := [(50002, 1008, .initialized "RatchetPostModel"), (50004, 6228, .instanceMethod ⟨"RatchetPostModel", "keptSecrets", "(I)I"⟩), (50005, 51, .selects "RatchetPostModel" ⟨"RatchetPostModel", "keptSecrets", "(I)I"⟩ ⟨"RatchetPostModel", "keptSecrets", "(I)I"⟩), (82, 5011, .fieldLink "RatchetPostModel" 82 "RatchetPostModel" "onces" "[I")]
def nd_X11_leastOnce : ev_N := [(50002, 1008, .initialized "RatchetPostModel"), (50004, 6083, .instanceMethod ⟨"RatchetPostModel", "leastOnce", "(I)I"⟩), (50005, 28, .selects "RatchetPostModel" ⟨"RatchetPostModel", "leastOnce", "(I)I"⟩ ⟨"RatchetPostModel", "leastOnce", "(I)I"⟩), (82, 5011, .fieldLink "RatchetPostModel" 82 "RatchetPostModel" "onces" "[I")]
def nd_X11_lend : ev_N := [(50002, 1008, .initialized "RatchetPostModel"), (50004, 6051, .instanceMethod ⟨"RatchetPostModel", "lend", "(I)V"⟩), (50005, 25, .selects "RatchetPostModel" ⟨"RatchetPostModel", "lend", "(I)V"⟩ ⟨"RatchetPostModel", "lend", "(I)V"⟩), (61, 5004, .fieldLink "RatchetPostModel" 61 "RatchetPostModel" "lents" "[I"), (271, 6016, .methodLink "RatchetPostModel" 271 ⟨"RatchetPostModel", "drawTerm", "(I)V"⟩), (64, 5005, .fieldLink "RatchetPostModel" 64 "RatchetPostModel" "lent" "[J"), (257, 5017, .fieldLink "RatchetPostModel" 257 "RatchetPostModel" "drawn" "J"), (67, 5006, .fieldLink "RatchetPostModel" 67 "RatchetPostModel" "lentOpen" "[J"), (261, 5018, .fieldLink "RatchetPostModel" 261 "RatchetPostModel" "drawnOpen" "J"), (70, 5007, .fieldLink "RatchetPostModel" 70 "RatchetPostModel" "lentTerm" "[I"), (268, 5019, .fieldLink "RatchetPostModel" 268 "RatchetPostModel" "drawnTerm" "I"), (73, 5008, .fieldLink "RatchetPostModel" 73 "RatchetPostModel" "directoryLent" "[J"), (264, 6020, .methodLink "RatchetPostModel" 264 ⟨"RatchetPostModel", "draw", "(I)V"⟩), (76, 5009, .fieldLink "RatchetPostModel" 76 "RatchetPostModel" "sealR" "[J"), (220, 6024, .methodLink "RatchetPostModel" 220 ⟨"RatchetPostModel", "mix", "(JJ)J"⟩), (274, 6053, .methodLink "RatchetPostModel" 274 ⟨"RatchetPostModel", "modQ", "(J)J"⟩), (79, 5010, .fieldLink "RatchetPostModel" 79 "RatchetPostModel" "sealT" "[J"), (52, 5001, .fieldLink "RatchetPostModel" 52 "RatchetPostModel" "identity" "[J"), (277, 6057, .methodLink "RatchetPostModel" 277 ⟨"RatchetPostModel", "timesQ", "(JJ)J"⟩), (234, 6056, .constantLong "RatchetPostModel" 234 (2305843009213693950))]
def nd_X11_letter : ev_N := [(50002, 1008, .initialized "RatchetPostModel"), (50004, 6155, .instanceMethod ⟨"RatchetPostModel", "letter", "(II)I"⟩), (50005, 6156, .selects "RatchetPostModel" ⟨"RatchetPostModel", "letter", "(II)I"⟩ ⟨"RatchetPostModel", "letter", "(II)I"⟩), (348, 6146, .methodLink "RatchetPostModel" 348 ⟨"RatchetPostModel", "isLetter", "(I)Z"⟩)]
def nd_X11_look : ev_N := [(50002, 1008, .initialized "RatchetPostModel"), (50004, 7015, .instanceMethod ⟨"RatchetPostModel", "look", "(I)I"⟩), (50005, 7016, .selects "RatchetPostModel" ⟨"RatchetPostModel", "look", "(I)I"⟩ ⟨"RatchetPostModel", "look", "(I)I"⟩), (280, 6012, .methodLink "RatchetPostModel" 280 ⟨"RatchetPostModel", "isThere", "(I)Z"⟩), (439, 5072, .fieldLink "RatchetPostModel" 439 "RatchetPostModel" "looks" "I"), (46, 4239, .fieldLink "RatchetPostModel" 46 "RatchetPostModel" "isUser" "[Z")]
def nd_X11_mix : ev_N := [(50002, 1008, .initialized "RatchetPostModel"), (50003, 6025, .static ⟨"RatchetPostModel", "mix", "(JJ)J"⟩), (214, 6027, .constantLong "RatchetPostModel" 214 (6364136223846793005)), (216, 6028, .constantLong "RatchetPostModel" 216 (-7046029254386353131)), (218, 6029, .constantLong "RatchetPostModel" 218 (-2960836687051489901))]
def nd_X11_modQ : ev_N := [(50002, 1008, .initialized "RatchetPostModel"), (50003, 6054, .static ⟨"RatchetPostModel", "modQ", "(J)J"⟩), (228, 6033, .constantLong "RatchetPostModel" 228 (2305843009213693951)), (226, 6043, .constantLong "RatchetPostModel" 226 (2)), (234, 6056, .constantLong "RatchetPostModel" 234 (2305843009213693950))]
def nd_X11_number : ev_N := [(50002, 1008, .initialized "RatchetPostModel"), (50004, 6235, .instanceMethod ⟨"RatchetPostModel", "number", "(II)J"⟩), (50005, 6236, .selects "RatchetPostModel" ⟨"RatchetPostModel", "number", "(II)J"⟩ ⟨"RatchetPostModel", "number", "(II)J"⟩), (280, 6012, .methodLink "RatchetPostModel" 280 ⟨"RatchetPostModel", "isThere", "(I)Z"⟩), (46, 4239, .fieldLink "RatchetPostModel" 46 "RatchetPostModel" "isUser" "[Z")]
def nd_X11_onceInDirectory : ev_N := [(50002, 1008, .initialized "RatchetPostModel"), (50004, 6067, .instanceMethod ⟨"RatchetPostModel", "onceInDirectory", "(I)I"⟩), (50005, 26, .selects "RatchetPostModel" ⟨"RatchetPostModel", "onceInDirectory", "(I)I"⟩ ⟨"RatchetPostModel", "onceInDirectory", "(I)I"⟩), (82, 5011, .fieldLink "RatchetPostModel" 82 "RatchetPostModel" "onces" "[I")]
def nd_X11_power : ev_N := [(50002, 1008, .initialized "RatchetPostModel"), (50003, 6037, .static ⟨"RatchetPostModel", "power", "(JJ)J"⟩), (236, 6039, .methodLink "RatchetPostModel" 236 ⟨"RatchetPostModel", "times", "(JJ)J"⟩)]
def nd_X11_publish : ev_N := [(50002, 1008, .initialized "RatchetPostModel"), (50004, 6062, .instanceMethod ⟨"RatchetPostModel", "publish", "(II)I"⟩), (50005, 6063, .selects "RatchetPostModel" ⟨"RatchetPostModel", "publish", "(II)I"⟩ ⟨"RatchetPostModel", "publish", "(II)I"⟩), (280, 6012, .methodLink "RatchetPostModel" 280 ⟨"RatchetPostModel", "isThere", "(I)Z"⟩), (46, 4239, .fieldLink "RatchetPostModel" 46 "RatchetPostModel" "isUser" "[Z")]
def nd_X11_readable : ev_N := [(50002, 1008, .initialized "RatchetPostModel"), (50004, 7023, .instanceMethod ⟨"RatchetPostModel", "readable", "(I)I"⟩), (50005, 7024, .selects "RatchetPostModel" ⟨"RatchetPostModel", "readable", "(I)I"⟩ ⟨"RatchetPostModel", "readable", "(I)I"⟩), (348, 6146, .methodLink "RatchetPostModel" 348 ⟨"RatchetPostModel", "isLetter", "(I)Z"⟩)]
def nd_X11_register : ev_N := [(50002, 1008, .initialized "RatchetPostModel"), (50004, 6009, .instanceMethod ⟨"RatchetPostModel", "register", "(I)I"⟩), (50005, 6010, .selects "RatchetPostModel" ⟨"RatchetPostModel", "register", "(I)I"⟩ ⟨"RatchetPostModel", "register", "(I)I"⟩), (280, 6012, .methodLink "RatchetPostModel" 280 ⟨"RatchetPostModel", "isThere", "(I)Z"⟩), (46, 4239, .fieldLink "RatchetPostModel" 46 "RatchetPostModel" "isUser" "[Z"), (271, 6016, .methodLink "RatchetPostModel" 271 ⟨"RatchetPostModel", "drawTerm", "(I)V"⟩), (52, 5001, .fieldLink "RatchetPostModel" 52 "RatchetPostModel" "identity" "[J"), (257, 5017, .fieldLink "RatchetPostModel" 257 "RatchetPostModel" "drawn" "J"), (55, 5002, .fieldLink "RatchetPostModel" 55 "RatchetPostModel" "identityOpen" "[J"), (261, 5018, .fieldLink "RatchetPostModel" 261 "RatchetPostModel" "drawnOpen" "J"), (58, 5003, .fieldLink "RatchetPostModel" 58 "RatchetPostModel" "identityTerm" "[I"), (268, 5019, .fieldLink "RatchetPostModel" 268 "RatchetPostModel" "drawnTerm" "I"), (284, 6049, .methodLink "RatchetPostModel" 284 ⟨"RatchetPostModel", "lend", "(I)V"⟩)]
def nd_X11_rotate : ev_N := [(50002, 1008, .initialized "RatchetPostModel"), (50004, 6070, .instanceMethod ⟨"RatchetPostModel", "rotate", "(I)I"⟩), (50005, 6071, .selects "RatchetPostModel" ⟨"RatchetPostModel", "rotate", "(I)I"⟩ ⟨"RatchetPostModel", "rotate", "(I)I"⟩), (280, 6012, .methodLink "RatchetPostModel" 280 ⟨"RatchetPostModel", "isThere", "(I)Z"⟩), (46, 4239, .fieldLink "RatchetPostModel" 46 "RatchetPostModel" "isUser" "[Z")]
def nd_X11_same : ev_N := [(50002, 1008, .initialized "RatchetPostModel"), (50004, 7011, .instanceMethod ⟨"RatchetPostModel", "same", "(IIII)I"⟩), (50005, 7012, .selects "RatchetPostModel" ⟨"RatchetPostModel", "same", "(IIII)I"⟩ ⟨"RatchetPostModel", "same", "(IIII)I"⟩), (436, 7002, .methodLink "RatchetPostModel" 436 ⟨"RatchetPostModel", "slotOf", "(III)I"⟩)]
def nd_X11_session : ev_N := [(50002, 1008, .initialized "RatchetPostModel"), (50004, 6239, .instanceMethod ⟨"RatchetPostModel", "session", "(IIII)I"⟩), (50005, 7000, .selects "RatchetPostModel" ⟨"RatchetPostModel", "session", "(IIII)I"⟩ ⟨"RatchetPostModel", "session", "(IIII)I"⟩), (280, 6012, .methodLink "RatchetPostModel" 280 ⟨"RatchetPostModel", "isThere", "(I)Z"⟩), (103, 5021, .fieldLink "RatchetPostModel" 103 "RatchetPostModel" "rowMany" "[I"), (436, 7002, .methodLink "RatchetPostModel" 436 ⟨"RatchetPostModel", "slotOf", "(III)I"⟩)]
def nd_X11_sessionsOf : ev_N := [(50002, 1008, .initialized "RatchetPostModel"), (50004, 6232, .instanceMethod ⟨"RatchetPostModel", "sessionsOf", "(I)I"⟩), (50005, 52, .selects "RatchetPostModel" ⟨"RatchetPostModel", "sessionsOf", "(I)I"⟩ ⟨"RatchetPostModel", "sessionsOf", "(I)I"⟩), (211, 4226, .fieldLink "RatchetPostModel" 211 "RatchetPostModel" "n" "I"), (103, 5021, .fieldLink "RatchetPostModel" 103 "RatchetPostModel" "rowMany" "[I")]
def nd_X11_slotOf : ev_N := [(50002, 1008, .initialized "RatchetPostModel"), (50004, 7004, .instanceMethod ⟨"RatchetPostModel", "slotOf", "(III)I"⟩), (50005, 53, .selects "RatchetPostModel" ⟨"RatchetPostModel", "slotOf", "(III)I"⟩ ⟨"RatchetPostModel", "slotOf", "(III)I"⟩), (280, 6012, .methodLink "RatchetPostModel" 280 ⟨"RatchetPostModel", "isThere", "(I)Z"⟩), (103, 5021, .fieldLink "RatchetPostModel" 103 "RatchetPostModel" "rowMany" "[I")]
def nd_X11_spoil : ev_N := [(50002, 1008, .initialized "RatchetPostModel"), (50004, 6151, .instanceMethod ⟨"RatchetPostModel", "spoil", "(III)I"⟩), (50005, 6152, .selects "RatchetPostModel" ⟨"RatchetPostModel", "spoil", "(III)I"⟩ ⟨"RatchetPostModel", "spoil", "(III)I"⟩), (348, 6146, .methodLink "RatchetPostModel" 348 ⟨"RatchetPostModel", "isLetter", "(I)Z"⟩)]
def nd_X11_term : ev_N := [(50002, 1008, .initialized "RatchetPostModel"), (50004, 6047, .instanceMethod ⟨"RatchetPostModel", "term", "(IIIII)I"⟩), (50005, 24, .selects "RatchetPostModel" ⟨"RatchetPostModel", "term", "(IIIII)I"⟩ ⟨"RatchetPostModel", "term", "(IIIII)I"⟩), (13, 4228, .fieldLink "RatchetPostModel" 13 "RatchetPostModel" "terms" "I"), (17, 4229, .fieldLink "RatchetPostModel" 17 "RatchetPostModel" "tSort" "[I"), (21, 4230, .fieldLink "RatchetPostModel" 21 "RatchetPostModel" "tA" "[I"), (24, 4231, .fieldLink "RatchetPostModel" 24 "RatchetPostModel" "tB" "[I"), (27, 4232, .fieldLink "RatchetPostModel" 27 "RatchetPostModel" "tC" "[I"), (30, 4233, .fieldLink "RatchetPostModel" 30 "RatchetPostModel" "tD" "[I"), (33, 4234, .fieldLink "RatchetPostModel" 33 "RatchetPostModel" "isGot" "[Z")]
def nd_X11_times : ev_N := [(50002, 1008, .initialized "RatchetPostModel"), (50003, 6040, .static ⟨"RatchetPostModel", "times", "(JJ)J"⟩), (224, 6042, .constantLong "RatchetPostModel" 224 (2147483647)), (226, 6043, .constantLong "RatchetPostModel" 226 (2)), (228, 6033, .constantLong "RatchetPostModel" 228 (2305843009213693951)), (230, 6044, .constantLong "RatchetPostModel" 230 (1073741823))]
def nd_X11_timesQ : ev_N := [(50002, 1008, .initialized "RatchetPostModel"), (50003, 6058, .static ⟨"RatchetPostModel", "timesQ", "(JJ)J"⟩), (224, 6042, .constantLong "RatchetPostModel" 224 (2147483647)), (232, 6060, .constantLong "RatchetPostModel" 232 (4)), (234, 6056, .constantLong "RatchetPostModel" 234 (2305843009213693950)), (226, 6043, .constantLong "RatchetPostModel" 226 (2)), (230, 6044, .constantLong "RatchetPostModel" 230 (1073741823))]
def nd_X11_user : ev_N := [(50002, 1008, .initialized "RatchetPostModel"), (50004, 6223, .instanceMethod ⟨"RatchetPostModel", "user", "(II)I"⟩), (50005, 6224, .selects "RatchetPostModel" ⟨"RatchetPostModel", "user", "(II)I"⟩ ⟨"RatchetPostModel", "user", "(II)I"⟩), (280, 6012, .methodLink "RatchetPostModel" 280 ⟨"RatchetPostModel", "isThere", "(I)Z"⟩), (46, 4239, .fieldLink "RatchetPostModel" 46 "RatchetPostModel" "isUser" "[Z"), (61, 5004, .fieldLink "RatchetPostModel" 61 "RatchetPostModel" "lents" "[I"), (287, 6065, .methodLink "RatchetPostModel" 287 ⟨"RatchetPostModel", "onceInDirectory", "(I)I"⟩), (306, 6081, .methodLink "RatchetPostModel" 306 ⟨"RatchetPostModel", "leastOnce", "(I)I"⟩), (82, 5011, .fieldLink "RatchetPostModel" 82 "RatchetPostModel" "onces" "[I"), (49, 5000, .fieldLink "RatchetPostModel" 49 "RatchetPostModel" "draws" "[I"), (430, 6226, .methodLink "RatchetPostModel" 430 ⟨"RatchetPostModel", "keptSecrets", "(I)I"⟩), (433, 6230, .methodLink "RatchetPostModel" 433 ⟨"RatchetPostModel", "sessionsOf", "(I)I"⟩)]
def nd_X11_write : ev_N := [(50002, 1008, .initialized "RatchetPostModel"), (50004, 6131, .instanceMethod ⟨"RatchetPostModel", "write", "(II)I"⟩), (50005, 6132, .selects "RatchetPostModel" ⟨"RatchetPostModel", "write", "(II)I"⟩ ⟨"RatchetPostModel", "write", "(II)I"⟩), (280, 6012, .methodLink "RatchetPostModel" 280 ⟨"RatchetPostModel", "isThere", "(I)Z"⟩), (331, 5054, .fieldLink "RatchetPostModel" 331 "RatchetPostModel" "taped" "I")]
def nd_X3_isOpen : ev_N := [(50002, 1009, .initialized "RatchetPost$Numbers"), (50003, 2111, .static ⟨"RatchetPost$Numbers", "isOpen", "(J)Z"⟩), (11, 2113, .constantLong "RatchetPost$Numbers" 11 (2305843009213693951))]
def nd_X3_mix : ev_N := [(50002, 1009, .initialized "RatchetPost$Numbers"), (50003, 2092, .static ⟨"RatchetPost$Numbers", "mix", "(JJ)J"⟩), (57, 2094, .constantLong "RatchetPost$Numbers" 57 (6364136223846793005)), (59, 2095, .constantLong "RatchetPost$Numbers" 59 (-7046029254386353131)), (61, 2096, .constantLong "RatchetPost$Numbers" 61 (-2960836687051489901))]
def nd_X3_power : ev_N := [(50002, 1009, .initialized "RatchetPost$Numbers"), (50003, 2108, .static ⟨"RatchetPost$Numbers", "power", "(JJ)J"⟩), (17, 2110, .methodLink "RatchetPost$Numbers" 17 ⟨"RatchetPost$Numbers", "isOpen", "(J)Z"⟩), (21, 2114, .methodLink "RatchetPost$Numbers" 21 ⟨"RatchetPost$Numbers", "times", "(JJ)J"⟩)]
def nd_X3_rest : ev_N := [(50002, 1009, .initialized "RatchetPost$Numbers"), (50003, 2102, .static ⟨"RatchetPost$Numbers", "rest", "(JJ)J"⟩), (25, 2104, .constantLong "RatchetPost$Numbers" 25 (2))]
def nd_X3_sealProof : ev_N := [(50002, 1009, .initialized "RatchetPost$Numbers"), (50003, 2150, .static ⟨"RatchetPost$Numbers", "sealProof", "(LRatchetPost$Secret;JJ)J"⟩), (37, 2131, .fieldLink "RatchetPost$Numbers" 37 "RatchetPost$Secret" "open" "J"), (43, 2152, .methodLink "RatchetPost$Numbers" 43 ⟨"RatchetPost$Numbers", "sealSum", "(JJ)J"⟩), (46, 2127, .fieldLink "RatchetPost$Numbers" 46 "RatchetPost$Secret" "value" "J"), (49, 2157, .methodLink "RatchetPost$Numbers" 49 ⟨"RatchetPost$Numbers", "timesModuloQ", "(JJ)J"⟩), (32, 2156, .constantLong "RatchetPost$Numbers" 32 (2305843009213693950))]
def nd_X3_sealSum : ev_N := [(50002, 1009, .initialized "RatchetPost$Numbers"), (50003, 2153, .static ⟨"RatchetPost$Numbers", "sealSum", "(JJ)J"⟩), (34, 2155, .methodLink "RatchetPost$Numbers" 34 ⟨"RatchetPost$Numbers", "mix", "(JJ)J"⟩), (32, 2156, .constantLong "RatchetPost$Numbers" 32 (2305843009213693950)), (29, 2101, .methodLink "RatchetPost$Numbers" 29 ⟨"RatchetPost$Numbers", "rest", "(JJ)J"⟩)]
def nd_X3_secretOf : ev_N := [(50002, 1009, .initialized "RatchetPost$Numbers"), (50003, 2098, .static ⟨"RatchetPost$Numbers", "secretOf", "(J)J"⟩), (27, 2100, .constantLong "RatchetPost$Numbers" 27 (2305843009213693949)), (29, 2101, .methodLink "RatchetPost$Numbers" 29 ⟨"RatchetPost$Numbers", "rest", "(JJ)J"⟩)]
def nd_X3_times : ev_N := [(50002, 1009, .initialized "RatchetPost$Numbers"), (50003, 2115, .static ⟨"RatchetPost$Numbers", "times", "(JJ)J"⟩), (13, 2117, .constantLong "RatchetPost$Numbers" 13 (4294967295)), (15, 2118, .constantLong "RatchetPost$Numbers" 15 (536870911)), (11, 2113, .constantLong "RatchetPost$Numbers" 11 (2305843009213693951))]
def nd_X3_timesModuloQ : ev_N := [(50002, 1009, .initialized "RatchetPost$Numbers"), (50003, 2158, .static ⟨"RatchetPost$Numbers", "timesModuloQ", "(JJ)J"⟩), (32, 2156, .constantLong "RatchetPost$Numbers" 32 (2305843009213693950)), (25, 2104, .constantLong "RatchetPost$Numbers" 25 (2))]
def nd_X4_init : ev_N := [(50002, 1003, .initialized "RatchetPost$Opening"), (50004, 1095, .instanceMethod ⟨"RatchetPost$Opening", "<init>", "()V"⟩), (3, 1097, .methodLink "RatchetPost$Opening" 3 objectInit), (50006, 1020, .instanceMethod objectInit), (50007, 1021, .code objectInit ⟨#[0xb1]⟩ 1 none), (40001, 1124, .arrayClass .long), (9, 1098, .fieldLink "RatchetPost$Opening" 9 "RatchetPost$Opening" "keys" "[J")]
def nd_X5_drawSecret : ev_N := [(50002, 1006, .initialized "RatchetPost$Person"), (50004, 2088, .instanceMethod ⟨"RatchetPost$Person", "drawSecret", "()LRatchetPost$Secret;"⟩), (50005, 2089, .selects "RatchetPost$Person" ⟨"RatchetPost$Person", "drawSecret", "()LRatchetPost$Secret;"⟩ ⟨"RatchetPost$Person", "drawSecret", "()LRatchetPost$Secret;"⟩), (47, 1190, .fieldLink "RatchetPost$Person" 47 "RatchetPost$Person" "drawn" "I"), (32, 1189, .fieldLink "RatchetPost$Person" 32 "RatchetPost$Person" "seed" "J"), (51, 2091, .methodLink "RatchetPost$Person" 51 ⟨"RatchetPost$Numbers", "mix", "(JJ)J"⟩), (57, 2097, .methodLink "RatchetPost$Person" 57 ⟨"RatchetPost$Numbers", "secretOf", "(J)J"⟩), (9, 1170, .classLink "RatchetPost$Person" 9 "RatchetPost$Secret"), (30006, 1010, .initialized "RatchetPost$Secret"), (20006, 2105, .instantiable "RatchetPost$Secret" 4), (61, 2106, .constantLong "RatchetPost$Person" 61 (3)), (63, 2107, .methodLink "RatchetPost$Person" 63 ⟨"RatchetPost$Numbers", "power", "(JJ)J"⟩), (66, 1192, .fieldLink "RatchetPost$Person" 66 "RatchetPost$Person" "drawnLast" "LRatchetPost$Secret;"), (69, 2119, .methodLink "RatchetPost$Person" 69 ⟨"RatchetPost$Secret", "<init>", "(JJLRatchetPost$Secret;)V"⟩)]
def nd_X5_enrol : ev_N := [(50002, 1006, .initialized "RatchetPost$Person"), (50004, 2084, .instanceMethod ⟨"RatchetPost$Person", "enrol", "()V"⟩), (50005, 2085, .selects "RatchetPost$Person" ⟨"RatchetPost$Person", "enrol", "()V"⟩ ⟨"RatchetPost$Person", "enrol", "()V"⟩), (78, 2087, .methodLink "RatchetPost$Person" 78 ⟨"RatchetPost$Person", "drawSecret", "()LRatchetPost$Secret;"⟩), (43, 1193, .fieldLink "RatchetPost$Person" 43 "RatchetPost$Person" "identity" "LRatchetPost$Secret;"), (82, 2145, .methodLink "RatchetPost$Person" 82 ⟨"RatchetPost$Person", "makeLentKey", "()V"⟩)]
def nd_X5_giveAway : ev_N := [(50002, 1006, .initialized "RatchetPost$Person"), (50004, 4163, .instanceMethod ⟨"RatchetPost$Person", "giveAway", "()V"⟩), (50005, 4164, .selects "RatchetPost$Person" ⟨"RatchetPost$Person", "giveAway", "()V"⟩ ⟨"RatchetPost$Person", "giveAway", "()V"⟩), (43, 1193, .fieldLink "RatchetPost$Person" 43 "RatchetPost$Person" "identity" "LRatchetPost$Secret;"), (127, 4166, .methodLink "RatchetPost$Person" 127 ⟨"RatchetPost$Secret", "give", "(LRatchetPost$Secret;)V"⟩), (85, 1195, .fieldLink "RatchetPost$Person" 85 "RatchetPost$Person" "lentNumber" "I"), (111, 1207, .fieldLink "RatchetPost$Person" 111 "RatchetPost$Person" "onceMade" "I"), (38, 1209, .fieldLink "RatchetPost$Person" 38 "RatchetPost$Person" "rows" "[LRatchetPost$Row;"), (137, 4171, .methodLink "RatchetPost$Person" 137 ⟨"RatchetPost$Row", "giveAway", "()V"⟩)]
def nd_X5_init : ev_N := [(50002, 1006, .initialized "RatchetPost$Person"), (50004, 1167, .instanceMethod ⟨"RatchetPost$Person", "<init>", "(JI)V"⟩), (3, 1169, .methodLink "RatchetPost$Person" 3 objectInit), (50006, 1020, .instanceMethod objectInit), (50007, 1021, .code objectInit ⟨#[0xb1]⟩ 1 none), (9, 1170, .classLink "RatchetPost$Person" 9 "RatchetPost$Secret"), (11, 1203, .fieldLink "RatchetPost$Person" 11 "RatchetPost$Person" "lentKeys" "[LRatchetPost$Secret;"), (17, 1204, .fieldLink "RatchetPost$Person" 17 "RatchetPost$Person" "onceKeys" "[LRatchetPost$Secret;"), (40002, 1156, .arrayClass .boolean), (20, 1205, .fieldLink "RatchetPost$Person" 20 "RatchetPost$Person" "onceUsed" "[Z"), (40001, 1124, .arrayClass .long), (24, 1211, .fieldLink "RatchetPost$Person" 24 "RatchetPost$Person" "seenOpens" "[J"), (40000, 1091, .arrayClass .int), (28, 1212, .fieldLink "RatchetPost$Person" 28 "RatchetPost$Person" "seenLents" "[I"), (32, 1189, .fieldLink "RatchetPost$Person" 32 "RatchetPost$Person" "seed" "J"), (36, 1171, .classLink "RatchetPost$Person" 36 "RatchetPost$Row"), (38, 1209, .fieldLink "RatchetPost$Person" 38 "RatchetPost$Person" "rows" "[LRatchetPost$Row;"), (30005, 1007, .initialized "RatchetPost$Row"), (20005, 1173, .instantiable "RatchetPost$Row" 2), (42, 1174, .methodLinkNest "RatchetPost$Person" 42 ⟨"RatchetPost$Row", "<init>", "()V"⟩ "RatchetPost")]
def nd_X5_isRegistered : ev_N := [(50002, 1006, .initialized "RatchetPost$Person"), (50004, 2080, .instanceMethod ⟨"RatchetPost$Person", "isRegistered", "()Z"⟩), (50005, 2081, .selects "RatchetPost$Person" ⟨"RatchetPost$Person", "isRegistered", "()Z"⟩ ⟨"RatchetPost$Person", "isRegistered", "()Z"⟩), (43, 1193, .fieldLink "RatchetPost$Person" 43 "RatchetPost$Person" "identity" "LRatchetPost$Secret;")]
def nd_X5_leastOnce : ev_N := [(50002, 1006, .initialized "RatchetPost$Person"), (50004, 2194, .instanceMethod ⟨"RatchetPost$Person", "leastOnce", "()I"⟩), (50005, 2195, .selects "RatchetPost$Person" ⟨"RatchetPost$Person", "leastOnce", "()I"⟩ ⟨"RatchetPost$Person", "leastOnce", "()I"⟩), (114, 1208, .fieldLink "RatchetPost$Person" 114 "RatchetPost$Person" "onceTaken" "I"), (111, 1207, .fieldLink "RatchetPost$Person" 111 "RatchetPost$Person" "onceMade" "I")]
def nd_X5_makeLentKey : ev_N := [(50002, 1006, .initialized "RatchetPost$Person"), (50004, 2146, .instanceMethod ⟨"RatchetPost$Person", "makeLentKey", "()V"⟩), (50005, 2147, .selects "RatchetPost$Person" ⟨"RatchetPost$Person", "makeLentKey", "()V"⟩ ⟨"RatchetPost$Person", "makeLentKey", "()V"⟩), (43, 1193, .fieldLink "RatchetPost$Person" 43 "RatchetPost$Person" "identity" "LRatchetPost$Secret;"), (85, 1195, .fieldLink "RatchetPost$Person" 85 "RatchetPost$Person" "lentNumber" "I"), (78, 2087, .methodLink "RatchetPost$Person" 78 ⟨"RatchetPost$Person", "drawSecret", "()LRatchetPost$Secret;"⟩), (11, 1203, .fieldLink "RatchetPost$Person" 11 "RatchetPost$Person" "lentKeys" "[LRatchetPost$Secret;"), (72, 2130, .fieldLink "RatchetPost$Person" 72 "RatchetPost$Secret" "open" "J"), (88, 1197, .fieldLink "RatchetPost$Person" 88 "RatchetPost$Person" "lentOpen" "J"), (91, 1199, .fieldLink "RatchetPost$Person" 91 "RatchetPost$Person" "sealOpen" "J"), (94, 2126, .fieldLink "RatchetPost$Person" 94 "RatchetPost$Secret" "value" "J"), (97, 2149, .methodLink "RatchetPost$Person" 97 ⟨"RatchetPost$Numbers", "sealProof", "(LRatchetPost$Secret;JJ)J"⟩), (101, 1201, .fieldLink "RatchetPost$Person" 101 "RatchetPost$Person" "sealProof" "J")]
def nd_X5_onceSecretsKept : ev_N := [(50002, 1006, .initialized "RatchetPost$Person"), (50004, 4135, .instanceMethod ⟨"RatchetPost$Person", "onceSecretsKept", "()I"⟩), (50005, 4136, .selects "RatchetPost$Person" ⟨"RatchetPost$Person", "onceSecretsKept", "()I"⟩ ⟨"RatchetPost$Person", "onceSecretsKept", "()I"⟩), (111, 1207, .fieldLink "RatchetPost$Person" 111 "RatchetPost$Person" "onceMade" "I")]
def nd_X5_onceThere : ev_N := [(50002, 1006, .initialized "RatchetPost$Person"), (50004, 2165, .instanceMethod ⟨"RatchetPost$Person", "onceThere", "()I"⟩), (50005, 2166, .selects "RatchetPost$Person" ⟨"RatchetPost$Person", "onceThere", "()I"⟩ ⟨"RatchetPost$Person", "onceThere", "()I"⟩), (111, 1207, .fieldLink "RatchetPost$Person" 111 "RatchetPost$Person" "onceMade" "I"), (114, 1208, .fieldLink "RatchetPost$Person" 114 "RatchetPost$Person" "onceTaken" "I")]
def nd_X5_sessionsInAll : ev_N := [(50002, 1006, .initialized "RatchetPost$Person"), (50004, 4139, .instanceMethod ⟨"RatchetPost$Person", "sessionsInAll", "()I"⟩), (50005, 4140, .selects "RatchetPost$Person" ⟨"RatchetPost$Person", "sessionsInAll", "()I"⟩ ⟨"RatchetPost$Person", "sessionsInAll", "()I"⟩), (38, 1209, .fieldLink "RatchetPost$Person" 38 "RatchetPost$Person" "rows" "[LRatchetPost$Row;"), (121, 1183, .fieldLink "RatchetPost$Person" 121 "RatchetPost$Row" "size" "I")]
def nd_X6_at : ev_N := [(50002, 1007, .initialized "RatchetPost$Row"), (50004, 3141, .instanceMethod ⟨"RatchetPost$Row", "at", "(I)LRatchetPost$Session;"⟩), (50005, 3142, .selects "RatchetPost$Row" ⟨"RatchetPost$Row", "at", "(I)LRatchetPost$Session;"⟩ ⟨"RatchetPost$Row", "at", "(I)LRatchetPost$Session;"⟩), (17, 1181, .fieldLink "RatchetPost$Row" 17 "RatchetPost$Row" "size" "I")]
def nd_X6_giveAway : ev_N := [(50002, 1007, .initialized "RatchetPost$Row"), (50004, 4172, .instanceMethod ⟨"RatchetPost$Row", "giveAway", "()V"⟩), (50005, 4173, .selects "RatchetPost$Row" ⟨"RatchetPost$Row", "giveAway", "()V"⟩ ⟨"RatchetPost$Row", "giveAway", "()V"⟩), (17, 1181, .fieldLink "RatchetPost$Row" 17 "RatchetPost$Row" "size" "I")]
def nd_X6_init : ev_N := [(50002, 1007, .initialized "RatchetPost$Row"), (50004, 1175, .instanceMethod ⟨"RatchetPost$Row", "<init>", "()V"⟩), (3, 1177, .methodLink "RatchetPost$Row" 3 objectInit), (50006, 1020, .instanceMethod objectInit), (50007, 1021, .code objectInit ⟨#[0xb1]⟩ 1 none), (9, 1178, .classLink "RatchetPost$Row" 9 "RatchetPost$Session"), (11, 1180, .fieldLink "RatchetPost$Row" 11 "RatchetPost$Row" "sessions" "[LRatchetPost$Session;")]
def nd_X6_retireAll : ev_N := [(50002, 1007, .initialized "RatchetPost$Row"), (50004, 3202, .instanceMethod ⟨"RatchetPost$Row", "retireAll", "()I"⟩), (50005, 3203, .selects "RatchetPost$Row" ⟨"RatchetPost$Row", "retireAll", "()I"⟩ ⟨"RatchetPost$Row", "retireAll", "()I"⟩), (17, 1181, .fieldLink "RatchetPost$Row" 17 "RatchetPost$Row" "size" "I")]
def nd_X7_give : ev_N := [(50002, 1010, .initialized "RatchetPost$Secret"), (50003, 4167, .static ⟨"RatchetPost$Secret", "give", "(LRatchetPost$Secret;)V"⟩)]
def nd_X7_init : ev_N := [(50002, 1010, .initialized "RatchetPost$Secret"), (50004, 2120, .instanceMethod ⟨"RatchetPost$Secret", "<init>", "(JJLRatchetPost$Secret;)V"⟩), (1, 2122, .methodLink "RatchetPost$Secret" 1 objectInit), (50006, 1020, .instanceMethod objectInit), (50007, 1021, .code objectInit ⟨#[0xb1]⟩ 1 none), (7, 2123, .fieldLink "RatchetPost$Secret" 7 "RatchetPost$Secret" "value" "J"), (13, 2129, .fieldLink "RatchetPost$Secret" 13 "RatchetPost$Secret" "open" "J"), (16, 2133, .fieldLink "RatchetPost$Secret" 16 "RatchetPost$Secret" "drawnBefore" "LRatchetPost$Secret;")]
def nd_X9_giveRoot : ev_N := [(50002, 1004, .initialized "RatchetPost$Turn"), (50004, 2010, .instanceMethod ⟨"RatchetPost$Turn", "giveRoot", "()V"⟩), (50005, 2011, .selects "RatchetPost$Turn" ⟨"RatchetPost$Turn", "giveRoot", "()V"⟩ ⟨"RatchetPost$Turn", "giveRoot", "()V"⟩), (41, 1138, .fieldLink "RatchetPost$Turn" 41 "RatchetPost$Turn" "rootGot" "Z")]
def nd_X9_init : ev_N := [(50002, 1004, .initialized "RatchetPost$Turn"), (50004, 1130, .instanceMethod ⟨"RatchetPost$Turn", "<init>", "(LRatchetPost$Turn;[LRatchetPost$Secret;)V"⟩), (3, 1132, .methodLink "RatchetPost$Turn" 3 objectInit), (50006, 1020, .instanceMethod objectInit), (50007, 1021, .code objectInit ⟨#[0xb1]⟩ 1 none), (11, 1133, .constant "RatchetPost$Turn" 11 (1000000)), (12, 1139, .fieldLink "RatchetPost$Turn" 12 "RatchetPost$Turn" "chainGotFrom" "I"), (40002, 1156, .arrayClass .boolean), (16, 1140, .fieldLink "RatchetPost$Turn" 16 "RatchetPost$Turn" "keyGot" "[Z"), (20, 1134, .fieldLink "RatchetPost$Turn" 20 "RatchetPost$Turn" "before" "LRatchetPost$Turn;"), (24, 1135, .fieldLink "RatchetPost$Turn" 24 "RatchetPost$Turn" "pairs" "[LRatchetPost$Secret;")]
def nd_L_law : ev_N := [(50002, 1000, .initialized "RatchetPostLaw"), (7, 1014, .classLink "RatchetPostLaw" 7 "RatchetPost"), (30009, 1001, .initialized "RatchetPost"), (20009, 1015, .instantiable "RatchetPost" 15), (9, 4217, .methodLink "RatchetPostLaw" 9 ⟨"RatchetPostLaw", "cell", "([II)I"⟩), (15, 1016, .methodLink "RatchetPostLaw" 15 ⟨"RatchetPost", "<init>", "(II)V"⟩), (18, 4220, .classLink "RatchetPostLaw" 18 "RatchetPostModel"), (30010, 1008, .initialized "RatchetPostModel"), (20010, 4221, .instantiable "RatchetPostModel" 87), (20, 4222, .methodLink "RatchetPostLaw" 20 ⟨"RatchetPostModel", "<init>", "(II)V"⟩), (21, 2059, .methodLink "RatchetPostLaw" 21 ⟨"RatchetPost", "feed", "(IIIII)I"⟩), (25, 6122, .methodLink "RatchetPostLaw" 25 ⟨"RatchetPostModel", "feed", "(IIIII)I"⟩), (26, 2067, .methodLink "RatchetPostLaw" 26 ⟨"RatchetPost", "end", "(I)I"⟩), (30, 6126, .methodLink "RatchetPostLaw" 30 ⟨"RatchetPostModel", "end", "(I)I"⟩), (31, 2071, .methodLink "RatchetPostLaw" 31 ⟨"RatchetPost", "register", "(I)I"⟩), (34, 6008, .methodLink "RatchetPostLaw" 34 ⟨"RatchetPostModel", "register", "(I)I"⟩), (35, 2160, .methodLink "RatchetPostLaw" 35 ⟨"RatchetPost", "publish", "(II)I"⟩), (39, 6061, .methodLink "RatchetPostLaw" 39 ⟨"RatchetPostModel", "publish", "(II)I"⟩), (40, 2172, .methodLink "RatchetPostLaw" 40 ⟨"RatchetPost", "rotate", "(I)I"⟩), (43, 6069, .methodLink "RatchetPostLaw" 43 ⟨"RatchetPostModel", "rotate", "(I)I"⟩), (44, 2177, .methodLink "RatchetPostLaw" 44 ⟨"RatchetPost", "write", "(II)I"⟩), (47, 6130, .methodLink "RatchetPostLaw" 47 ⟨"RatchetPostModel", "write", "(II)I"⟩), (48, 3193, .methodLink "RatchetPostLaw" 48 ⟨"RatchetPost", "begin", "(II)I"⟩), (51, 6073, .methodLink "RatchetPostLaw" 51 ⟨"RatchetPostModel", "begin", "(II)I"⟩), (52, 3197, .methodLink "RatchetPostLaw" 52 ⟨"RatchetPost", "forget", "(II)I"⟩), (55, 6118, .methodLink "RatchetPostLaw" 55 ⟨"RatchetPostModel", "forget", "(II)I"⟩), (56, 3205, .methodLink "RatchetPostLaw" 56 ⟨"RatchetPost", "come", "(II)I"⟩), (59, 6166, .methodLink "RatchetPostLaw" 59 ⟨"RatchetPostModel", "come", "(II)I"⟩), (60, 4098, .methodLink "RatchetPostLaw" 60 ⟨"RatchetPost", "byteOf", "(I)I"⟩), (63, 6158, .methodLink "RatchetPostLaw" 63 ⟨"RatchetPostModel", "byteOf", "(I)I"⟩), (64, 4102, .methodLink "RatchetPostLaw" 64 ⟨"RatchetPost", "copy", "(I)I"⟩), (67, 6142, .methodLink "RatchetPostLaw" 67 ⟨"RatchetPostModel", "copy", "(I)I"⟩), (68, 4113, .methodLink "RatchetPostLaw" 68 ⟨"RatchetPost", "spoil", "(III)I"⟩), (72, 6150, .methodLink "RatchetPostLaw" 72 ⟨"RatchetPostModel", "spoil", "(III)I"⟩), (73, 4117, .methodLink "RatchetPostLaw" 73 ⟨"RatchetPost", "letter", "(II)I"⟩), (76, 6154, .methodLink "RatchetPostLaw" 76 ⟨"RatchetPostModel", "letter", "(II)I"⟩), (77, 7034, .constantLong "RatchetPostLaw" 77 (4294967295)), (79, 4121, .methodLink "RatchetPostLaw" 79 ⟨"RatchetPost", "forge", "(IJ)I"⟩), (83, 6162, .methodLink "RatchetPostLaw" 83 ⟨"RatchetPostModel", "forge", "(IJ)I"⟩), (84, 4126, .methodLink "RatchetPostLaw" 84 ⟨"RatchetPost", "user", "(II)I"⟩), (87, 6222, .methodLink "RatchetPostLaw" 87 ⟨"RatchetPostModel", "user", "(II)I"⟩), (88, 4142, .methodLink "RatchetPostLaw" 88 ⟨"RatchetPost", "number", "(II)J"⟩), (92, 6234, .methodLink "RatchetPostLaw" 92 ⟨"RatchetPostModel", "number", "(II)J"⟩), (93, 4146, .methodLink "RatchetPostLaw" 93 ⟨"RatchetPost", "session", "(IIII)I"⟩), (97, 6238, .methodLink "RatchetPostLaw" 97 ⟨"RatchetPostModel", "session", "(IIII)I"⟩), (98, 4150, .methodLink "RatchetPostLaw" 98 ⟨"RatchetPost", "inside", "(IIII)J"⟩), (102, 7006, .methodLink "RatchetPostLaw" 102 ⟨"RatchetPostModel", "inside", "(IIII)J"⟩), (103, 4154, .methodLink "RatchetPostLaw" 103 ⟨"RatchetPost", "same", "(IIII)I"⟩), (106, 7010, .methodLink "RatchetPostLaw" 106 ⟨"RatchetPostModel", "same", "(IIII)I"⟩), (107, 4158, .methodLink "RatchetPostLaw" 107 ⟨"RatchetPost", "look", "(I)I"⟩), (110, 7014, .methodLink "RatchetPostLaw" 110 ⟨"RatchetPostModel", "look", "(I)I"⟩), (111, 4194, .methodLink "RatchetPostLaw" 111 ⟨"RatchetPost", "readable", "(I)I"⟩), (114, 7022, .methodLink "RatchetPostLaw" 114 ⟨"RatchetPostModel", "readable", "(I)I"⟩), (115, 4213, .methodLink "RatchetPostLaw" 115 ⟨"RatchetPost", "count", "(I)I"⟩), (118, 7030, .methodLink "RatchetPostLaw" 118 ⟨"RatchetPostModel", "count", "(I)I"⟩)]
end
section
set_option maxRecDepth 100000 in
theorem ok_L_cell : ev_mok (ev_TT.flatten.filter goodWord) (ev_TT.flatten.filter ev_isN) ev_AO0 ev_G0 ev_TY0 ev_pg mi_L_cell := ev_mchk_ok nd_L_cell (ev_cin (l := tables_1_4) 4 219 rfl rfl rfl) (by decide +kernel) (by decide +kernel) (by decide +kernel)
set_option maxRecDepth 100000 in
theorem ok_X0_init : ev_mok (ev_TT.flatten.filter goodWord) (ev_TT.flatten.filter ev_isN) ev_AO0 ev_G0 ev_TY0 ev_pg mi_X0_init := ev_mchk_ok nd_X0_init (ev_cin (l := tables_1_1) 1 28 rfl rfl rfl) (by decide +kernel) (by decide +kernel) (by decide +kernel)
set_option maxRecDepth 100000 in
theorem ok_X10_arePair : ev_mok (ev_TT.flatten.filter goodWord) (ev_TT.flatten.filter ev_isN) ev_AO0 ev_G0 ev_TY0 ev_pg mi_X10_arePair := ev_mchk_ok nd_X10_arePair (ev_cin (l := tables_1_2) 2 184 rfl rfl rfl) (by decide +kernel) (by decide +kernel) (by decide +kernel)
set_option maxRecDepth 100000 in
theorem ok_X10_begin : ev_mok (ev_TT.flatten.filter goodWord) (ev_TT.flatten.filter ev_isN) ev_AO0 ev_G0 ev_TY0 ev_pg mi_X10_begin := ev_mchk_ok nd_X10_begin (ev_cin (l := tables_1_3) 3 196 rfl rfl rfl) (by decide +kernel) (by decide +kernel) (by decide +kernel)
set_option maxRecDepth 100000 in
theorem ok_X10_byteOf : ev_mok (ev_TT.flatten.filter goodWord) (ev_TT.flatten.filter ev_isN) ev_AO0 ev_G0 ev_TY0 ev_pg mi_X10_byteOf := ev_mchk_ok nd_X10_byteOf (ev_cin (l := tables_1_4) 4 101 rfl rfl rfl) (by decide +kernel) (by decide +kernel) (by decide +kernel)
set_option maxRecDepth 100000 in
theorem ok_X10_come : ev_mok (ev_TT.flatten.filter goodWord) (ev_TT.flatten.filter ev_isN) ev_AO0 ev_G0 ev_TY0 ev_pg mi_X10_come := ev_mchk_ok nd_X10_come (ev_cin (l := tables_1_3) 3 208 rfl rfl rfl) (by decide +kernel) (by decide +kernel) (by decide +kernel)
set_option maxRecDepth 100000 in
theorem ok_X10_copy : ev_mok (ev_TT.flatten.filter goodWord) (ev_TT.flatten.filter ev_isN) ev_AO0 ev_G0 ev_TY0 ev_pg mi_X10_copy := ev_mchk_ok nd_X10_copy (ev_cin (l := tables_1_4) 4 105 rfl rfl rfl) (by decide +kernel) (by decide +kernel) (by decide +kernel)
set_option maxRecDepth 100000 in
theorem ok_X10_count : ev_mok (ev_TT.flatten.filter goodWord) (ev_TT.flatten.filter ev_isN) ev_AO0 ev_G0 ev_TY0 ev_pg mi_X10_count := ev_mchk_ok nd_X10_count (ev_cin (l := tables_1_4) 4 216 rfl rfl rfl) (by decide +kernel) (by decide +kernel) (by decide +kernel)
set_option maxRecDepth 100000 in
theorem ok_X10_end : ev_mok (ev_TT.flatten.filter goodWord) (ev_TT.flatten.filter ev_isN) ev_AO0 ev_G0 ev_TY0 ev_pg mi_X10_end := ev_mchk_ok nd_X10_end (ev_cin (l := tables_1_2) 2 70 rfl rfl rfl) (by decide +kernel) (by decide +kernel) (by decide +kernel)
set_option maxRecDepth 100000 in
theorem ok_X10_feed : ev_mok (ev_TT.flatten.filter goodWord) (ev_TT.flatten.filter ev_isN) ev_AO0 ev_G0 ev_TY0 ev_pg mi_X10_feed := ev_mchk_ok nd_X10_feed (ev_cin (l := tables_1_2) 2 62 rfl rfl rfl) (by decide +kernel) (by decide +kernel) (by decide +kernel)
set_option maxRecDepth 100000 in
theorem ok_X10_forge : ev_mok (ev_TT.flatten.filter goodWord) (ev_TT.flatten.filter ev_isN) ev_AO0 ev_G0 ev_TY0 ev_pg mi_X10_forge := ev_mchk_ok nd_X10_forge (ev_cin (l := tables_1_4) 4 124 rfl rfl rfl) (by decide +kernel) (by decide +kernel) (by decide +kernel)
set_option maxRecDepth 100000 in
theorem ok_X10_forget : ev_mok (ev_TT.flatten.filter goodWord) (ev_TT.flatten.filter ev_isN) ev_AO0 ev_G0 ev_TY0 ev_pg mi_X10_forget := ev_mchk_ok nd_X10_forget (ev_cin (l := tables_1_3) 3 200 rfl rfl rfl) (by decide +kernel) (by decide +kernel) (by decide +kernel)
end
section
set_option maxRecDepth 100000 in
theorem ok_X10_init : ev_mok (ev_TT.flatten.filter goodWord) (ev_TT.flatten.filter ev_isN) ev_AO0 ev_G0 ev_TY0 ev_pg mi_X10_init := ev_mchk_ok nd_X10_init (ev_cin (l := tables_1_1) 1 18 rfl rfl rfl) (by decide +kernel) (by decide +kernel) (by decide +kernel)
set_option maxRecDepth 100000 in
theorem ok_X10_inside : ev_mok (ev_TT.flatten.filter goodWord) (ev_TT.flatten.filter ev_isN) ev_AO0 ev_G0 ev_TY0 ev_pg mi_X10_inside := ev_mchk_ok nd_X10_inside (ev_cin (l := tables_1_4) 4 153 rfl rfl rfl) (by decide +kernel) (by decide +kernel) (by decide +kernel)
set_option maxRecDepth 100000 in
theorem ok_X10_isLetter : ev_mok (ev_TT.flatten.filter goodWord) (ev_TT.flatten.filter ev_isN) ev_AO0 ev_G0 ev_TY0 ev_pg mi_X10_isLetter := ev_mchk_ok nd_X10_isLetter (ev_cin (l := tables_1_3) 3 212 rfl rfl rfl) (by decide +kernel) (by decide +kernel) (by decide +kernel)
set_option maxRecDepth 100000 in
theorem ok_X10_isUser : ev_mok (ev_TT.flatten.filter goodWord) (ev_TT.flatten.filter ev_isN) ev_AO0 ev_G0 ev_TY0 ev_pg mi_X10_isUser := ev_mchk_ok nd_X10_isUser (ev_cin (l := tables_1_2) 2 78 rfl rfl rfl) (by decide +kernel) (by decide +kernel) (by decide +kernel)
set_option maxRecDepth 100000 in
theorem ok_X10_letter : ev_mok (ev_TT.flatten.filter goodWord) (ev_TT.flatten.filter ev_isN) ev_AO0 ev_G0 ev_TY0 ev_pg mi_X10_letter := ev_mchk_ok nd_X10_letter (ev_cin (l := tables_1_4) 4 120 rfl rfl rfl) (by decide +kernel) (by decide +kernel) (by decide +kernel)
set_option maxRecDepth 100000 in
theorem ok_X10_look : ev_mok (ev_TT.flatten.filter goodWord) (ev_TT.flatten.filter ev_isN) ev_AO0 ev_G0 ev_TY0 ev_pg mi_X10_look := ev_mchk_ok nd_X10_look (ev_cin (l := tables_1_4) 4 161 rfl rfl rfl) (by decide +kernel) (by decide +kernel) (by decide +kernel)
set_option maxRecDepth 100000 in
theorem ok_X10_number : ev_mok (ev_TT.flatten.filter goodWord) (ev_TT.flatten.filter ev_isN) ev_AO0 ev_G0 ev_TY0 ev_pg mi_X10_number := ev_mchk_ok nd_X10_number (ev_cin (l := tables_1_4) 4 145 rfl rfl rfl) (by decide +kernel) (by decide +kernel) (by decide +kernel)
set_option maxRecDepth 100000 in
theorem ok_X10_oneIf : ev_mok (ev_TT.flatten.filter goodWord) (ev_TT.flatten.filter ev_isN) ev_AO0 ev_G0 ev_TY0 ev_pg mi_X10_oneIf := ev_mchk_ok nd_X10_oneIf (ev_cin (l := tables_1_4) 4 132 rfl rfl rfl) (by decide +kernel) (by decide +kernel) (by decide +kernel)
set_option maxRecDepth 100000 in
theorem ok_X10_publish : ev_mok (ev_TT.flatten.filter goodWord) (ev_TT.flatten.filter ev_isN) ev_AO0 ev_G0 ev_TY0 ev_pg mi_X10_publish := ev_mchk_ok nd_X10_publish (ev_cin (l := tables_1_2) 2 163 rfl rfl rfl) (by decide +kernel) (by decide +kernel) (by decide +kernel)
set_option maxRecDepth 100000 in
theorem ok_X10_putOnTape : ev_mok (ev_TT.flatten.filter goodWord) (ev_TT.flatten.filter ev_isN) ev_AO0 ev_G0 ev_TY0 ev_pg mi_X10_putOnTape := ev_mchk_ok nd_X10_putOnTape (ev_cin (l := tables_1_2) 2 66 rfl rfl rfl) (by decide +kernel) (by decide +kernel) (by decide +kernel)
set_option maxRecDepth 100000 in
theorem ok_X10_readable : ev_mok (ev_TT.flatten.filter goodWord) (ev_TT.flatten.filter ev_isN) ev_AO0 ev_G0 ev_TY0 ev_pg mi_X10_readable := ev_mchk_ok nd_X10_readable (ev_cin (l := tables_1_4) 4 197 rfl rfl rfl) (by decide +kernel) (by decide +kernel) (by decide +kernel)
set_option maxRecDepth 100000 in
theorem ok_X10_register : ev_mok (ev_TT.flatten.filter goodWord) (ev_TT.flatten.filter ev_isN) ev_AO0 ev_G0 ev_TY0 ev_pg mi_X10_register := ev_mchk_ok nd_X10_register (ev_cin (l := tables_1_2) 2 74 rfl rfl rfl) (by decide +kernel) (by decide +kernel) (by decide +kernel)
end
section
set_option maxRecDepth 100000 in
theorem ok_X10_rotate : ev_mok (ev_TT.flatten.filter goodWord) (ev_TT.flatten.filter ev_isN) ev_AO0 ev_G0 ev_TY0 ev_pg mi_X10_rotate := ev_mchk_ok nd_X10_rotate (ev_cin (l := tables_1_2) 2 175 rfl rfl rfl) (by decide +kernel) (by decide +kernel) (by decide +kernel)
set_option maxRecDepth 100000 in
theorem ok_X10_same : ev_mok (ev_TT.flatten.filter goodWord) (ev_TT.flatten.filter ev_isN) ev_AO0 ev_G0 ev_TY0 ev_pg mi_X10_same := ev_mchk_ok nd_X10_same (ev_cin (l := tables_1_4) 4 157 rfl rfl rfl) (by decide +kernel) (by decide +kernel) (by decide +kernel)
set_option maxRecDepth 100000 in
theorem ok_X10_session : ev_mok (ev_TT.flatten.filter goodWord) (ev_TT.flatten.filter ev_isN) ev_AO0 ev_G0 ev_TY0 ev_pg mi_X10_session := ev_mchk_ok nd_X10_session (ev_cin (l := tables_1_4) 4 149 rfl rfl rfl) (by decide +kernel) (by decide +kernel) (by decide +kernel)
set_option maxRecDepth 100000 in
theorem ok_X10_spoil : ev_mok (ev_TT.flatten.filter goodWord) (ev_TT.flatten.filter ev_isN) ev_AO0 ev_G0 ev_TY0 ev_pg mi_X10_spoil := ev_mchk_ok nd_X10_spoil (ev_cin (l := tables_1_4) 4 116 rfl rfl rfl) (by decide +kernel) (by decide +kernel) (by decide +kernel)
set_option maxRecDepth 100000 in
theorem ok_X10_user : ev_mok (ev_TT.flatten.filter goodWord) (ev_TT.flatten.filter ev_isN) ev_AO0 ev_G0 ev_TY0 ev_pg mi_X10_user := ev_mchk_ok nd_X10_user (ev_cin (l := tables_1_4) 4 129 rfl rfl rfl) (by decide +kernel) (by decide +kernel) (by decide +kernel)
set_option maxRecDepth 100000 in
theorem ok_X10_write : ev_mok (ev_TT.flatten.filter goodWord) (ev_TT.flatten.filter ev_isN) ev_AO0 ev_G0 ev_TY0 ev_pg mi_X10_write := ev_mchk_ok nd_X10_write (ev_cin (l := tables_1_2) 2 180 rfl rfl rfl) (by decide +kernel) (by decide +kernel) (by decide +kernel)
set_option maxRecDepth 100000 in
theorem ok_X11_asSecret : ev_mok (ev_TT.flatten.filter goodWord) (ev_TT.flatten.filter ev_isN) ev_AO0 ev_G0 ev_TY0 ev_pg mi_X11_asSecret := ev_mchk_ok nd_X11_asSecret (ev_cin (l := tables_1_6) 6 32 rfl rfl rfl) (by decide +kernel) (by decide +kernel) (by decide +kernel)
set_option maxRecDepth 100000 in
theorem ok_X11_begin : ev_mok (ev_TT.flatten.filter goodWord) (ev_TT.flatten.filter ev_isN) ev_AO0 ev_G0 ev_TY0 ev_pg mi_X11_begin := ev_mchk_ok nd_X11_begin (ev_cin (l := tables_1_6) 6 76 rfl rfl rfl) (by decide +kernel) (by decide +kernel) (by decide +kernel)
set_option maxRecDepth 100000 in
theorem ok_X11_byteOf : ev_mok (ev_TT.flatten.filter goodWord) (ev_TT.flatten.filter ev_isN) ev_AO0 ev_G0 ev_TY0 ev_pg mi_X11_byteOf := ev_mchk_ok nd_X11_byteOf (ev_cin (l := tables_1_6) 6 161 rfl rfl rfl) (by decide +kernel) (by decide +kernel) (by decide +kernel)
set_option maxRecDepth 100000 in
theorem ok_X11_come : ev_mok (ev_TT.flatten.filter goodWord) (ev_TT.flatten.filter ev_isN) ev_AO0 ev_G0 ev_TY0 ev_pg mi_X11_come := ev_mchk_ok nd_X11_come (ev_cin (l := tables_1_6) 6 169 rfl rfl rfl) (by decide +kernel) (by decide +kernel) (by decide +kernel)
set_option maxRecDepth 100000 in
theorem ok_X11_copy : ev_mok (ev_TT.flatten.filter goodWord) (ev_TT.flatten.filter ev_isN) ev_AO0 ev_G0 ev_TY0 ev_pg mi_X11_copy := ev_mchk_ok nd_X11_copy (ev_cin (l := tables_1_6) 6 145 rfl rfl rfl) (by decide +kernel) (by decide +kernel) (by decide +kernel)
set_option maxRecDepth 100000 in
theorem ok_X11_count : ev_mok (ev_TT.flatten.filter goodWord) (ev_TT.flatten.filter ev_isN) ev_AO0 ev_G0 ev_TY0 ev_pg mi_X11_count := ev_mchk_ok nd_X11_count (ev_cin (l := tables_1_7) 7 33 rfl rfl rfl) (by decide +kernel) (by decide +kernel) (by decide +kernel)
end
section
set_option maxRecDepth 100000 in
theorem ok_X11_draw : ev_mok (ev_TT.flatten.filter goodWord) (ev_TT.flatten.filter ev_isN) ev_AO0 ev_G0 ev_TY0 ev_pg mi_X11_draw := ev_mchk_ok nd_X11_draw (ev_cin (l := tables_1_6) 6 23 rfl rfl rfl) (by decide +kernel) (by decide +kernel) (by decide +kernel)
set_option maxRecDepth 100000 in
theorem ok_X11_drawTerm : ev_mok (ev_TT.flatten.filter goodWord) (ev_TT.flatten.filter ev_isN) ev_AO0 ev_G0 ev_TY0 ev_pg mi_X11_drawTerm := ev_mchk_ok nd_X11_drawTerm (ev_cin (l := tables_1_6) 6 19 rfl rfl rfl) (by decide +kernel) (by decide +kernel) (by decide +kernel)
set_option maxRecDepth 100000 in
theorem ok_X11_end : ev_mok (ev_TT.flatten.filter goodWord) (ev_TT.flatten.filter ev_isN) ev_AO0 ev_G0 ev_TY0 ev_pg mi_X11_end := ev_mchk_ok nd_X11_end (ev_cin (l := tables_1_6) 6 129 rfl rfl rfl) (by decide +kernel) (by decide +kernel) (by decide +kernel)
set_option maxRecDepth 100000 in
theorem ok_X11_feed : ev_mok (ev_TT.flatten.filter goodWord) (ev_TT.flatten.filter ev_isN) ev_AO0 ev_G0 ev_TY0 ev_pg mi_X11_feed := ev_mchk_ok nd_X11_feed (ev_cin (l := tables_1_6) 6 125 rfl rfl rfl) (by decide +kernel) (by decide +kernel) (by decide +kernel)
set_option maxRecDepth 100000 in
theorem ok_X11_forge : ev_mok (ev_TT.flatten.filter goodWord) (ev_TT.flatten.filter ev_isN) ev_AO0 ev_G0 ev_TY0 ev_pg mi_X11_forge := ev_mchk_ok nd_X11_forge (ev_cin (l := tables_1_6) 6 165 rfl rfl rfl) (by decide +kernel) (by decide +kernel) (by decide +kernel)
set_option maxRecDepth 100000 in
theorem ok_X11_forget : ev_mok (ev_TT.flatten.filter goodWord) (ev_TT.flatten.filter ev_isN) ev_AO0 ev_G0 ev_TY0 ev_pg mi_X11_forget := ev_mchk_ok nd_X11_forget (ev_cin (l := tables_1_6) 6 121 rfl rfl rfl) (by decide +kernel) (by decide +kernel) (by decide +kernel)
set_option maxRecDepth 100000 in
theorem ok_X11_init : ev_mok (ev_TT.flatten.filter goodWord) (ev_TT.flatten.filter ev_isN) ev_AO0 ev_G0 ev_TY0 ev_pg mi_X11_init := ev_mchk_ok nd_X11_init (ev_cin (l := tables_1_4) 4 224 rfl rfl rfl) (by decide +kernel) (by decide +kernel) (by decide +kernel)
set_option maxRecDepth 100000 in
theorem ok_X11_inside : ev_mok (ev_TT.flatten.filter goodWord) (ev_TT.flatten.filter ev_isN) ev_AO0 ev_G0 ev_TY0 ev_pg mi_X11_inside := ev_mchk_ok nd_X11_inside (ev_cin (l := tables_1_7) 7 9 rfl rfl rfl) (by decide +kernel) (by decide +kernel) (by decide +kernel)
set_option maxRecDepth 100000 in
theorem ok_X11_isLetter : ev_mok (ev_TT.flatten.filter goodWord) (ev_TT.flatten.filter ev_isN) ev_AO0 ev_G0 ev_TY0 ev_pg mi_X11_isLetter := ev_mchk_ok nd_X11_isLetter (ev_cin (l := tables_1_6) 6 149 rfl rfl rfl) (by decide +kernel) (by decide +kernel) (by decide +kernel)
set_option maxRecDepth 100000 in
theorem ok_X11_isThere : ev_mok (ev_TT.flatten.filter goodWord) (ev_TT.flatten.filter ev_isN) ev_AO0 ev_G0 ev_TY0 ev_pg mi_X11_isThere := ev_mchk_ok nd_X11_isThere (ev_cin (l := tables_1_6) 6 15 rfl rfl rfl) (by decide +kernel) (by decide +kernel) (by decide +kernel)
set_option maxRecDepth 100000 in
theorem ok_X11_keptSecrets : ev_mok (ev_TT.flatten.filter goodWord) (ev_TT.flatten.filter ev_isN) ev_AO0 ev_G0 ev_TY0 ev_pg mi_X11_keptSecrets := ev_mchk_ok nd_X11_keptSecrets (ev_cin (l := tables_1_6) 6 229 rfl rfl rfl) (by decide +kernel) (by decide +kernel) (by decide +kernel)
set_option maxRecDepth 100000 in
theorem ok_X11_leastOnce : ev_mok (ev_TT.flatten.filter goodWord) (ev_TT.flatten.filter ev_isN) ev_AO0 ev_G0 ev_TY0 ev_pg mi_X11_leastOnce := ev_mchk_ok nd_X11_leastOnce (ev_cin (l := tables_1_6) 6 84 rfl rfl rfl) (by decide +kernel) (by decide +kernel) (by decide +kernel)
end
section
set_option maxRecDepth 100000 in
theorem ok_X11_lend : ev_mok (ev_TT.flatten.filter goodWord) (ev_TT.flatten.filter ev_isN) ev_AO0 ev_G0 ev_TY0 ev_pg mi_X11_lend := ev_mchk_ok nd_X11_lend (ev_cin (l := tables_1_6) 6 52 rfl rfl rfl) (by decide +kernel) (by decide +kernel) (by decide +kernel)
set_option maxRecDepth 100000 in
theorem ok_X11_letter : ev_mok (ev_TT.flatten.filter goodWord) (ev_TT.flatten.filter ev_isN) ev_AO0 ev_G0 ev_TY0 ev_pg mi_X11_letter := ev_mchk_ok nd_X11_letter (ev_cin (l := tables_1_6) 6 157 rfl rfl rfl) (by decide +kernel) (by decide +kernel) (by decide +kernel)
set_option maxRecDepth 100000 in
theorem ok_X11_look : ev_mok (ev_TT.flatten.filter goodWord) (ev_TT.flatten.filter ev_isN) ev_AO0 ev_G0 ev_TY0 ev_pg mi_X11_look := ev_mchk_ok nd_X11_look (ev_cin (l := tables_1_7) 7 17 rfl rfl rfl) (by decide +kernel) (by decide +kernel) (by decide +kernel)
set_option maxRecDepth 100000 in
theorem ok_X11_mix : ev_mok (ev_TT.flatten.filter goodWord) (ev_TT.flatten.filter ev_isN) ev_AO0 ev_G0 ev_TY0 ev_pg mi_X11_mix := ev_mchk_ok nd_X11_mix (ev_cin (l := tables_1_6) 6 26 rfl rfl rfl) (by decide +kernel) (by decide +kernel) (by decide +kernel)
set_option maxRecDepth 100000 in
theorem ok_X11_modQ : ev_mok (ev_TT.flatten.filter goodWord) (ev_TT.flatten.filter ev_isN) ev_AO0 ev_G0 ev_TY0 ev_pg mi_X11_modQ := ev_mchk_ok nd_X11_modQ (ev_cin (l := tables_1_6) 6 55 rfl rfl rfl) (by decide +kernel) (by decide +kernel) (by decide +kernel)
set_option maxRecDepth 100000 in
theorem ok_X11_number : ev_mok (ev_TT.flatten.filter goodWord) (ev_TT.flatten.filter ev_isN) ev_AO0 ev_G0 ev_TY0 ev_pg mi_X11_number := ev_mchk_ok nd_X11_number (ev_cin (l := tables_1_6) 6 237 rfl rfl rfl) (by decide +kernel) (by decide +kernel) (by decide +kernel)
set_option maxRecDepth 100000 in
theorem ok_X11_onceInDirectory : ev_mok (ev_TT.flatten.filter goodWord) (ev_TT.flatten.filter ev_isN) ev_AO0 ev_G0 ev_TY0 ev_pg mi_X11_onceInDirectory := ev_mchk_ok nd_X11_onceInDirectory (ev_cin (l := tables_1_6) 6 68 rfl rfl rfl) (by decide +kernel) (by decide +kernel) (by decide +kernel)
set_option maxRecDepth 100000 in
theorem ok_X11_power : ev_mok (ev_TT.flatten.filter goodWord) (ev_TT.flatten.filter ev_isN) ev_AO0 ev_G0 ev_TY0 ev_pg mi_X11_power := ev_mchk_ok nd_X11_power (ev_cin (l := tables_1_6) 6 38 rfl rfl rfl) (by decide +kernel) (by decide +kernel) (by decide +kernel)
set_option maxRecDepth 100000 in
theorem ok_X11_publish : ev_mok (ev_TT.flatten.filter goodWord) (ev_TT.flatten.filter ev_isN) ev_AO0 ev_G0 ev_TY0 ev_pg mi_X11_publish := ev_mchk_ok nd_X11_publish (ev_cin (l := tables_1_6) 6 64 rfl rfl rfl) (by decide +kernel) (by decide +kernel) (by decide +kernel)
set_option maxRecDepth 100000 in
theorem ok_X11_readable : ev_mok (ev_TT.flatten.filter goodWord) (ev_TT.flatten.filter ev_isN) ev_AO0 ev_G0 ev_TY0 ev_pg mi_X11_readable := ev_mchk_ok nd_X11_readable (ev_cin (l := tables_1_7) 7 25 rfl rfl rfl) (by decide +kernel) (by decide +kernel) (by decide +kernel)
set_option maxRecDepth 100000 in
theorem ok_X11_register : ev_mok (ev_TT.flatten.filter goodWord) (ev_TT.flatten.filter ev_isN) ev_AO0 ev_G0 ev_TY0 ev_pg mi_X11_register := ev_mchk_ok nd_X11_register (ev_cin (l := tables_1_6) 6 11 rfl rfl rfl) (by decide +kernel) (by decide +kernel) (by decide +kernel)
set_option maxRecDepth 100000 in
theorem ok_X11_rotate : ev_mok (ev_TT.flatten.filter goodWord) (ev_TT.flatten.filter ev_isN) ev_AO0 ev_G0 ev_TY0 ev_pg mi_X11_rotate := ev_mchk_ok nd_X11_rotate (ev_cin (l := tables_1_6) 6 72 rfl rfl rfl) (by decide +kernel) (by decide +kernel) (by decide +kernel)
end
section
set_option maxRecDepth 100000 in
theorem ok_X11_same : ev_mok (ev_TT.flatten.filter goodWord) (ev_TT.flatten.filter ev_isN) ev_AO0 ev_G0 ev_TY0 ev_pg mi_X11_same := ev_mchk_ok nd_X11_same (ev_cin (l := tables_1_7) 7 13 rfl rfl rfl) (by decide +kernel) (by decide +kernel) (by decide +kernel)
set_option maxRecDepth 100000 in
theorem ok_X11_session : ev_mok (ev_TT.flatten.filter goodWord) (ev_TT.flatten.filter ev_isN) ev_AO0 ev_G0 ev_TY0 ev_pg mi_X11_session := ev_mchk_ok nd_X11_session (ev_cin (l := tables_1_7) 7 1 rfl rfl rfl) (by decide +kernel) (by decide +kernel) (by decide +kernel)
set_option maxRecDepth 100000 in
theorem ok_X11_sessionsOf : ev_mok (ev_TT.flatten.filter goodWord) (ev_TT.flatten.filter ev_isN) ev_AO0 ev_G0 ev_TY0 ev_pg mi_X11_sessionsOf := ev_mchk_ok nd_X11_sessionsOf (ev_cin (l := tables_1_6) 6 233 rfl rfl rfl) (by decide +kernel) (by decide +kernel) (by decide +kernel)
set_option maxRecDepth 100000 in
theorem ok_X11_slotOf : ev_mok (ev_TT.flatten.filter goodWord) (ev_TT.flatten.filter ev_isN) ev_AO0 ev_G0 ev_TY0 ev_pg mi_X11_slotOf := ev_mchk_ok nd_X11_slotOf (ev_cin (l := tables_1_7) 7 5 rfl rfl rfl) (by decide +kernel) (by decide +kernel) (by decide +kernel)
set_option maxRecDepth 100000 in
theorem ok_X11_spoil : ev_mok (ev_TT.flatten.filter goodWord) (ev_TT.flatten.filter ev_isN) ev_AO0 ev_G0 ev_TY0 ev_pg mi_X11_spoil := ev_mchk_ok nd_X11_spoil (ev_cin (l := tables_1_6) 6 153 rfl rfl rfl) (by decide +kernel) (by decide +kernel) (by decide +kernel)
set_option maxRecDepth 100000 in
theorem ok_X11_term : ev_mok (ev_TT.flatten.filter goodWord) (ev_TT.flatten.filter ev_isN) ev_AO0 ev_G0 ev_TY0 ev_pg mi_X11_term := ev_mchk_ok nd_X11_term (ev_cin (l := tables_1_6) 6 48 rfl rfl rfl) (by decide +kernel) (by decide +kernel) (by decide +kernel)
set_option maxRecDepth 100000 in
theorem ok_X11_times : ev_mok (ev_TT.flatten.filter goodWord) (ev_TT.flatten.filter ev_isN) ev_AO0 ev_G0 ev_TY0 ev_pg mi_X11_times := ev_mchk_ok nd_X11_times (ev_cin (l := tables_1_6) 6 41 rfl rfl rfl) (by decide +kernel) (by decide +kernel) (by decide +kernel)
set_option maxRecDepth 100000 in
theorem ok_X11_timesQ : ev_mok (ev_TT.flatten.filter goodWord) (ev_TT.flatten.filter ev_isN) ev_AO0 ev_G0 ev_TY0 ev_pg mi_X11_timesQ := ev_mchk_ok nd_X11_timesQ (ev_cin (l := tables_1_6) 6 59 rfl rfl rfl) (by decide +kernel) (by decide +kernel) (by decide +kernel)
set_option maxRecDepth 100000 in
theorem ok_X11_user : ev_mok (ev_TT.flatten.filter goodWord) (ev_TT.flatten.filter ev_isN) ev_AO0 ev_G0 ev_TY0 ev_pg mi_X11_user := ev_mchk_ok nd_X11_user (ev_cin (l := tables_1_6) 6 225 rfl rfl rfl) (by decide +kernel) (by decide +kernel) (by decide +kernel)
set_option maxRecDepth 100000 in
theorem ok_X11_write : ev_mok (ev_TT.flatten.filter goodWord) (ev_TT.flatten.filter ev_isN) ev_AO0 ev_G0 ev_TY0 ev_pg mi_X11_write := ev_mchk_ok nd_X11_write (ev_cin (l := tables_1_6) 6 133 rfl rfl rfl) (by decide +kernel) (by decide +kernel) (by decide +kernel)
set_option maxRecDepth 100000 in
theorem ok_X3_isOpen : ev_mok (ev_TT.flatten.filter goodWord) (ev_TT.flatten.filter ev_isN) ev_AO0 ev_G0 ev_TY0 ev_pg mi_X3_isOpen := ev_mchk_ok nd_X3_isOpen (ev_cin (l := tables_1_2) 2 112 rfl rfl rfl) (by decide +kernel) (by decide +kernel) (by decide +kernel)
set_option maxRecDepth 100000 in
theorem ok_X3_mix : ev_mok (ev_TT.flatten.filter goodWord) (ev_TT.flatten.filter ev_isN) ev_AO0 ev_G0 ev_TY0 ev_pg mi_X3_mix := ev_mchk_ok nd_X3_mix (ev_cin (l := tables_1_2) 2 93 rfl rfl rfl) (by decide +kernel) (by decide +kernel) (by decide +kernel)
end
section
set_option maxRecDepth 100000 in
theorem ok_X3_power : ev_mok (ev_TT.flatten.filter goodWord) (ev_TT.flatten.filter ev_isN) ev_AO0 ev_G0 ev_TY0 ev_pg mi_X3_power := ev_mchk_ok nd_X3_power (ev_cin (l := tables_1_2) 2 109 rfl rfl rfl) (by decide +kernel) (by decide +kernel) (by decide +kernel)
set_option maxRecDepth 100000 in
theorem ok_X3_rest : ev_mok (ev_TT.flatten.filter goodWord) (ev_TT.flatten.filter ev_isN) ev_AO0 ev_G0 ev_TY0 ev_pg mi_X3_rest := ev_mchk_ok nd_X3_rest (ev_cin (l := tables_1_2) 2 103 rfl rfl rfl) (by decide +kernel) (by decide +kernel) (by decide +kernel)
set_option maxRecDepth 100000 in
theorem ok_X3_sealProof : ev_mok (ev_TT.flatten.filter goodWord) (ev_TT.flatten.filter ev_isN) ev_AO0 ev_G0 ev_TY0 ev_pg mi_X3_sealProof := ev_mchk_ok nd_X3_sealProof (ev_cin (l := tables_1_2) 2 151 rfl rfl rfl) (by decide +kernel) (by decide +kernel) (by decide +kernel)
set_option maxRecDepth 100000 in
theorem ok_X3_sealSum : ev_mok (ev_TT.flatten.filter goodWord) (ev_TT.flatten.filter ev_isN) ev_AO0 ev_G0 ev_TY0 ev_pg mi_X3_sealSum := ev_mchk_ok nd_X3_sealSum (ev_cin (l := tables_1_2) 2 154 rfl rfl rfl) (by decide +kernel) (by decide +kernel) (by decide +kernel)
set_option maxRecDepth 100000 in
theorem ok_X3_secretOf : ev_mok (ev_TT.flatten.filter goodWord) (ev_TT.flatten.filter ev_isN) ev_AO0 ev_G0 ev_TY0 ev_pg mi_X3_secretOf := ev_mchk_ok nd_X3_secretOf (ev_cin (l := tables_1_2) 2 99 rfl rfl rfl) (by decide +kernel) (by decide +kernel) (by decide +kernel)
set_option maxRecDepth 100000 in
theorem ok_X3_times : ev_mok (ev_TT.flatten.filter goodWord) (ev_TT.flatten.filter ev_isN) ev_AO0 ev_G0 ev_TY0 ev_pg mi_X3_times := ev_mchk_ok nd_X3_times (ev_cin (l := tables_1_2) 2 116 rfl rfl rfl) (by decide +kernel) (by decide +kernel) (by decide +kernel)
set_option maxRecDepth 100000 in
theorem ok_X3_timesModuloQ : ev_mok (ev_TT.flatten.filter goodWord) (ev_TT.flatten.filter ev_isN) ev_AO0 ev_G0 ev_TY0 ev_pg mi_X3_timesModuloQ := ev_mchk_ok nd_X3_timesModuloQ (ev_cin (l := tables_1_2) 2 159 rfl rfl rfl) (by decide +kernel) (by decide +kernel) (by decide +kernel)
set_option maxRecDepth 100000 in
theorem ok_X4_init : ev_mok (ev_TT.flatten.filter goodWord) (ev_TT.flatten.filter ev_isN) ev_AO0 ev_G0 ev_TY0 ev_pg mi_X4_init := ev_mchk_ok nd_X4_init (ev_cin (l := tables_1_1) 1 96 rfl rfl rfl) (by decide +kernel) (by decide +kernel) (by decide +kernel)
set_option maxRecDepth 100000 in
theorem ok_X5_drawSecret : ev_mok (ev_TT.flatten.filter goodWord) (ev_TT.flatten.filter ev_isN) ev_AO0 ev_G0 ev_TY0 ev_pg mi_X5_drawSecret := ev_mchk_ok nd_X5_drawSecret (ev_cin (l := tables_1_2) 2 90 rfl rfl rfl) (by decide +kernel) (by decide +kernel) (by decide +kernel)
set_option maxRecDepth 100000 in
theorem ok_X5_enrol : ev_mok (ev_TT.flatten.filter goodWord) (ev_TT.flatten.filter ev_isN) ev_AO0 ev_G0 ev_TY0 ev_pg mi_X5_enrol := ev_mchk_ok nd_X5_enrol (ev_cin (l := tables_1_2) 2 86 rfl rfl rfl) (by decide +kernel) (by decide +kernel) (by decide +kernel)
set_option maxRecDepth 100000 in
theorem ok_X5_giveAway : ev_mok (ev_TT.flatten.filter goodWord) (ev_TT.flatten.filter ev_isN) ev_AO0 ev_G0 ev_TY0 ev_pg mi_X5_giveAway := ev_mchk_ok nd_X5_giveAway (ev_cin (l := tables_1_4) 4 165 rfl rfl rfl) (by decide +kernel) (by decide +kernel) (by decide +kernel)
set_option maxRecDepth 100000 in
theorem ok_X5_init : ev_mok (ev_TT.flatten.filter goodWord) (ev_TT.flatten.filter ev_isN) ev_AO0 ev_G0 ev_TY0 ev_pg mi_X5_init := ev_mchk_ok nd_X5_init (ev_cin (l := tables_1_1) 1 168 rfl rfl rfl) (by decide +kernel) (by decide +kernel) (by decide +kernel)
end
section
set_option maxRecDepth 100000 in
theorem ok_X5_isRegistered : ev_mok (ev_TT.flatten.filter goodWord) (ev_TT.flatten.filter ev_isN) ev_AO0 ev_G0 ev_TY0 ev_pg mi_X5_isRegistered := ev_mchk_ok nd_X5_isRegistered (ev_cin (l := tables_1_2) 2 82 rfl rfl rfl) (by decide +kernel) (by decide +kernel) (by decide +kernel)
set_option maxRecDepth 100000 in
theorem ok_X5_leastOnce : ev_mok (ev_TT.flatten.filter goodWord) (ev_TT.flatten.filter ev_isN) ev_AO0 ev_G0 ev_TY0 ev_pg mi_X5_leastOnce := ev_mchk_ok nd_X5_leastOnce (ev_cin (l := tables_1_2) 2 196 rfl rfl rfl) (by decide +kernel) (by decide +kernel) (by decide +kernel)
set_option maxRecDepth 100000 in
theorem ok_X5_makeLentKey : ev_mok (ev_TT.flatten.filter goodWord) (ev_TT.flatten.filter ev_isN) ev_AO0 ev_G0 ev_TY0 ev_pg mi_X5_makeLentKey := ev_mchk_ok nd_X5_makeLentKey (ev_cin (l := tables_1_2) 2 148 rfl rfl rfl) (by decide +kernel) (by decide +kernel) (by decide +kernel)
set_option maxRecDepth 100000 in
theorem ok_X5_onceSecretsKept : ev_mok (ev_TT.flatten.filter goodWord) (ev_TT.flatten.filter ev_isN) ev_AO0 ev_G0 ev_TY0 ev_pg mi_X5_onceSecretsKept := ev_mchk_ok nd_X5_onceSecretsKept (ev_cin (l := tables_1_4) 4 137 rfl rfl rfl) (by decide +kernel) (by decide +kernel) (by decide +kernel)
set_option maxRecDepth 100000 in
theorem ok_X5_onceThere : ev_mok (ev_TT.flatten.filter goodWord) (ev_TT.flatten.filter ev_isN) ev_AO0 ev_G0 ev_TY0 ev_pg mi_X5_onceThere := ev_mchk_ok nd_X5_onceThere (ev_cin (l := tables_1_2) 2 167 rfl rfl rfl) (by decide +kernel) (by decide +kernel) (by decide +kernel)
set_option maxRecDepth 100000 in
theorem ok_X5_sessionsInAll : ev_mok (ev_TT.flatten.filter goodWord) (ev_TT.flatten.filter ev_isN) ev_AO0 ev_G0 ev_TY0 ev_pg mi_X5_sessionsInAll := ev_mchk_ok nd_X5_sessionsInAll (ev_cin (l := tables_1_4) 4 141 rfl rfl rfl) (by decide +kernel) (by decide +kernel) (by decide +kernel)
set_option maxRecDepth 100000 in
theorem ok_X6_at : ev_mok (ev_TT.flatten.filter goodWord) (ev_TT.flatten.filter ev_isN) ev_AO0 ev_G0 ev_TY0 ev_pg mi_X6_at := ev_mchk_ok nd_X6_at (ev_cin (l := tables_1_3) 3 143 rfl rfl rfl) (by decide +kernel) (by decide +kernel) (by decide +kernel)
set_option maxRecDepth 100000 in
theorem ok_X6_giveAway : ev_mok (ev_TT.flatten.filter goodWord) (ev_TT.flatten.filter ev_isN) ev_AO0 ev_G0 ev_TY0 ev_pg mi_X6_giveAway := ev_mchk_ok nd_X6_giveAway (ev_cin (l := tables_1_4) 4 174 rfl rfl rfl) (by decide +kernel) (by decide +kernel) (by decide +kernel)
set_option maxRecDepth 100000 in
theorem ok_X6_init : ev_mok (ev_TT.flatten.filter goodWord) (ev_TT.flatten.filter ev_isN) ev_AO0 ev_G0 ev_TY0 ev_pg mi_X6_init := ev_mchk_ok nd_X6_init (ev_cin (l := tables_1_1) 1 176 rfl rfl rfl) (by decide +kernel) (by decide +kernel) (by decide +kernel)
set_option maxRecDepth 100000 in
theorem ok_X6_retireAll : ev_mok (ev_TT.flatten.filter goodWord) (ev_TT.flatten.filter ev_isN) ev_AO0 ev_G0 ev_TY0 ev_pg mi_X6_retireAll := ev_mchk_ok nd_X6_retireAll (ev_cin (l := tables_1_3) 3 204 rfl rfl rfl) (by decide +kernel) (by decide +kernel) (by decide +kernel)
set_option maxRecDepth 100000 in
theorem ok_X7_give : ev_mok (ev_TT.flatten.filter goodWord) (ev_TT.flatten.filter ev_isN) ev_AO0 ev_G0 ev_TY0 ev_pg mi_X7_give := ev_mchk_ok nd_X7_give (ev_cin (l := tables_1_4) 4 168 rfl rfl rfl) (by decide +kernel) (by decide +kernel) (by decide +kernel)
set_option maxRecDepth 100000 in
theorem ok_X7_init : ev_mok (ev_TT.flatten.filter goodWord) (ev_TT.flatten.filter ev_isN) ev_AO0 ev_G0 ev_TY0 ev_pg mi_X7_init := ev_mchk_ok nd_X7_init (ev_cin (l := tables_1_2) 2 121 rfl rfl rfl) (by decide +kernel) (by decide +kernel) (by decide +kernel)
end
section
set_option maxRecDepth 100000 in
theorem ok_X9_giveRoot : ev_mok (ev_TT.flatten.filter goodWord) (ev_TT.flatten.filter ev_isN) ev_AO0 ev_G0 ev_TY0 ev_pg mi_X9_giveRoot := ev_mchk_ok nd_X9_giveRoot (ev_cin (l := tables_1_2) 2 12 rfl rfl rfl) (by decide +kernel) (by decide +kernel) (by decide +kernel)
set_option maxRecDepth 100000 in
theorem ok_X9_init : ev_mok (ev_TT.flatten.filter goodWord) (ev_TT.flatten.filter ev_isN) ev_AO0 ev_G0 ev_TY0 ev_pg mi_X9_init := ev_mchk_ok nd_X9_init (ev_cin (l := tables_1_1) 1 131 rfl rfl rfl) (by decide +kernel) (by decide +kernel) (by decide +kernel)
def ev_cck (M : ev_M) (nd : ev_N) (pc : Nat) : Bool := match ev_at M pc with
  | none => true
  | some E => decide (decode (ev_mB M) pc = .ok (E.1, E.2.1)) && ev_lchk ev_AO0 ev_G0 ev_TY0 ev_pg nd (ev_mN M).cls (ev_mK M) E
set_option maxRecDepth 100000 in
theorem ok_law_0 : ∀ i, i < 64 → ev_cck mi_L_law nd_L_law (0 + i) = true := by decide +kernel
set_option maxRecDepth 100000 in
theorem ok_law_1 : ∀ i, i < 64 → ev_cck mi_L_law nd_L_law (64 + i) = true := by decide +kernel
set_option maxRecDepth 100000 in
theorem ok_law_2 : ∀ i, i < 64 → ev_cck mi_L_law nd_L_law (128 + i) = true := by decide +kernel
set_option maxRecDepth 100000 in
theorem ok_law_3 : ∀ i, i < 64 → ev_cck mi_L_law nd_L_law (192 + i) = true := by decide +kernel
set_option maxRecDepth 100000 in
theorem ok_law_4 : ∀ i, i < 64 → ev_cck mi_L_law nd_L_law (256 + i) = true := by decide +kernel
set_option maxRecDepth 100000 in
theorem ok_law_5 : ∀ i, i < 64 → ev_cck mi_L_law nd_L_law (320 + i) = true := by decide +kernel
set_option maxRecDepth 100000 in
theorem ok_law_6 : ∀ i, i < 64 → ev_cck mi_L_law nd_L_law (384 + i) = true := by decide +kernel
set_option maxRecDepth 100000 in
theorem ok_law_7 : ∀ i, i < 64 → ev_cck mi_L_law nd_L_law (448 + i) = true := by decide +kernel
set_option maxRecDepth 100000 in
theorem ok_law_8 : ∀ i, i < 64 → ev_cck mi_L_law nd_L_law (512 + i) = true := by decide +kernel
set_option maxRecDepth 100000 in
theorem ok_law_9 : ∀ i, i < 64 → ev_cck mi_L_law nd_L_law (576 + i) = true := by decide +kernel
set_option maxRecDepth 100000 in
theorem ok_law_10 : ∀ i, i < 64 → ev_cck mi_L_law nd_L_law (640 + i) = true := by decide +kernel
set_option maxRecDepth 100000 in
theorem ok_law_11 : ∀ i, i < 64 → ev_cck mi_L_law nd_L_law (704 + i) = true := by decide +kernel
set_option maxRecDepth 100000 in
theorem ok_law_12 : ∀ i, i < 64 → ev_cck mi_L_law nd_L_law (768 + i) = true := by decide +kernel
set_option maxRecDepth 100000 in
theorem ok_law_13 : ∀ i, i < 64 → ev_cck mi_L_law nd_L_law (832 + i) = true := by decide +kernel
set_option maxRecDepth 100000 in
theorem ok_law_14 : ∀ i, i < 64 → ev_cck mi_L_law nd_L_law (896 + i) = true := by decide +kernel
set_option maxRecDepth 100000 in
theorem ok_law_n : ev_nok ev_TT nd_L_law = true := by decide +kernel
theorem okd_L_law (pc : Nat) (E : ev_E) (hE : ev_at mi_L_law pc = some E) : decode (ev_mB mi_L_law) pc = .ok (E.1, E.2.1) ∧ ev_lok (ev_TT.flatten.filter goodWord) (ev_TT.flatten.filter ev_isN) ev_AO0 ev_G0 ev_TY0 ev_pg (ev_mN mi_L_law).cls (ev_mK mi_L_law) E := by
  have hlt := ev_at_lt hE
  have hlen : (ev_mC mi_L_law).length = 30 := by decide +kernel
  rw [hlen] at hlt
  have h3 : ev_cck mi_L_law nd_L_law pc = true := by
    rcases (show (0 ≤ pc ∧ pc < 64) ∨ (64 ≤ pc ∧ pc < 128) ∨ (128 ≤ pc ∧ pc < 192) ∨ (192 ≤ pc ∧ pc < 256) ∨ (256 ≤ pc ∧ pc < 320) ∨ (320 ≤ pc ∧ pc < 384) ∨ (384 ≤ pc ∧ pc < 448) ∨ (448 ≤ pc ∧ pc < 512) ∨ (512 ≤ pc ∧ pc < 576) ∨ (576 ≤ pc ∧ pc < 640) ∨ (640 ≤ pc ∧ pc < 704) ∨ (704 ≤ pc ∧ pc < 768) ∨ (768 ≤ pc ∧ pc < 832) ∨ (832 ≤ pc ∧ pc < 896) ∨ (896 ≤ pc ∧ pc < 960) by omega) with h | h | h | h | h | h | h | h | h | h | h | h | h | h | h
    · have e : pc = 0 + (pc - 0) := by omega
      rw [e]; exact ok_law_0 _ (by omega)
    · have e : pc = 64 + (pc - 64) := by omega
      rw [e]; exact ok_law_1 _ (by omega)
    · have e : pc = 128 + (pc - 128) := by omega
      rw [e]; exact ok_law_2 _ (by omega)
    · have e : pc = 192 + (pc - 192) := by omega
      rw [e]; exact ok_law_3 _ (by omega)
    · have e : pc = 256 + (pc - 256) := by omega
      rw [e]; exact ok_law_4 _ (by omega)
    · have e : pc = 320 + (pc - 320) := by omega
      rw [e]; exact ok_law_5 _ (by omega)
    · have e : pc = 384 + (pc - 384) := by omega
      rw [e]; exact ok_law_6 _ (by omega)
    · have e : pc = 448 + (pc - 448) := by omega
      rw [e]; exact ok_law_7 _ (by omega)
    · have e : pc = 512 + (pc - 512) := by omega
      rw [e]; exact ok_law_8 _ (by omega)
    · have e : pc = 576 + (pc - 576) := by omega
      rw [e]; exact ok_law_9 _ (by omega)
    · have e : pc = 640 + (pc - 640) := by omega
      rw [e]; exact ok_law_10 _ (by omega)
    · have e : pc = 704 + (pc - 704) := by omega
      rw [e]; exact ok_law_11 _ (by omega)
    · have e : pc = 768 + (pc - 768) := by omega
      rw [e]; exact ok_law_12 _ (by omega)
    · have e : pc = 832 + (pc - 832) := by omega
      rw [e]; exact ok_law_13 _ (by omega)
    · have e : pc = 896 + (pc - 896) := by omega
      rw [e]; exact ok_law_14 _ (by omega)
  unfold ev_cck at h3
  rw [hE] at h3
  dsimp only at h3
  rw [Bool.and_eq_true, decide_eq_true_eq] at h3
  exact ⟨h3.1, ev_lchk_ok ok_law_n (ev_nest_in ok_law_n) h3.2⟩
end
section
def ev_pos (i : Nat) : Option Cond := match ev_nth ev_TT (i / 1000) with
  | some l => ev_nth l (i % 1000)
  | none => none
theorem ev_inps {ws : List Cond} (ps : List Nat) (hp : ws = ps.filterMap ev_pos) (h : ws.all goodWord = true) : ∀ w ∈ ws, w ∈ ev_TT.flatten.filter goodWord := by
  intro w hw
  have h1 := List.all_eq_true.mp h w hw
  rw [hp] at hw
  obtain ⟨i, -, hi⟩ := List.mem_filterMap.mp hw
  unfold ev_pos at hi
  split at hi
  · rename_i l hl
    rw [ev_nth_eq] at hi hl
    exact List.mem_filter.mpr ⟨List.mem_flatten.mpr ⟨l, List.mem_of_getElem? hl, List.mem_of_getElem? hi⟩, h1⟩
  · cases hi
set_option maxRecDepth 100000 in
theorem ev_inW0 : ∀ w ∈ u_ws RX0 TX0 16, w ∈ ev_TT.flatten.filter goodWord := ev_inps [1058, 1060, 1062, 1064, 1066, 1068, 1070, 1072, 1074, 1076, 1078, 1080, 1082, 1084, 1086, 1088] (by decide +kernel) (by decide +kernel)
set_option maxRecDepth 100000 in
theorem ev_cbW0 : ∀ j, j < 16 → ev_fs (tyX0 j) < 4 ∧ ev_cg (ev_cb0.getD 0 (0, 0, (0, 0, 0), [])) j = ev_df (tyX0 j) := by decide +kernel
set_option maxRecDepth 100000 in
theorem ev_inW1 : ∀ w ∈ u_ws RX1 TX1 5, w ∈ ev_TT.flatten.filter goodWord := ev_inps [3020, 3022, 3024, 3026, 3028] (by decide +kernel) (by decide +kernel)
set_option maxRecDepth 100000 in
theorem ev_cbW1 : ∀ j, j < 5 → ev_fs (tyX1 j) < 4 ∧ ev_cg (ev_cb0.getD 1 (0, 0, (0, 0, 0), [])) j = ev_df (tyX1 j) := by decide +kernel
set_option maxRecDepth 100000 in
theorem ev_inW2 : ∀ w ∈ u_ws RX2 TX2 4, w ∈ ev_TT.flatten.filter goodWord := ev_inps [3165, 3167, 3169, 3171] (by decide +kernel) (by decide +kernel)
set_option maxRecDepth 100000 in
theorem ev_cbW2 : ∀ j, j < 4 → ev_fs (tyX2 j) < 4 ∧ ev_cg (ev_cb0.getD 2 (0, 0, (0, 0, 0), [])) j = ev_df (tyX2 j) := by decide +kernel
set_option maxRecDepth 100000 in
theorem ev_inW3 : ∀ w ∈ u_ws RX4 TX4 8, w ∈ ev_TT.flatten.filter goodWord := ev_inps [1107, 1109, 1111, 1113, 1115, 1117, 1119, 1121] (by decide +kernel) (by decide +kernel)
set_option maxRecDepth 100000 in
theorem ev_cbW3 : ∀ j, j < 8 → ev_fs (tyX4 j) < 4 ∧ ev_cg (ev_cb0.getD 3 (0, 0, (0, 0, 0), [])) j = ev_df (tyX4 j) := by decide +kernel
set_option maxRecDepth 100000 in
theorem ev_inW4 : ∀ w ∈ u_ws RX5 TX5 17, w ∈ ev_TT.flatten.filter goodWord := ev_inps [1214, 1216, 1218, 1220, 1222, 1224, 1226, 1228, 1230, 1232, 1234, 1236, 1238, 2000, 2002, 2004, 2006] (by decide +kernel) (by decide +kernel)
set_option maxRecDepth 100000 in
theorem ev_cbW4 : ∀ j, j < 17 → ev_fs (tyX5 j) < 4 ∧ ev_cg (ev_cb0.getD 4 (0, 0, (0, 0, 0), [])) j = ev_df (tyX5 j) := by decide +kernel
set_option maxRecDepth 100000 in
theorem ev_inW5 : ∀ w ∈ u_ws RX6 TX6 2, w ∈ ev_TT.flatten.filter goodWord := ev_inps [1184, 1186] (by decide +kernel) (by decide +kernel)
set_option maxRecDepth 100000 in
theorem ev_cbW5 : ∀ j, j < 2 → ev_fs (tyX6 j) < 4 ∧ ev_cg (ev_cb0.getD 5 (0, 0, (0, 0, 0), [])) j = ev_df (tyX6 j) := by decide +kernel
set_option maxRecDepth 100000 in
theorem ev_inW6 : ∀ w ∈ u_ws RX7 TX7 4, w ∈ ev_TT.flatten.filter goodWord := ev_inps [2136, 2138, 2140, 2142] (by decide +kernel) (by decide +kernel)
set_option maxRecDepth 100000 in
theorem ev_cbW6 : ∀ j, j < 4 → ev_fs (tyX7 j) < 4 ∧ ev_cg (ev_cb0.getD 6 (0, 0, (0, 0, 0), [])) j = ev_df (tyX7 j) := by decide +kernel
set_option maxRecDepth 100000 in
theorem ev_inW7 : ∀ w ∈ u_ws RX8 TX8 20, w ∈ ev_TT.flatten.filter goodWord := ev_inps [3077, 3079, 3081, 3083, 3085, 3087, 3089, 3091, 3093, 3095, 3097, 3099, 3101, 3103, 3105, 3107, 3109, 3111, 3113, 3115] (by decide +kernel) (by decide +kernel)
set_option maxRecDepth 100000 in
theorem ev_cbW7 : ∀ j, j < 20 → ev_fs (tyX8 j) < 4 ∧ ev_cg (ev_cb0.getD 7 (0, 0, (0, 0, 0), [])) j = ev_df (tyX8 j) := by decide +kernel
set_option maxRecDepth 100000 in
theorem ev_inW8 : ∀ w ∈ u_ws RX9 TX9 7, w ∈ ev_TT.flatten.filter goodWord := ev_inps [1141, 1143, 1145, 1147, 1149, 1151, 1153] (by decide +kernel) (by decide +kernel)
set_option maxRecDepth 100000 in
theorem ev_cbW8 : ∀ j, j < 7 → ev_fs (tyX9 j) < 4 ∧ ev_cg (ev_cb0.getD 8 (0, 0, (0, 0, 0), [])) j = ev_df (tyX9 j) := by decide +kernel
set_option maxRecDepth 100000 in
theorem ev_inW9 : ∀ w ∈ u_ws RX10 TX10 15, w ∈ ev_TT.flatten.filter goodWord := ev_inps [2028, 2030, 2032, 2034, 2036, 2038, 2040, 2042, 2044, 2046, 2048, 2050, 2052, 2054, 2056] (by decide +kernel) (by decide +kernel)
set_option maxRecDepth 100000 in
theorem ev_cbW9 : ∀ j, j < 15 → ev_fs (tyX10 j) < 4 ∧ ev_cg (ev_cb0.getD 9 (0, 0, (0, 0, 0), [])) j = ev_df (tyX10 j) := by decide +kernel
set_option maxRecDepth 100000 in
theorem ev_inW10 : ∀ w ∈ u_ws RX11 TX11 87, w ∈ ev_TT.flatten.filter goodWord := ev_inps [5073, 5075, 5077, 5079, 5081, 5083, 5085, 5087, 5089, 5091, 5093, 5095, 5097, 5099, 5101, 5103, 5105, 5107, 5109, 5111, 5113, 5115, 5117, 5119, 5121, 5123, 5125, 5127, 5129, 5131, 5133, 5135, 5137, 5139, 5141, 5143, 5145, 5147, 5149, 5151, 5153, 5155, 5157, 5159, 5161, 5163, 5165, 5167, 5169, 5171, 5173, 5175, 5177, 5179, 5181, 5183, 5185, 5187, 5189, 5191, 5193, 5195, 5197, 5199, 5201, 5203, 5205, 5207, 5209, 5211, 5213, 5215, 5217, 5219, 5221, 5223, 5225, 5227, 5229, 5231, 5233, 5235, 5237, 5239, 6001, 6003, 6005] (by decide +kernel) (by decide +kernel)
set_option maxRecDepth 100000 in
theorem ev_cbW10 : ∀ j, j < 87 → ev_fs (tyX11 j) < 4 ∧ ev_cg (ev_cb0.getD 10 (0, 0, (0, 0, 0), [])) j = ev_df (tyX11 j) := by decide +kernel
theorem ev_tg_good : ∀ w ∈ ev_TT.flatten.filter goodWord, (w.onTables && w.keeps) = true ∨ ∃ ty, w = .arrayClass ty := fun _ h => good_of_word (List.mem_filter.mp h).2
theorem ev_tn_form : ∀ w ∈ ev_TT.flatten.filter ev_isN, (∃ a i x n d hh, w = Cond.fieldLinkNest a i x n d hh) ∨ ∃ a i x hh, w = Cond.methodLinkNest a i x hh := by
  intro w hw
  have h := (List.mem_filter.mp hw).2
  cases w <;> first | exact Or.inl ⟨_, _, _, _, _, _, rfl⟩ | exact Or.inr ⟨_, _, _, _, rfl⟩ | exact absurd h (by simp [ev_isN])
theorem ev_fx0 : ev_Fx (ev_TT.flatten.filter goodWord) (ev_TT.flatten.filter ev_isN) ev_G0 ev_TY0 := by
  refine ⟨by decide, ev_tg_good, ev_tn_form, ?_, ?_⟩
  · intro ci C T N h
    match ci, h with
    | 0, h =>
      have h : some (RX0, TX0, 16) = some (C, T, N) := h
      cases h
      exact ⟨ev_inW0, tyX0_ok, nmX0⟩
    | 1, h =>
      have h : some (RX1, TX1, 5) = some (C, T, N) := h
      cases h
      exact ⟨ev_inW1, tyX1_ok, nmX1⟩
    | 2, h =>
      have h : some (RX2, TX2, 4) = some (C, T, N) := h
      cases h
      exact ⟨ev_inW2, tyX2_ok, nmX2⟩
    | 3, h =>
      have h : some (RX4, TX4, 8) = some (C, T, N) := h
      cases h
      exact ⟨ev_inW3, tyX4_ok, nmX4⟩
    | 4, h =>
      have h : some (RX5, TX5, 17) = some (C, T, N) := h
      cases h
      exact ⟨ev_inW4, tyX5_ok, nmX5⟩
    | 5, h =>
      have h : some (RX6, TX6, 2) = some (C, T, N) := h
      cases h
      exact ⟨ev_inW5, tyX6_ok, nmX6⟩
    | 6, h =>
      have h : some (RX7, TX7, 4) = some (C, T, N) := h
      cases h
      exact ⟨ev_inW6, tyX7_ok, nmX7⟩
    | 7, h =>
      have h : some (RX8, TX8, 20) = some (C, T, N) := h
      cases h
      exact ⟨ev_inW7, tyX8_ok, nmX8⟩
    | 8, h =>
      have h : some (RX9, TX9, 7) = some (C, T, N) := h
      cases h
      exact ⟨ev_inW8, tyX9_ok, nmX9⟩
    | 9, h =>
      have h : some (RX10, TX10, 15) = some (C, T, N) := h
      cases h
      exact ⟨ev_inW9, tyX10_ok, nmX10⟩
    | 10, h =>
      have h : some (RX11, TX11, 87) = some (C, T, N) := h
      cases h
      exact ⟨ev_inW10, tyX11_ok, nmX11⟩
    | j + 11, h => exact absurd h (by simp [ev_G0, ev_cl0])
  · intro ci c h
    match ci, h with
    | 0, h =>
      have h : some (ev_cb0.getD 0 (0, 0, (0, 0, 0), [])) = some c := h
      cases h
      exact ⟨RX0, TX0, 16, rfl, rfl, rfl, ev_cbW0⟩
    | 1, h =>
      have h : some (ev_cb0.getD 1 (0, 0, (0, 0, 0), [])) = some c := h
      cases h
      exact ⟨RX1, TX1, 5, rfl, rfl, rfl, ev_cbW1⟩
    | 2, h =>
      have h : some (ev_cb0.getD 2 (0, 0, (0, 0, 0), [])) = some c := h
      cases h
      exact ⟨RX2, TX2, 4, rfl, rfl, rfl, ev_cbW2⟩
    | 3, h =>
      have h : some (ev_cb0.getD 3 (0, 0, (0, 0, 0), [])) = some c := h
      cases h
      exact ⟨RX4, TX4, 8, rfl, rfl, rfl, ev_cbW3⟩
    | 4, h =>
      have h : some (ev_cb0.getD 4 (0, 0, (0, 0, 0), [])) = some c := h
      cases h
      exact ⟨RX5, TX5, 17, rfl, rfl, rfl, ev_cbW4⟩
    | 5, h =>
      have h : some (ev_cb0.getD 5 (0, 0, (0, 0, 0), [])) = some c := h
      cases h
      exact ⟨RX6, TX6, 2, rfl, rfl, rfl, ev_cbW5⟩
    | 6, h =>
      have h : some (ev_cb0.getD 6 (0, 0, (0, 0, 0), [])) = some c := h
      cases h
      exact ⟨RX7, TX7, 4, rfl, rfl, rfl, ev_cbW6⟩
    | 7, h =>
      have h : some (ev_cb0.getD 7 (0, 0, (0, 0, 0), [])) = some c := h
      cases h
      exact ⟨RX8, TX8, 20, rfl, rfl, rfl, ev_cbW7⟩
    | 8, h =>
      have h : some (ev_cb0.getD 8 (0, 0, (0, 0, 0), [])) = some c := h
      cases h
      exact ⟨RX9, TX9, 7, rfl, rfl, rfl, ev_cbW8⟩
    | 9, h =>
      have h : some (ev_cb0.getD 9 (0, 0, (0, 0, 0), [])) = some c := h
      cases h
      exact ⟨RX10, TX10, 15, rfl, rfl, rfl, ev_cbW9⟩
    | 10, h =>
      have h : some (ev_cb0.getD 10 (0, 0, (0, 0, 0), [])) = some c := h
      cases h
      exact ⟨RX11, TX11, 87, rfl, rfl, rfl, ev_cbW10⟩
    | j + 11, h => exact absurd h (by simp [ev_G0, ev_cb0])
theorem ev_pg_ok : ∀ M ∈ ev_pg, ev_mok (ev_TT.flatten.filter goodWord) (ev_TT.flatten.filter ev_isN) ev_AO0 ev_G0 ev_TY0 ev_pg M := by
  show ∀ M ∈ [mi_L_cell, mi_X0_init, mi_X10_arePair, mi_X10_begin, mi_X10_byteOf, mi_X10_come, mi_X10_copy, mi_X10_count, mi_X10_end, mi_X10_feed, mi_X10_forge, mi_X10_forget, mi_X10_init, mi_X10_inside, mi_X10_isLetter, mi_X10_isUser, mi_X10_letter, mi_X10_look, mi_X10_number, mi_X10_oneIf, mi_X10_publish, mi_X10_putOnTape, mi_X10_readable, mi_X10_register, mi_X10_rotate, mi_X10_same, mi_X10_session, mi_X10_spoil, mi_X10_user, mi_X10_write, mi_X11_asSecret, mi_X11_begin, mi_X11_byteOf, mi_X11_come, mi_X11_copy, mi_X11_count, mi_X11_draw, mi_X11_drawTerm, mi_X11_end, mi_X11_feed, mi_X11_forge, mi_X11_forget, mi_X11_init, mi_X11_inside, mi_X11_isLetter, mi_X11_isThere, mi_X11_keptSecrets, mi_X11_leastOnce, mi_X11_lend, mi_X11_letter, mi_X11_look, mi_X11_mix, mi_X11_modQ, mi_X11_number, mi_X11_onceInDirectory, mi_X11_power, mi_X11_publish, mi_X11_readable, mi_X11_register, mi_X11_rotate, mi_X11_same, mi_X11_session, mi_X11_sessionsOf, mi_X11_slotOf, mi_X11_spoil, mi_X11_term, mi_X11_times, mi_X11_timesQ, mi_X11_user, mi_X11_write, mi_X3_isOpen, mi_X3_mix, mi_X3_power, mi_X3_rest, mi_X3_sealProof, mi_X3_sealSum, mi_X3_secretOf, mi_X3_times, mi_X3_timesModuloQ, mi_X4_init, mi_X5_drawSecret, mi_X5_enrol, mi_X5_giveAway, mi_X5_init, mi_X5_isRegistered, mi_X5_leastOnce, mi_X5_makeLentKey, mi_X5_onceSecretsKept, mi_X5_onceThere, mi_X5_sessionsInAll, mi_X6_at, mi_X6_giveAway, mi_X6_init, mi_X6_retireAll, mi_X7_give, mi_X7_init, mi_X9_giveRoot, mi_X9_init], _
  exact List.forall_mem_cons.mpr ⟨ok_L_cell, List.forall_mem_cons.mpr ⟨ok_X0_init, List.forall_mem_cons.mpr ⟨ok_X10_arePair, List.forall_mem_cons.mpr ⟨ok_X10_begin, List.forall_mem_cons.mpr ⟨ok_X10_byteOf, List.forall_mem_cons.mpr ⟨ok_X10_come, List.forall_mem_cons.mpr ⟨ok_X10_copy, List.forall_mem_cons.mpr ⟨ok_X10_count, List.forall_mem_cons.mpr ⟨ok_X10_end, List.forall_mem_cons.mpr ⟨ok_X10_feed, List.forall_mem_cons.mpr ⟨ok_X10_forge, List.forall_mem_cons.mpr ⟨ok_X10_forget, List.forall_mem_cons.mpr ⟨ok_X10_init, List.forall_mem_cons.mpr ⟨ok_X10_inside, List.forall_mem_cons.mpr ⟨ok_X10_isLetter, List.forall_mem_cons.mpr ⟨ok_X10_isUser, List.forall_mem_cons.mpr ⟨ok_X10_letter, List.forall_mem_cons.mpr ⟨ok_X10_look, List.forall_mem_cons.mpr ⟨ok_X10_number, List.forall_mem_cons.mpr ⟨ok_X10_oneIf, List.forall_mem_cons.mpr ⟨ok_X10_publish, List.forall_mem_cons.mpr ⟨ok_X10_putOnTape, List.forall_mem_cons.mpr ⟨ok_X10_readable, List.forall_mem_cons.mpr ⟨ok_X10_register, List.forall_mem_cons.mpr ⟨ok_X10_rotate, List.forall_mem_cons.mpr ⟨ok_X10_same, List.forall_mem_cons.mpr ⟨ok_X10_session, List.forall_mem_cons.mpr ⟨ok_X10_spoil, List.forall_mem_cons.mpr ⟨ok_X10_user, List.forall_mem_cons.mpr ⟨ok_X10_write, List.forall_mem_cons.mpr ⟨ok_X11_asSecret, List.forall_mem_cons.mpr ⟨ok_X11_begin, List.forall_mem_cons.mpr ⟨ok_X11_byteOf, List.forall_mem_cons.mpr ⟨ok_X11_come, List.forall_mem_cons.mpr ⟨ok_X11_copy, List.forall_mem_cons.mpr ⟨ok_X11_count, List.forall_mem_cons.mpr ⟨ok_X11_draw, List.forall_mem_cons.mpr ⟨ok_X11_drawTerm, List.forall_mem_cons.mpr ⟨ok_X11_end, List.forall_mem_cons.mpr ⟨ok_X11_feed, List.forall_mem_cons.mpr ⟨ok_X11_forge, List.forall_mem_cons.mpr ⟨ok_X11_forget, List.forall_mem_cons.mpr ⟨ok_X11_init, List.forall_mem_cons.mpr ⟨ok_X11_inside, List.forall_mem_cons.mpr ⟨ok_X11_isLetter, List.forall_mem_cons.mpr ⟨ok_X11_isThere, List.forall_mem_cons.mpr ⟨ok_X11_keptSecrets, List.forall_mem_cons.mpr ⟨ok_X11_leastOnce, List.forall_mem_cons.mpr ⟨ok_X11_lend, List.forall_mem_cons.mpr ⟨ok_X11_letter, List.forall_mem_cons.mpr ⟨ok_X11_look, List.forall_mem_cons.mpr ⟨ok_X11_mix, List.forall_mem_cons.mpr ⟨ok_X11_modQ, List.forall_mem_cons.mpr ⟨ok_X11_number, List.forall_mem_cons.mpr ⟨ok_X11_onceInDirectory, List.forall_mem_cons.mpr ⟨ok_X11_power, List.forall_mem_cons.mpr ⟨ok_X11_publish, List.forall_mem_cons.mpr ⟨ok_X11_readable, List.forall_mem_cons.mpr ⟨ok_X11_register, List.forall_mem_cons.mpr ⟨ok_X11_rotate, List.forall_mem_cons.mpr ⟨ok_X11_same, List.forall_mem_cons.mpr ⟨ok_X11_session, List.forall_mem_cons.mpr ⟨ok_X11_sessionsOf, List.forall_mem_cons.mpr ⟨ok_X11_slotOf, List.forall_mem_cons.mpr ⟨ok_X11_spoil, List.forall_mem_cons.mpr ⟨ok_X11_term, List.forall_mem_cons.mpr ⟨ok_X11_times, List.forall_mem_cons.mpr ⟨ok_X11_timesQ, List.forall_mem_cons.mpr ⟨ok_X11_user, List.forall_mem_cons.mpr ⟨ok_X11_write, List.forall_mem_cons.mpr ⟨ok_X3_isOpen, List.forall_mem_cons.mpr ⟨ok_X3_mix, List.forall_mem_cons.mpr ⟨ok_X3_power, List.forall_mem_cons.mpr ⟨ok_X3_rest, List.forall_mem_cons.mpr ⟨ok_X3_sealProof, List.forall_mem_cons.mpr ⟨ok_X3_sealSum, List.forall_mem_cons.mpr ⟨ok_X3_secretOf, List.forall_mem_cons.mpr ⟨ok_X3_times, List.forall_mem_cons.mpr ⟨ok_X3_timesModuloQ, List.forall_mem_cons.mpr ⟨ok_X4_init, List.forall_mem_cons.mpr ⟨ok_X5_drawSecret, List.forall_mem_cons.mpr ⟨ok_X5_enrol, List.forall_mem_cons.mpr ⟨ok_X5_giveAway, List.forall_mem_cons.mpr ⟨ok_X5_init, List.forall_mem_cons.mpr ⟨ok_X5_isRegistered, List.forall_mem_cons.mpr ⟨ok_X5_leastOnce, List.forall_mem_cons.mpr ⟨ok_X5_makeLentKey, List.forall_mem_cons.mpr ⟨ok_X5_onceSecretsKept, List.forall_mem_cons.mpr ⟨ok_X5_onceThere, List.forall_mem_cons.mpr ⟨ok_X5_sessionsInAll, List.forall_mem_cons.mpr ⟨ok_X6_at, List.forall_mem_cons.mpr ⟨ok_X6_giveAway, List.forall_mem_cons.mpr ⟨ok_X6_init, List.forall_mem_cons.mpr ⟨ok_X6_retireAll, List.forall_mem_cons.mpr ⟨ok_X7_give, List.forall_mem_cons.mpr ⟨ok_X7_init, List.forall_mem_cons.mpr ⟨ok_X9_giveRoot, List.forall_mem_cons.mpr ⟨ok_X9_init, fun _ h => absurd h List.not_mem_nil⟩⟩⟩⟩⟩⟩⟩⟩⟩⟩⟩⟩⟩⟩⟩⟩⟩⟩⟩⟩⟩⟩⟩⟩⟩⟩⟩⟩⟩⟩⟩⟩⟩⟩⟩⟩⟩⟩⟩⟩⟩⟩⟩⟩⟩⟩⟩⟩⟩⟩⟩⟩⟩⟩⟩⟩⟩⟩⟩⟩⟩⟩⟩⟩⟩⟩⟩⟩⟩⟩⟩⟩⟩⟩⟩⟩⟩⟩⟩⟩⟩⟩⟩⟩⟩⟩⟩⟩⟩⟩⟩⟩⟩⟩⟩⟩⟩⟩
end
section
def mq_X3_isOpen : ev_M := (yX3_isOpen, cX3_isOpen, 2, (some .boolean), [[(.lload_n 0, 1, 0, 0, 0), (.lconst 1, 1, 0, 0, 0), (.lcmp, 1, 0, 0, 0), (.ifCond .lt 15, 3, 0, 0, 0), (.nop, 0, 0, 0, 0), (.nop, 0, 0, 0, 0), (.lload_n 0, 1, 0, 0, 0), (.ldc2_w 11, 3, 0, 0, 2305843009213693951), (.nop, 0, 0, 0, 0), (.nop, 0, 0, 0, 0), (.lcmp, 1, 0, 0, 0), (.ifCond .ge 7, 3, 0, 0, 0), (.nop, 0, 0, 0, 0), (.nop, 0, 0, 0, 0), (.iconst 1, 1, 0, 0, 0), (.goto 4, 3, 0, 0, 0), (.nop, 0, 0, 0, 0), (.nop, 0, 0, 0, 0), (.iconst 0, 1, 0, 0, 0), (.ireturn, 1, 0, 0, 0)]], 0, 1, 0, 0, 0, 0)
def mq_X3_times : ev_M := (yX3_times, cX3_times, 20, (some .long), [[(.lload_n 0, 1, 0, 0, 0), (.bipush 32, 2, 0, 0, 0), (.nop, 0, 0, 0, 0), (.lushr, 1, 0, 0, 0), (.lstore 4, 2, 0, 0, 0), (.nop, 0, 0, 0, 0), (.lload_n 0, 1, 0, 0, 0), (.ldc2_w 13, 3, 0, 0, 4294967295), (.nop, 0, 0, 0, 0), (.nop, 0, 0, 0, 0), (.land, 1, 0, 0, 0), (.lstore 6, 2, 0, 0, 0), (.nop, 0, 0, 0, 0), (.lload_n 2, 1, 0, 0, 0), (.bipush 32, 2, 0, 0, 0), (.nop, 0, 0, 0, 0), (.lushr, 1, 0, 0, 0), (.lstore 8, 2, 0, 0, 0), (.nop, 0, 0, 0, 0), (.lload_n 2, 1, 0, 0, 0), (.ldc2_w 13, 3, 0, 0, 4294967295), (.nop, 0, 0, 0, 0), (.nop, 0, 0, 0, 0), (.land, 1, 0, 0, 0), (.lstore 10, 2, 0, 0, 0), (.nop, 0, 0, 0, 0), (.lload 4, 2, 0, 0, 0), (.nop, 0, 0, 0, 0), (.lload 10, 2, 0, 0, 0), (.nop, 0, 0, 0, 0), (.lmul, 1, 0, 0, 0), (.lload 6, 2, 0, 0, 0)],
    [(.nop, 0, 0, 0, 0), (.lload 8, 2, 0, 0, 0), (.nop, 0, 0, 0, 0), (.lmul, 1, 0, 0, 0), (.ladd, 1, 0, 0, 0), (.lstore 12, 2, 0, 0, 0), (.nop, 0, 0, 0, 0), (.lload 6, 2, 0, 0, 0), (.nop, 0, 0, 0, 0), (.lload 10, 2, 0, 0, 0), (.nop, 0, 0, 0, 0), (.lmul, 1, 0, 0, 0), (.lstore 14, 2, 0, 0, 0), (.nop, 0, 0, 0, 0), (.lload 4, 2, 0, 0, 0), (.nop, 0, 0, 0, 0), (.lload 8, 2, 0, 0, 0), (.nop, 0, 0, 0, 0), (.lmul, 1, 0, 0, 0), (.iconst 3, 1, 0, 0, 0), (.lshl, 1, 0, 0, 0), (.lload 12, 2, 0, 0, 0), (.nop, 0, 0, 0, 0), (.bipush 29, 2, 0, 0, 0), (.nop, 0, 0, 0, 0), (.lushr, 1, 0, 0, 0), (.ladd, 1, 0, 0, 0), (.lload 12, 2, 0, 0, 0), (.nop, 0, 0, 0, 0), (.ldc2_w 15, 3, 0, 0, 536870911), (.nop, 0, 0, 0, 0), (.nop, 0, 0, 0, 0)],
    [(.land, 1, 0, 0, 0), (.bipush 32, 2, 0, 0, 0), (.nop, 0, 0, 0, 0), (.lshl, 1, 0, 0, 0), (.ladd, 1, 0, 0, 0), (.lload 14, 2, 0, 0, 0), (.nop, 0, 0, 0, 0), (.ldc2_w 11, 3, 0, 0, 2305843009213693951), (.nop, 0, 0, 0, 0), (.nop, 0, 0, 0, 0), (.land, 1, 0, 0, 0), (.ladd, 1, 0, 0, 0), (.lload 14, 2, 0, 0, 0), (.nop, 0, 0, 0, 0), (.bipush 61, 2, 0, 0, 0), (.nop, 0, 0, 0, 0), (.lushr, 1, 0, 0, 0), (.ladd, 1, 0, 0, 0), (.lstore 16, 2, 0, 0, 0), (.nop, 0, 0, 0, 0), (.lload 16, 2, 0, 0, 0), (.nop, 0, 0, 0, 0), (.ldc2_w 11, 3, 0, 0, 2305843009213693951), (.nop, 0, 0, 0, 0), (.nop, 0, 0, 0, 0), (.land, 1, 0, 0, 0), (.lload 16, 2, 0, 0, 0), (.nop, 0, 0, 0, 0), (.bipush 61, 2, 0, 0, 0), (.nop, 0, 0, 0, 0), (.lushr, 1, 0, 0, 0), (.ladd, 1, 0, 0, 0)],
    [(.lstore 18, 2, 0, 0, 0), (.nop, 0, 0, 0, 0), (.lload 18, 2, 0, 0, 0), (.nop, 0, 0, 0, 0), (.ldc2_w 11, 3, 0, 0, 2305843009213693951), (.nop, 0, 0, 0, 0), (.nop, 0, 0, 0, 0), (.lcmp, 1, 0, 0, 0), (.ifCond .lt 12, 3, 0, 0, 0), (.nop, 0, 0, 0, 0), (.nop, 0, 0, 0, 0), (.lload 18, 2, 0, 0, 0), (.nop, 0, 0, 0, 0), (.ldc2_w 11, 3, 0, 0, 2305843009213693951), (.nop, 0, 0, 0, 0), (.nop, 0, 0, 0, 0), (.lsub, 1, 0, 0, 0), (.goto 5, 3, 0, 0, 0), (.nop, 0, 0, 0, 0), (.nop, 0, 0, 0, 0), (.lload 18, 2, 0, 0, 0), (.nop, 0, 0, 0, 0), (.lreturn, 1, 0, 0, 0)]], 10, 2, 0, 0, 0, 0)
def mq_X11_times : ev_M := (yX11_times, cX11_times, 18, (some .long), [[(.lload_n 0, 1, 0, 0, 0), (.bipush 31, 2, 0, 0, 0), (.nop, 0, 0, 0, 0), (.lshr, 1, 0, 0, 0), (.lstore 4, 2, 0, 0, 0), (.nop, 0, 0, 0, 0), (.lload_n 0, 1, 0, 0, 0), (.ldc2_w 224, 3, 0, 0, 2147483647), (.nop, 0, 0, 0, 0), (.nop, 0, 0, 0, 0), (.land, 1, 0, 0, 0), (.lstore 6, 2, 0, 0, 0), (.nop, 0, 0, 0, 0), (.lload_n 2, 1, 0, 0, 0), (.bipush 31, 2, 0, 0, 0), (.nop, 0, 0, 0, 0), (.lshr, 1, 0, 0, 0), (.lstore 8, 2, 0, 0, 0), (.nop, 0, 0, 0, 0), (.lload_n 2, 1, 0, 0, 0), (.ldc2_w 224, 3, 0, 0, 2147483647), (.nop, 0, 0, 0, 0), (.nop, 0, 0, 0, 0), (.land, 1, 0, 0, 0), (.lstore 10, 2, 0, 0, 0), (.nop, 0, 0, 0, 0), (.lload 4, 2, 0, 0, 0), (.nop, 0, 0, 0, 0), (.lload 10, 2, 0, 0, 0), (.nop, 0, 0, 0, 0), (.lmul, 1, 0, 0, 0), (.lload 6, 2, 0, 0, 0)],
    [(.nop, 0, 0, 0, 0), (.lload 8, 2, 0, 0, 0), (.nop, 0, 0, 0, 0), (.lmul, 1, 0, 0, 0), (.ladd, 1, 0, 0, 0), (.lstore 12, 2, 0, 0, 0), (.nop, 0, 0, 0, 0), (.lload 6, 2, 0, 0, 0), (.nop, 0, 0, 0, 0), (.lload 10, 2, 0, 0, 0), (.nop, 0, 0, 0, 0), (.lmul, 1, 0, 0, 0), (.lstore 14, 2, 0, 0, 0), (.nop, 0, 0, 0, 0), (.ldc2_w 226, 3, 0, 0, 2), (.nop, 0, 0, 0, 0), (.nop, 0, 0, 0, 0), (.lload 4, 2, 0, 0, 0), (.nop, 0, 0, 0, 0), (.lload 8, 2, 0, 0, 0), (.nop, 0, 0, 0, 0), (.lmul, 1, 0, 0, 0), (.lmul, 1, 0, 0, 0), (.ldc2_w 228, 3, 0, 0, 2305843009213693951), (.nop, 0, 0, 0, 0), (.nop, 0, 0, 0, 0), (.lrem, 1, 0, 0, 0), (.lstore 16, 2, 0, 0, 0), (.nop, 0, 0, 0, 0), (.lload 16, 2, 0, 0, 0), (.nop, 0, 0, 0, 0), (.lload 12, 2, 0, 0, 0)],
    [(.nop, 0, 0, 0, 0), (.bipush 30, 2, 0, 0, 0), (.nop, 0, 0, 0, 0), (.lshr, 1, 0, 0, 0), (.ladd, 1, 0, 0, 0), (.ldc2_w 228, 3, 0, 0, 2305843009213693951), (.nop, 0, 0, 0, 0), (.nop, 0, 0, 0, 0), (.lrem, 1, 0, 0, 0), (.lstore 16, 2, 0, 0, 0), (.nop, 0, 0, 0, 0), (.lload 16, 2, 0, 0, 0), (.nop, 0, 0, 0, 0), (.lload 12, 2, 0, 0, 0), (.nop, 0, 0, 0, 0), (.ldc2_w 230, 3, 0, 0, 1073741823), (.nop, 0, 0, 0, 0), (.nop, 0, 0, 0, 0), (.land, 1, 0, 0, 0), (.bipush 31, 2, 0, 0, 0), (.nop, 0, 0, 0, 0), (.lshl, 1, 0, 0, 0), (.ladd, 1, 0, 0, 0), (.ldc2_w 228, 3, 0, 0, 2305843009213693951), (.nop, 0, 0, 0, 0), (.nop, 0, 0, 0, 0), (.lrem, 1, 0, 0, 0), (.lstore 16, 2, 0, 0, 0), (.nop, 0, 0, 0, 0), (.lload 16, 2, 0, 0, 0), (.nop, 0, 0, 0, 0), (.lload 14, 2, 0, 0, 0)],
    [(.nop, 0, 0, 0, 0), (.ldc2_w 228, 3, 0, 0, 2305843009213693951), (.nop, 0, 0, 0, 0), (.nop, 0, 0, 0, 0), (.lrem, 1, 0, 0, 0), (.ladd, 1, 0, 0, 0), (.ldc2_w 228, 3, 0, 0, 2305843009213693951), (.nop, 0, 0, 0, 0), (.nop, 0, 0, 0, 0), (.lrem, 1, 0, 0, 0), (.lreturn, 1, 0, 0, 0)]], 10, 2, 0, 0, 0, 0)
def mq_X3_power : ev_M := (yX3_power, cX3_power, 9, (some .long), [[(.lload_n 0, 1, 0, 0, 0), (.invokestatic 17, 3, 0, 0, 0), (.nop, 0, 0, 0, 0), (.nop, 0, 0, 0, 0), (.ifCond .ne 5, 3, 0, 0, 0), (.nop, 0, 0, 0, 0), (.nop, 0, 0, 0, 0), (.lconst 0, 1, 0, 0, 0), (.lreturn, 1, 0, 0, 0), (.lconst 1, 1, 0, 0, 0), (.lstore 4, 2, 0, 0, 0), (.nop, 0, 0, 0, 0), (.lload_n 0, 1, 0, 0, 0), (.lstore 6, 2, 0, 0, 0), (.nop, 0, 0, 0, 0), (.iconst 0, 1, 0, 0, 0), (.istore 8, 2, 0, 0, 0), (.nop, 0, 0, 0, 0), (.iload 8, 2, 0, 0, 0), (.nop, 0, 0, 0, 0), (.bipush 61, 2, 0, 0, 0), (.nop, 0, 0, 0, 0), (.if_icmp .ge 38, 3, 0, 0, 0), (.nop, 0, 0, 0, 0), (.nop, 0, 0, 0, 0), (.lload_n 2, 1, 0, 0, 0), (.iload 8, 2, 0, 0, 0), (.nop, 0, 0, 0, 0), (.lushr, 1, 0, 0, 0), (.lconst 1, 1, 0, 0, 0), (.land, 1, 0, 0, 0), (.lconst 1, 1, 0, 0, 0)],
    [(.lcmp, 1, 0, 0, 0), (.ifCond .ne 12, 3, 0, 0, 0), (.nop, 0, 0, 0, 0), (.nop, 0, 0, 0, 0), (.lload 4, 2, 0, 0, 0), (.nop, 0, 0, 0, 0), (.lload 6, 2, 0, 0, 0), (.nop, 0, 0, 0, 0), (.invokestatic 21, 3, 1, 0, 0), (.nop, 0, 0, 0, 0), (.nop, 0, 0, 0, 0), (.lstore 4, 2, 0, 0, 0), (.nop, 0, 0, 0, 0), (.lload 6, 2, 0, 0, 0), (.nop, 0, 0, 0, 0), (.lload 6, 2, 0, 0, 0), (.nop, 0, 0, 0, 0), (.invokestatic 21, 3, 1, 0, 0), (.nop, 0, 0, 0, 0), (.nop, 0, 0, 0, 0), (.lstore 6, 2, 0, 0, 0), (.nop, 0, 0, 0, 0), (.iinc 8 1, 3, 0, 0, 0), (.nop, 0, 0, 0, 0), (.nop, 0, 0, 0, 0), (.goto (-39), 3, 0, 0, 0), (.nop, 0, 0, 0, 0), (.nop, 0, 0, 0, 0), (.lload 4, 2, 0, 0, 0), (.nop, 0, 0, 0, 0), (.lreturn, 1, 0, 0, 0)]], 10, 2, 1, 39, 0, 0)
def mq_X3_timesModuloQ : ev_M := (yX3_timesModuloQ, cX3_timesModuloQ, 9, (some .long), [[(.lconst 0, 1, 0, 0, 0), (.lstore 4, 2, 0, 0, 0), (.nop, 0, 0, 0, 0), (.lload_n 0, 1, 0, 0, 0), (.lstore 6, 2, 0, 0, 0), (.nop, 0, 0, 0, 0), (.iconst 0, 1, 0, 0, 0), (.istore 8, 2, 0, 0, 0), (.nop, 0, 0, 0, 0), (.iload 8, 2, 0, 0, 0), (.nop, 0, 0, 0, 0), (.bipush 61, 2, 0, 0, 0), (.nop, 0, 0, 0, 0), (.if_icmp .ge 43, 3, 0, 0, 0), (.nop, 0, 0, 0, 0), (.nop, 0, 0, 0, 0), (.lload_n 2, 1, 0, 0, 0), (.iload 8, 2, 0, 0, 0), (.nop, 0, 0, 0, 0), (.lushr, 1, 0, 0, 0), (.lconst 1, 1, 0, 0, 0), (.land, 1, 0, 0, 0), (.lconst 1, 1, 0, 0, 0), (.lcmp, 1, 0, 0, 0), (.ifCond .ne 14, 3, 0, 0, 0), (.nop, 0, 0, 0, 0), (.nop, 0, 0, 0, 0), (.lload 4, 2, 0, 0, 0), (.nop, 0, 0, 0, 0), (.lload 6, 2, 0, 0, 0), (.nop, 0, 0, 0, 0), (.ladd, 1, 0, 0, 0)],
    [(.ldc2_w 32, 3, 0, 0, 2305843009213693950), (.nop, 0, 0, 0, 0), (.nop, 0, 0, 0, 0), (.lrem, 1, 0, 0, 0), (.lstore 4, 2, 0, 0, 0), (.nop, 0, 0, 0, 0), (.lload 6, 2, 0, 0, 0), (.nop, 0, 0, 0, 0), (.ldc2_w 25, 3, 0, 0, 2), (.nop, 0, 0, 0, 0), (.nop, 0, 0, 0, 0), (.lmul, 1, 0, 0, 0), (.ldc2_w 32, 3, 0, 0, 2305843009213693950), (.nop, 0, 0, 0, 0), (.nop, 0, 0, 0, 0), (.lrem, 1, 0, 0, 0), (.lstore 6, 2, 0, 0, 0), (.nop, 0, 0, 0, 0), (.iinc 8 1, 3, 0, 0, 0), (.nop, 0, 0, 0, 0), (.nop, 0, 0, 0, 0), (.goto (-44), 3, 0, 0, 0), (.nop, 0, 0, 0, 0), (.nop, 0, 0, 0, 0), (.lload 4, 2, 0, 0, 0), (.nop, 0, 0, 0, 0), (.lreturn, 1, 0, 0, 0)]], 10, 2, 0, 0, 0, 0)
def mq_X11_power : ev_M := (yX11_power, cX11_power, 7, (some .long), [[(.lconst 1, 1, 0, 0, 0), (.lstore 4, 2, 0, 0, 0), (.nop, 0, 0, 0, 0), (.bipush 60, 2, 0, 0, 0), (.nop, 0, 0, 0, 0), (.istore 6, 2, 0, 0, 0), (.nop, 0, 0, 0, 0), (.iload 6, 2, 0, 0, 0), (.nop, 0, 0, 0, 0), (.ifCond .lt 37, 3, 0, 0, 0), (.nop, 0, 0, 0, 0), (.nop, 0, 0, 0, 0), (.lload 4, 2, 0, 0, 0), (.nop, 0, 0, 0, 0), (.lload 4, 2, 0, 0, 0), (.nop, 0, 0, 0, 0), (.invokestatic 236, 3, 2, 0, 0), (.nop, 0, 0, 0, 0), (.nop, 0, 0, 0, 0), (.lstore 4, 2, 0, 0, 0), (.nop, 0, 0, 0, 0), (.lload_n 2, 1, 0, 0, 0), (.iload 6, 2, 0, 0, 0), (.nop, 0, 0, 0, 0), (.lshr, 1, 0, 0, 0), (.lconst 1, 1, 0, 0, 0), (.land, 1, 0, 0, 0), (.lconst 1, 1, 0, 0, 0), (.lcmp, 1, 0, 0, 0), (.ifCond .ne 11, 3, 0, 0, 0), (.nop, 0, 0, 0, 0), (.nop, 0, 0, 0, 0)],
    [(.lload 4, 2, 0, 0, 0), (.nop, 0, 0, 0, 0), (.lload_n 0, 1, 0, 0, 0), (.invokestatic 236, 3, 2, 0, 0), (.nop, 0, 0, 0, 0), (.nop, 0, 0, 0, 0), (.lstore 4, 2, 0, 0, 0), (.nop, 0, 0, 0, 0), (.iinc 6 (-1), 3, 0, 0, 0), (.nop, 0, 0, 0, 0), (.nop, 0, 0, 0, 0), (.goto (-36), 3, 0, 0, 0), (.nop, 0, 0, 0, 0), (.nop, 0, 0, 0, 0), (.lload 4, 2, 0, 0, 0), (.nop, 0, 0, 0, 0), (.lreturn, 1, 0, 0, 0)]], 10, 2, 1, 37, 0, 0)
def mq_X11_timesQ : ev_M := (yX11_timesQ, cX11_timesQ, 18, (some .long), [[(.lload_n 0, 1, 0, 0, 0), (.bipush 31, 2, 0, 0, 0), (.nop, 0, 0, 0, 0), (.lshr, 1, 0, 0, 0), (.lstore 4, 2, 0, 0, 0), (.nop, 0, 0, 0, 0), (.lload_n 0, 1, 0, 0, 0), (.ldc2_w 224, 3, 0, 0, 2147483647), (.nop, 0, 0, 0, 0), (.nop, 0, 0, 0, 0), (.land, 1, 0, 0, 0), (.lstore 6, 2, 0, 0, 0), (.nop, 0, 0, 0, 0), (.lload_n 2, 1, 0, 0, 0), (.bipush 31, 2, 0, 0, 0), (.nop, 0, 0, 0, 0), (.lshr, 1, 0, 0, 0), (.lstore 8, 2, 0, 0, 0), (.nop, 0, 0, 0, 0), (.lload_n 2, 1, 0, 0, 0), (.ldc2_w 224, 3, 0, 0, 2147483647), (.nop, 0, 0, 0, 0), (.nop, 0, 0, 0, 0), (.land, 1, 0, 0, 0), (.lstore 10, 2, 0, 0, 0), (.nop, 0, 0, 0, 0), (.lload 4, 2, 0, 0, 0), (.nop, 0, 0, 0, 0), (.lload 10, 2, 0, 0, 0), (.nop, 0, 0, 0, 0), (.lmul, 1, 0, 0, 0), (.lload 6, 2, 0, 0, 0)],
    [(.nop, 0, 0, 0, 0), (.lload 8, 2, 0, 0, 0), (.nop, 0, 0, 0, 0), (.lmul, 1, 0, 0, 0), (.ladd, 1, 0, 0, 0), (.lstore 12, 2, 0, 0, 0), (.nop, 0, 0, 0, 0), (.lload 6, 2, 0, 0, 0), (.nop, 0, 0, 0, 0), (.lload 10, 2, 0, 0, 0), (.nop, 0, 0, 0, 0), (.lmul, 1, 0, 0, 0), (.lstore 14, 2, 0, 0, 0), (.nop, 0, 0, 0, 0), (.ldc2_w 232, 3, 0, 0, 4), (.nop, 0, 0, 0, 0), (.nop, 0, 0, 0, 0), (.lload 4, 2, 0, 0, 0), (.nop, 0, 0, 0, 0), (.lload 8, 2, 0, 0, 0), (.nop, 0, 0, 0, 0), (.lmul, 1, 0, 0, 0), (.ldc2_w 234, 3, 0, 0, 2305843009213693950), (.nop, 0, 0, 0, 0), (.nop, 0, 0, 0, 0), (.lrem, 1, 0, 0, 0), (.lmul, 1, 0, 0, 0), (.ldc2_w 234, 3, 0, 0, 2305843009213693950), (.nop, 0, 0, 0, 0), (.nop, 0, 0, 0, 0), (.lrem, 1, 0, 0, 0), (.lstore 16, 2, 0, 0, 0)],
    [(.nop, 0, 0, 0, 0), (.lload 16, 2, 0, 0, 0), (.nop, 0, 0, 0, 0), (.ldc2_w 226, 3, 0, 0, 2), (.nop, 0, 0, 0, 0), (.nop, 0, 0, 0, 0), (.lload 12, 2, 0, 0, 0), (.nop, 0, 0, 0, 0), (.bipush 30, 2, 0, 0, 0), (.nop, 0, 0, 0, 0), (.lshr, 1, 0, 0, 0), (.lmul, 1, 0, 0, 0), (.ladd, 1, 0, 0, 0), (.ldc2_w 234, 3, 0, 0, 2305843009213693950), (.nop, 0, 0, 0, 0), (.nop, 0, 0, 0, 0), (.lrem, 1, 0, 0, 0), (.lstore 16, 2, 0, 0, 0), (.nop, 0, 0, 0, 0), (.lload 16, 2, 0, 0, 0), (.nop, 0, 0, 0, 0), (.lload 12, 2, 0, 0, 0), (.nop, 0, 0, 0, 0), (.ldc2_w 230, 3, 0, 0, 1073741823), (.nop, 0, 0, 0, 0), (.nop, 0, 0, 0, 0), (.land, 1, 0, 0, 0), (.bipush 31, 2, 0, 0, 0), (.nop, 0, 0, 0, 0), (.lshl, 1, 0, 0, 0), (.ldc2_w 234, 3, 0, 0, 2305843009213693950), (.nop, 0, 0, 0, 0)],
    [(.nop, 0, 0, 0, 0), (.lrem, 1, 0, 0, 0), (.ladd, 1, 0, 0, 0), (.ldc2_w 234, 3, 0, 0, 2305843009213693950), (.nop, 0, 0, 0, 0), (.nop, 0, 0, 0, 0), (.lrem, 1, 0, 0, 0), (.lstore 16, 2, 0, 0, 0), (.nop, 0, 0, 0, 0), (.lload 16, 2, 0, 0, 0), (.nop, 0, 0, 0, 0), (.lload 14, 2, 0, 0, 0), (.nop, 0, 0, 0, 0), (.ldc2_w 234, 3, 0, 0, 2305843009213693950), (.nop, 0, 0, 0, 0), (.nop, 0, 0, 0, 0), (.lrem, 1, 0, 0, 0), (.ladd, 1, 0, 0, 0), (.ldc2_w 234, 3, 0, 0, 2305843009213693950), (.nop, 0, 0, 0, 0), (.nop, 0, 0, 0, 0), (.lrem, 1, 0, 0, 0), (.lreturn, 1, 0, 0, 0)]], 10, 2, 0, 0, 0, 0)
def ev_pq : List ev_M := [mq_X3_isOpen, mq_X3_times, mq_X11_times]
set_option maxRecDepth 100000 in
theorem oq_X3_isOpen : ev_mok (ev_TT.flatten.filter goodWord) [] [] ([], [], []) (fun _ _ => .int) ev_pq mq_X3_isOpen := ev_mchk_okT (TT := ev_TT) nd_X3_isOpen (ev_cin (l := tables_1_2) 2 112 rfl rfl rfl) (by decide +kernel) (by decide +kernel) (by decide +kernel) (by decide +kernel)
set_option maxRecDepth 100000 in
theorem oq_X3_times : ev_mok (ev_TT.flatten.filter goodWord) [] [] ([], [], []) (fun _ _ => .int) ev_pq mq_X3_times := ev_mchk_okT (TT := ev_TT) nd_X3_times (ev_cin (l := tables_1_2) 2 116 rfl rfl rfl) (by decide +kernel) (by decide +kernel) (by decide +kernel) (by decide +kernel)
set_option maxRecDepth 100000 in
theorem oe_X3_times : ev_mok (ev_TT.flatten.filter goodWord) [] [] ([], [], []) (fun _ _ => .int) [] mq_X3_times := ev_mchk_okT (TT := ev_TT) nd_X3_times (ev_cin (l := tables_1_2) 2 116 rfl rfl rfl) (by decide +kernel) (by decide +kernel) (by decide +kernel) (by decide +kernel)
set_option maxRecDepth 100000 in
theorem oq_X11_times : ev_mok (ev_TT.flatten.filter goodWord) [] [] ([], [], []) (fun _ _ => .int) ev_pq mq_X11_times := ev_mchk_okT (TT := ev_TT) nd_X11_times (ev_cin (l := tables_1_6) 6 41 rfl rfl rfl) (by decide +kernel) (by decide +kernel) (by decide +kernel) (by decide +kernel)
set_option maxRecDepth 100000 in
theorem oe_X11_times : ev_mok (ev_TT.flatten.filter goodWord) [] [] ([], [], []) (fun _ _ => .int) [] mq_X11_times := ev_mchk_okT (TT := ev_TT) nd_X11_times (ev_cin (l := tables_1_6) 6 41 rfl rfl rfl) (by decide +kernel) (by decide +kernel) (by decide +kernel) (by decide +kernel)
set_option maxRecDepth 100000 in
theorem oq_X3_power : ev_mok (ev_TT.flatten.filter goodWord) [] [] ([], [], []) (fun _ _ => .int) ev_pq mq_X3_power := ev_mchk_okT (TT := ev_TT) nd_X3_power (ev_cin (l := tables_1_2) 2 109 rfl rfl rfl) (by decide +kernel) (by decide +kernel) (by decide +kernel) (by decide +kernel)
set_option maxRecDepth 100000 in
theorem oq_X3_timesModuloQ : ev_mok (ev_TT.flatten.filter goodWord) [] [] ([], [], []) (fun _ _ => .int) ev_pq mq_X3_timesModuloQ := ev_mchk_okT (TT := ev_TT) nd_X3_timesModuloQ (ev_cin (l := tables_1_2) 2 159 rfl rfl rfl) (by decide +kernel) (by decide +kernel) (by decide +kernel) (by decide +kernel)
set_option maxRecDepth 100000 in
theorem oe_X3_timesModuloQ : ev_mok (ev_TT.flatten.filter goodWord) [] [] ([], [], []) (fun _ _ => .int) [] mq_X3_timesModuloQ := ev_mchk_okT (TT := ev_TT) nd_X3_timesModuloQ (ev_cin (l := tables_1_2) 2 159 rfl rfl rfl) (by decide +kernel) (by decide +kernel) (by decide +kernel) (by decide +kernel)
set_option maxRecDepth 100000 in
theorem oq_X11_power : ev_mok (ev_TT.flatten.filter goodWord) [] [] ([], [], []) (fun _ _ => .int) ev_pq mq_X11_power := ev_mchk_okT (TT := ev_TT) nd_X11_power (ev_cin (l := tables_1_6) 6 38 rfl rfl rfl) (by decide +kernel) (by decide +kernel) (by decide +kernel) (by decide +kernel)
set_option maxRecDepth 100000 in
theorem oq_X11_timesQ : ev_mok (ev_TT.flatten.filter goodWord) [] [] ([], [], []) (fun _ _ => .int) ev_pq mq_X11_timesQ := ev_mchk_okT (TT := ev_TT) nd_X11_timesQ (ev_cin (l := tables_1_6) 6 59 rfl rfl rfl) (by decide +kernel) (by decide +kernel) (by decide +kernel) (by decide +kernel)
set_option maxRecDepth 100000 in
theorem oe_X11_timesQ : ev_mok (ev_TT.flatten.filter goodWord) [] [] ([], [], []) (fun _ _ => .int) [] mq_X11_timesQ := ev_mchk_okT (TT := ev_TT) nd_X11_timesQ (ev_cin (l := tables_1_6) 6 59 rfl rfl rfl) (by decide +kernel) (by decide +kernel) (by decide +kernel) (by decide +kernel)
set_option maxRecDepth 100000 in
theorem hv_X3_times (l : Launch) : ev_Hv l (ev_TT.flatten.filter goodWord) mq_X3_times := by
  refine ev_hv_of (dk := fun M => M = mq_X3_times) (stop := ev_nostop) (n := 200) oe_X3_times rfl (fun pc E h => (oe_X3_times.2.2.2.2.2.2.2 pc E h).1) (by decide) (fun D B => ?_) (by decide)
  exact ev_sound (PG := []) (ev_fx_e ev_tg_good) (fun _ h => by cases h) (fun _ h => by cases h) (fun M hM => by subst hM; exact oe_X3_times.2.2.2.2.2.2.2) (Nat.zero_le _) rfl (fun _ h => by cases h) (fun _ _ h => by cases h) 200 _ (by decide +kernel)
set_option maxRecDepth 100000 in
theorem hv_X11_times (l : Launch) : ev_Hv l (ev_TT.flatten.filter goodWord) mq_X11_times := by
  refine ev_hv_of (dk := fun M => M = mq_X11_times) (stop := ev_nostop) (n := 200) oe_X11_times rfl (fun pc E h => (oe_X11_times.2.2.2.2.2.2.2 pc E h).1) (by decide) (fun D B => ?_) (by decide)
  exact ev_sound (PG := []) (ev_fx_e ev_tg_good) (fun _ h => by cases h) (fun _ h => by cases h) (fun M hM => by subst hM; exact oe_X11_times.2.2.2.2.2.2.2) (Nat.zero_le _) rfl (fun _ h => by cases h) (fun _ _ h => by cases h) 200 _ (by decide +kernel)
set_option maxRecDepth 100000 in
theorem hv_X11_timesQ (l : Launch) : ev_Hv l (ev_TT.flatten.filter goodWord) mq_X11_timesQ := by
  refine ev_hv_of (dk := fun M => M = mq_X11_timesQ) (stop := ev_nostop) (n := 200) oe_X11_timesQ rfl (fun pc E h => (oe_X11_timesQ.2.2.2.2.2.2.2 pc E h).1) (by decide) (fun D B => ?_) (by decide)
  exact ev_sound (PG := []) (ev_fx_e ev_tg_good) (fun _ h => by cases h) (fun _ h => by cases h) (fun M hM => by subst hM; exact oe_X11_timesQ.2.2.2.2.2.2.2) (Nat.zero_le _) rfl (fun _ h => by cases h) (fun _ _ h => by cases h) 200 _ (by decide +kernel)
theorem ev_pq_ok : ∀ M ∈ ev_pq, ev_mok (ev_TT.flatten.filter goodWord) [] [] ([], [], []) (fun _ _ => .int) ev_pq M := by
  show ∀ M ∈ [mq_X3_isOpen, mq_X3_times, mq_X11_times], _
  exact List.forall_mem_cons.mpr ⟨oq_X3_isOpen, List.forall_mem_cons.mpr ⟨oq_X3_times, List.forall_mem_cons.mpr ⟨oq_X11_times, fun _ h => absurd h List.not_mem_nil⟩⟩⟩
theorem ev_pe_ok : ∀ M ∈ ([] : List ev_M), ev_mok (ev_TT.flatten.filter goodWord) [] [] ([], [], []) (fun _ _ => .int) [] M := fun _ h => by cases h
theorem ev_hq (l : Launch) : ∀ M ∈ ev_pq, 10 ≤ ev_mK M → ev_Hv l (ev_TT.flatten.filter goodWord) M := by
  show ∀ M ∈ [mq_X3_isOpen, mq_X3_times, mq_X11_times], _
  exact List.forall_mem_cons.mpr ⟨fun h => absurd h (by decide), List.forall_mem_cons.mpr ⟨fun _ => hv_X3_times l, List.forall_mem_cons.mpr ⟨fun _ => hv_X11_times l, fun _ h => absurd h List.not_mem_nil⟩⟩⟩
theorem ev_idq_X3_power : ∀ M ∈ ev_pq, ¬ ((fun M => ev_mL M == 9) M = true) := by
  show ∀ M ∈ [mq_X3_isOpen, mq_X3_times, mq_X11_times], _
  exact List.forall_mem_cons.mpr ⟨by decide, List.forall_mem_cons.mpr ⟨by decide, List.forall_mem_cons.mpr ⟨by decide, fun _ h => absurd h List.not_mem_nil⟩⟩⟩
def lw_X3_power (j : Nat) : List (Nat × ev_A) := [(8, (0, (j : Int), (j : Int))), (6, ev_tL), (4, ev_tL), (0, ev_tL), (2, ev_tL)]
set_option maxRecDepth 100000 in
theorem lb_X3_power : ev_run ([], [], []) ev_pq ev_finL ev_nostop 300 ([(mq_X3_power, 18, lw_X3_power 61, [], 0, 0)], (0, []), []) = true := by decide +kernel
set_option maxRecDepth 100000 in
theorem lt_X3_power : ∀ j, j < 61 → ev_run ([], [], []) ev_pq ev_finL (ev_stp (fun M => ev_mL M == 9) 18 (lw_X3_power (j + 1))) 300 ([(mq_X3_power, 18, lw_X3_power j, [], 0, 0)], (0, []), []) = true := by decide +kernel
set_option maxRecDepth 100000 in
theorem le_X3_power : ev_run ([], [], []) ev_pq ev_finL (ev_stp (fun M => ev_mL M == 9) 18 (lw_X3_power 0)) 300 ([(mq_X3_power, 0, ev_args 0 (List.replicate 2 ev_tL), [], 0, 0)], (0, []), []) = true := by decide +kernel
theorem hv_X3_power (l : Launch) : ev_Hv l (ev_TT.flatten.filter goodWord) mq_X3_power := by
  have hid : ∀ M, (M = mq_X3_power ∨ M ∈ ev_pq) → (fun M => ev_mL M == 9) M = true → M = mq_X3_power := by
    intro M hM hb
    rcases hM with h | h
    · exact h
    · exact absurd hb (ev_idq_X3_power M h)
  have hdd : ∀ M, (M = mq_X3_power ∨ M ∈ ev_pq) → ∀ (pc : Nat) (E : ev_E), ev_at M pc = some E → decode (ev_mB M) pc = .ok (E.1, E.2.1) ∧ ev_lok (ev_TT.flatten.filter goodWord) [] [] ([], [], []) (fun _ _ => .int) ev_pq (ev_mN M).cls (ev_mK M) E := by
    intro M hM
    rcases hM with h | h
    · subst h; exact oq_X3_power.2.2.2.2.2.2.2
    · exact (ev_pq_ok M h).2.2.2.2.2.2.2
  refine ev_hv_of (PG := ev_pq) (dk := fun M => M = mq_X3_power ∨ M ∈ ev_pq) (stop := ev_stp (fun M => ev_mL M == 9) 18 (lw_X3_power 0)) (n := 300) oq_X3_power (Or.inl rfl) (fun pc E h => (oq_X3_power.2.2.2.2.2.2.2 pc E h).1) (by decide) (fun D B => ?_) (by decide)
  refine ev_sound (dk := fun M => M = mq_X3_power ∨ M ∈ ev_pq) (ev_fx_e ev_tg_good) ev_pq_ok (fun _ h => Or.inr h) hdd (by decide) rfl (ev_hq l) (fun n2 S hS => ?_) 300 _ le_X3_power
  have q := ev_loop (l := l) (D := D) (tys := []) (o := false) (B := B) (b := 0) (L := 0) (xs := fun _ => 0) (dk := fun M => M = mq_X3_power ∨ M ∈ ev_pq) (fun M => ev_mL M == 9) hid 18 61 300 lw_X3_power (ev_fx_e ev_tg_good) ev_pq_ok (fun _ h => Or.inr h) hdd (by decide) rfl (ev_hq l) lb_X3_power lt_X3_power 61 (Nat.le_refl _)
  unfold ev_stp at hS
  split at hS
  · rename_i M pc lv st bc bs h sg
    obtain ⟨hn, hl⟩ := h
    simp only [Bool.and_eq_true, beq_iff_eq, List.isEmpty_iff] at hS
    obtain ⟨⟨⟨⟨⟨⟨⟨⟨rfl, g1⟩, rfl⟩, rfl⟩, rfl⟩, rfl⟩, rfl⟩, rfl⟩, g2⟩ := hS
    intro h1 h2 p e R s m args below meth c Q H locs cells slots ls clv cst mc ms a1 a2 a3 a4 a5 a6 a7 a8 a9 a10 a11 a12 a13 a14
    have hMM := hid M h1 (by simpa using g1)
    subst hMM
    obtain ⟨clw, c1, c2⟩ := ev_cov_ok a2 a3 g2
    exact q h1 h2 p e R s m args below meth c Q H locs cells slots ls clw cst mc ms a1 c1 c2 a4 a5 a6 a7 a8 a9 a10 a11 a12 a13 a14
  · cases hS
theorem ev_idq_X3_timesModuloQ : ∀ M ∈ ([] : List ev_M), ¬ ((fun M => ev_mL M == 9) M = true) := fun _ h => by cases h
def lw_X3_timesModuloQ (j : Nat) : List (Nat × ev_A) := [(8, (0, (j : Int), (j : Int))), (6, ev_tL), (4, ev_tL), (0, ev_tL), (2, ev_tL)]
set_option maxRecDepth 100000 in
theorem lb_X3_timesModuloQ : ev_run ([], [], []) [] ev_finL ev_nostop 300 ([(mq_X3_timesModuloQ, 9, lw_X3_timesModuloQ 61, [], 0, 0)], (0, []), []) = true := by decide +kernel
set_option maxRecDepth 100000 in
theorem lt_X3_timesModuloQ : ∀ j, j < 61 → ev_run ([], [], []) [] ev_finL (ev_stp (fun M => ev_mL M == 9) 9 (lw_X3_timesModuloQ (j + 1))) 300 ([(mq_X3_timesModuloQ, 9, lw_X3_timesModuloQ j, [], 0, 0)], (0, []), []) = true := by decide +kernel
set_option maxRecDepth 100000 in
theorem le_X3_timesModuloQ : ev_run ([], [], []) [] ev_finL (ev_stp (fun M => ev_mL M == 9) 9 (lw_X3_timesModuloQ 0)) 300 ([(mq_X3_timesModuloQ, 0, ev_args 0 (List.replicate 2 ev_tL), [], 0, 0)], (0, []), []) = true := by decide +kernel
theorem hv_X3_timesModuloQ (l : Launch) : ev_Hv l (ev_TT.flatten.filter goodWord) mq_X3_timesModuloQ := by
  have hid : ∀ M, (M = mq_X3_timesModuloQ ∨ M ∈ []) → (fun M => ev_mL M == 9) M = true → M = mq_X3_timesModuloQ := by
    intro M hM hb
    rcases hM with h | h
    · exact h
    · exact absurd hb (ev_idq_X3_timesModuloQ M h)
  have hdd : ∀ M, (M = mq_X3_timesModuloQ ∨ M ∈ []) → ∀ (pc : Nat) (E : ev_E), ev_at M pc = some E → decode (ev_mB M) pc = .ok (E.1, E.2.1) ∧ ev_lok (ev_TT.flatten.filter goodWord) [] [] ([], [], []) (fun _ _ => .int) [] (ev_mN M).cls (ev_mK M) E := by
    intro M hM
    rcases hM with h | h
    · subst h; exact oe_X3_timesModuloQ.2.2.2.2.2.2.2
    · exact (ev_pe_ok M h).2.2.2.2.2.2.2
  refine ev_hv_of (PG := []) (dk := fun M => M = mq_X3_timesModuloQ ∨ M ∈ []) (stop := ev_stp (fun M => ev_mL M == 9) 9 (lw_X3_timesModuloQ 0)) (n := 300) oe_X3_timesModuloQ (Or.inl rfl) (fun pc E h => (oe_X3_timesModuloQ.2.2.2.2.2.2.2 pc E h).1) (by decide) (fun D B => ?_) (by decide)
  refine ev_sound (dk := fun M => M = mq_X3_timesModuloQ ∨ M ∈ []) (ev_fx_e ev_tg_good) ev_pe_ok (fun _ h => Or.inr h) hdd (by decide) rfl (fun _ h => by cases h) (fun n2 S hS => ?_) 300 _ le_X3_timesModuloQ
  have q := ev_loop (l := l) (D := D) (tys := []) (o := false) (B := B) (b := 0) (L := 0) (xs := fun _ => 0) (dk := fun M => M = mq_X3_timesModuloQ ∨ M ∈ []) (fun M => ev_mL M == 9) hid 9 61 300 lw_X3_timesModuloQ (ev_fx_e ev_tg_good) ev_pe_ok (fun _ h => Or.inr h) hdd (by decide) rfl (fun _ h => by cases h) lb_X3_timesModuloQ lt_X3_timesModuloQ 61 (Nat.le_refl _)
  unfold ev_stp at hS
  split at hS
  · rename_i M pc lv st bc bs h sg
    obtain ⟨hn, hl⟩ := h
    simp only [Bool.and_eq_true, beq_iff_eq, List.isEmpty_iff] at hS
    obtain ⟨⟨⟨⟨⟨⟨⟨⟨rfl, g1⟩, rfl⟩, rfl⟩, rfl⟩, rfl⟩, rfl⟩, rfl⟩, g2⟩ := hS
    intro h1 h2 p e R s m args below meth c Q H locs cells slots ls clv cst mc ms a1 a2 a3 a4 a5 a6 a7 a8 a9 a10 a11 a12 a13 a14
    have hMM := hid M h1 (by simpa using g1)
    subst hMM
    obtain ⟨clw, c1, c2⟩ := ev_cov_ok a2 a3 g2
    exact q h1 h2 p e R s m args below meth c Q H locs cells slots ls clw cst mc ms a1 c1 c2 a4 a5 a6 a7 a8 a9 a10 a11 a12 a13 a14
  · cases hS
theorem ev_idq_X11_power : ∀ M ∈ ev_pq, ¬ ((fun M => ev_mL M == 7) M = true) := by
  show ∀ M ∈ [mq_X3_isOpen, mq_X3_times, mq_X11_times], _
  exact List.forall_mem_cons.mpr ⟨by decide, List.forall_mem_cons.mpr ⟨by decide, List.forall_mem_cons.mpr ⟨by decide, fun _ h => absurd h List.not_mem_nil⟩⟩⟩
def lw_X11_power (j : Nat) : List (Nat × ev_A) := [(6, (0, 60 - (j : Int), 60 - (j : Int))), (4, ev_tL), (0, ev_tL), (2, ev_tL)]
set_option maxRecDepth 100000 in
theorem lb_X11_power : ev_run ([], [], []) ev_pq ev_finL ev_nostop 300 ([(mq_X11_power, 7, lw_X11_power 61, [], 0, 0)], (0, []), []) = true := by decide +kernel
set_option maxRecDepth 100000 in
theorem lt_X11_power : ∀ j, j < 61 → ev_run ([], [], []) ev_pq ev_finL (ev_stp (fun M => ev_mL M == 7) 7 (lw_X11_power (j + 1))) 300 ([(mq_X11_power, 7, lw_X11_power j, [], 0, 0)], (0, []), []) = true := by decide +kernel
set_option maxRecDepth 100000 in
theorem le_X11_power : ev_run ([], [], []) ev_pq ev_finL (ev_stp (fun M => ev_mL M == 7) 7 (lw_X11_power 0)) 300 ([(mq_X11_power, 0, ev_args 0 (List.replicate 2 ev_tL), [], 0, 0)], (0, []), []) = true := by decide +kernel
theorem hv_X11_power (l : Launch) : ev_Hv l (ev_TT.flatten.filter goodWord) mq_X11_power := by
  have hid : ∀ M, (M = mq_X11_power ∨ M ∈ ev_pq) → (fun M => ev_mL M == 7) M = true → M = mq_X11_power := by
    intro M hM hb
    rcases hM with h | h
    · exact h
    · exact absurd hb (ev_idq_X11_power M h)
  have hdd : ∀ M, (M = mq_X11_power ∨ M ∈ ev_pq) → ∀ (pc : Nat) (E : ev_E), ev_at M pc = some E → decode (ev_mB M) pc = .ok (E.1, E.2.1) ∧ ev_lok (ev_TT.flatten.filter goodWord) [] [] ([], [], []) (fun _ _ => .int) ev_pq (ev_mN M).cls (ev_mK M) E := by
    intro M hM
    rcases hM with h | h
    · subst h; exact oq_X11_power.2.2.2.2.2.2.2
    · exact (ev_pq_ok M h).2.2.2.2.2.2.2
  refine ev_hv_of (PG := ev_pq) (dk := fun M => M = mq_X11_power ∨ M ∈ ev_pq) (stop := ev_stp (fun M => ev_mL M == 7) 7 (lw_X11_power 0)) (n := 300) oq_X11_power (Or.inl rfl) (fun pc E h => (oq_X11_power.2.2.2.2.2.2.2 pc E h).1) (by decide) (fun D B => ?_) (by decide)
  refine ev_sound (dk := fun M => M = mq_X11_power ∨ M ∈ ev_pq) (ev_fx_e ev_tg_good) ev_pq_ok (fun _ h => Or.inr h) hdd (by decide) rfl (ev_hq l) (fun n2 S hS => ?_) 300 _ le_X11_power
  have q := ev_loop (l := l) (D := D) (tys := []) (o := false) (B := B) (b := 0) (L := 0) (xs := fun _ => 0) (dk := fun M => M = mq_X11_power ∨ M ∈ ev_pq) (fun M => ev_mL M == 7) hid 7 61 300 lw_X11_power (ev_fx_e ev_tg_good) ev_pq_ok (fun _ h => Or.inr h) hdd (by decide) rfl (ev_hq l) lb_X11_power lt_X11_power 61 (Nat.le_refl _)
  unfold ev_stp at hS
  split at hS
  · rename_i M pc lv st bc bs h sg
    obtain ⟨hn, hl⟩ := h
    simp only [Bool.and_eq_true, beq_iff_eq, List.isEmpty_iff] at hS
    obtain ⟨⟨⟨⟨⟨⟨⟨⟨rfl, g1⟩, rfl⟩, rfl⟩, rfl⟩, rfl⟩, rfl⟩, rfl⟩, g2⟩ := hS
    intro h1 h2 p e R s m args below meth c Q H locs cells slots ls clv cst mc ms a1 a2 a3 a4 a5 a6 a7 a8 a9 a10 a11 a12 a13 a14
    have hMM := hid M h1 (by simpa using g1)
    subst hMM
    obtain ⟨clw, c1, c2⟩ := ev_cov_ok a2 a3 g2
    exact q h1 h2 p e R s m args below meth c Q H locs cells slots ls clw cst mc ms a1 c1 c2 a4 a5 a6 a7 a8 a9 a10 a11 a12 a13 a14
  · cases hS
end
section
/-- the answer is 1 -/
def ev_fin1 (a : Option ev_A) (_ : ev_Q) : Bool := match a with
  | some x => x.1 == 0 && x.2.1 == 1 && x.2.2 == 1
  | none => false
end
section
def sg_z0 : List ev_A := [(0, 0, 0)]
set_option maxRecDepth 1000000 in
theorem rn_z0 : fx_run ev_G0 ev_pg ev_fin1 ev_nostop 3000 ([(mi_L_law, 0, [(0, (4, 0, 0))], [], 600000, 7302249)], (0, []), sg_z0) = true := by decide +kernel
def sg_z1 : List ev_A := [(0, 1, 1), (0, -2147483648, 2147483647)]
set_option maxRecDepth 1000000 in
theorem rn_z1 : fx_run ev_G0 ev_pg ev_fin1 ev_nostop 3000 ([(mi_L_law, 0, [(0, (4, 0, 0))], [], 600000, 7302249)], (0, []), sg_z1) = true := by decide +kernel
def sg_z2 : List ev_A := [(0, 2, 7), (0, -2147483648, 2147483647), (0, -2147483648, 2147483647)]
set_option maxRecDepth 1000000 in
theorem rn_z2 : fx_run ev_G0 ev_pg ev_fin1 ev_nostop 3000 ([(mi_L_law, 0, [(0, (4, 0, 0))], [], 600000, 7302249)], (0, []), sg_z2) = true := by decide +kernel
end
section
def sg_n0_0 : List ev_A := [(0, 8, 8), (0, -2147483648, 1), (0, -2147483648, 2147483647), (0, -2147483648, 2147483647), (0, -2147483648, 2147483647), (0, -2147483648, 2147483647), (0, -2147483648, 2147483647), (0, -2147483648, 2147483647), (0, -2147483648, 2147483647)]
set_option maxRecDepth 1000000 in
theorem rn_n0_0 : fx_run ev_G0 ev_pg ev_fin1 ev_nostop 3000 ([(mi_L_law, 0, [(0, (4, 0, 0))], [], 600000, 7302249)], (0, []), sg_n0_0) = true := by decide +kernel
def sg_n1_0 : List ev_A := [(0, 8, 8), (0, 2, 2), (0, -2147483648, 2147483647), (0, -2147483648, 2147483647), (0, -2147483648, 2147483647), (0, -2147483648, 2147483647), (0, -2147483648, 2147483647), (0, -2147483648, 2147483647), (0, -2147483648, 2147483647)]
set_option maxRecDepth 1000000 in
theorem rn_n1_0 : fx_run ev_G0 ev_pg ev_fin1 ev_nostop 3000 ([(mi_L_law, 0, [(0, (4, 0, 0))], [], 600000, 7302249)], (0, []), sg_n1_0) = true := by decide +kernel
def sg_n2_0 : List ev_A := [(0, 8, 8), (0, 3, 3), (0, -2147483648, 2147483647), (0, -2147483648, 2147483647), (0, -2147483648, 0), (0, -2147483648, 2147483647), (0, -2147483648, 2147483647), (0, -2147483648, 2147483647), (0, -2147483648, 2147483647)]
set_option maxRecDepth 1000000 in
theorem rn_n2_0 : fx_run ev_G0 ev_pg ev_fin1 ev_nostop 3000 ([(mi_L_law, 0, [(0, (4, 0, 0))], [], 600000, 7302249)], (0, []), sg_n2_0) = true := by decide +kernel
end
section
def sg_n2_1 : List ev_A := [(0, 8, 8), (0, 3, 3), (0, -2147483648, 2147483647), (0, -2147483648, 2147483647), (0, 1, 1), (0, -2147483648, 2147483647), (0, -2147483648, 2147483647), (0, -2147483648, 2147483647), (0, -2147483648, 2147483647)]
set_option maxRecDepth 1000000 in
theorem rn_n2_1 : fx_run ev_G0 ev_pg ev_fin1 ev_nostop 3000 ([(mi_L_law, 0, [(0, (4, 0, 0))], [], 600000, 7302249)], (0, []), sg_n2_1) = true := by decide +kernel
def sg_n2_2 : List ev_A := [(0, 8, 8), (0, 3, 3), (0, -2147483648, 2147483647), (0, -2147483648, 2147483647), (0, 2, 2147483647), (0, -2147483648, 2147483647), (0, -2147483648, 2147483647), (0, -2147483648, 2147483647), (0, -2147483648, 2147483647)]
set_option maxRecDepth 1000000 in
theorem rn_n2_2 : fx_run ev_G0 ev_pg ev_fin1 ev_nostop 3000 ([(mi_L_law, 0, [(0, (4, 0, 0))], [], 600000, 7302249)], (0, []), sg_n2_2) = true := by decide +kernel
def sg_n3_0 : List ev_A := [(0, 8, 8), (0, 4, 4), (0, -2147483648, 2147483647), (0, -2147483648, 2147483647), (0, -2147483648, 0), (0, -2147483648, 2147483647), (0, -2147483648, 2147483647), (0, -2147483648, 2147483647), (0, -2147483648, 2147483647)]
set_option maxRecDepth 1000000 in
theorem rn_n3_0 : fx_run ev_G0 ev_pg ev_fin1 ev_nostop 3000 ([(mi_L_law, 0, [(0, (4, 0, 0))], [], 600000, 7302249)], (0, []), sg_n3_0) = true := by decide +kernel
end
section
def sg_n3_1 : List ev_A := [(0, 8, 8), (0, 4, 4), (0, -2147483648, 2147483647), (0, -2147483648, 2147483647), (0, 1, 1), (0, -2147483648, 2147483647), (0, -2147483648, 2147483647), (0, -2147483648, 2147483647), (0, -2147483648, 2147483647)]
set_option maxRecDepth 1000000 in
theorem rn_n3_1 : fx_run ev_G0 ev_pg ev_fin1 ev_nostop 3000 ([(mi_L_law, 0, [(0, (4, 0, 0))], [], 600000, 7302249)], (0, []), sg_n3_1) = true := by decide +kernel
def sg_n3_2 : List ev_A := [(0, 8, 8), (0, 4, 4), (0, -2147483648, 2147483647), (0, -2147483648, 2147483647), (0, 2, 2), (0, -2147483648, 2147483647), (0, -2147483648, 2147483647), (0, -2147483648, 2147483647), (0, -2147483648, 2147483647)]
set_option maxRecDepth 1000000 in
theorem rn_n3_2 : fx_run ev_G0 ev_pg ev_fin1 ev_nostop 3000 ([(mi_L_law, 0, [(0, (4, 0, 0))], [], 600000, 7302249)], (0, []), sg_n3_2) = true := by decide +kernel
def sg_n3_3 : List ev_A := [(0, 8, 8), (0, 4, 4), (0, -2147483648, 2147483647), (0, -2147483648, 2147483647), (0, 3, 2147483647), (0, -2147483648, 2147483647), (0, -2147483648, 2147483647), (0, -2147483648, 2147483647), (0, -2147483648, 2147483647)]
set_option maxRecDepth 1000000 in
theorem rn_n3_3 : fx_run ev_G0 ev_pg ev_fin1 ev_nostop 3000 ([(mi_L_law, 0, [(0, (4, 0, 0))], [], 600000, 7302249)], (0, []), sg_n3_3) = true := by decide +kernel
end
section
def sg_n4_0 : List ev_A := [(0, 8, 8), (0, 5, 5), (0, -2147483648, 2147483647), (0, -2147483648, 2147483647), (0, -2147483648, 0), (0, -2147483648, 2147483647), (0, -2147483648, 2147483647), (0, -2147483648, 2147483647), (0, -2147483648, 2147483647)]
set_option maxRecDepth 1000000 in
theorem rn_n4_0 : fx_run ev_G0 ev_pg ev_fin1 ev_nostop 3000 ([(mi_L_law, 0, [(0, (4, 0, 0))], [], 600000, 7302249)], (0, []), sg_n4_0) = true := by decide +kernel
def sg_n4_1 : List ev_A := [(0, 8, 8), (0, 5, 5), (0, -2147483648, 2147483647), (0, -2147483648, 2147483647), (0, 1, 1), (0, -2147483648, 2147483647), (0, -2147483648, 2147483647), (0, -2147483648, 2147483647), (0, -2147483648, 2147483647)]
set_option maxRecDepth 1000000 in
theorem rn_n4_1 : fx_run ev_G0 ev_pg ev_fin1 ev_nostop 3000 ([(mi_L_law, 0, [(0, (4, 0, 0))], [], 600000, 7302249)], (0, []), sg_n4_1) = true := by decide +kernel
def sg_n4_2 : List ev_A := [(0, 8, 8), (0, 5, 5), (0, -2147483648, 2147483647), (0, -2147483648, 2147483647), (0, 2, 2), (0, -2147483648, 2147483647), (0, -2147483648, 2147483647), (0, -2147483648, 2147483647), (0, -2147483648, 2147483647)]
set_option maxRecDepth 1000000 in
theorem rn_n4_2 : fx_run ev_G0 ev_pg ev_fin1 ev_nostop 3000 ([(mi_L_law, 0, [(0, (4, 0, 0))], [], 600000, 7302249)], (0, []), sg_n4_2) = true := by decide +kernel
end
section
def sg_n4_3 : List ev_A := [(0, 8, 8), (0, 5, 5), (0, -2147483648, 2147483647), (0, -2147483648, 2147483647), (0, 3, 3), (0, -2147483648, 2147483647), (0, -2147483648, 2147483647), (0, -2147483648, 2147483647), (0, -2147483648, 2147483647)]
set_option maxRecDepth 1000000 in
theorem rn_n4_3 : fx_run ev_G0 ev_pg ev_fin1 ev_nostop 3000 ([(mi_L_law, 0, [(0, (4, 0, 0))], [], 600000, 7302249)], (0, []), sg_n4_3) = true := by decide +kernel
def sg_n4_4 : List ev_A := [(0, 8, 8), (0, 5, 5), (0, -2147483648, 2147483647), (0, -2147483648, 2147483647), (0, 4, 2147483647), (0, -2147483648, 2147483647), (0, -2147483648, 2147483647), (0, -2147483648, 2147483647), (0, -2147483648, 2147483647)]
set_option maxRecDepth 1000000 in
theorem rn_n4_4 : fx_run ev_G0 ev_pg ev_fin1 ev_nostop 3000 ([(mi_L_law, 0, [(0, (4, 0, 0))], [], 600000, 7302249)], (0, []), sg_n4_4) = true := by decide +kernel
def sg_n5_0 : List ev_A := [(0, 8, 8), (0, 6, 6), (0, -2147483648, 2147483647), (0, -2147483648, 2147483647), (0, -2147483648, 0), (0, -2147483648, 2147483647), (0, -2147483648, 2147483647), (0, -2147483648, 2147483647), (0, -2147483648, 2147483647)]
set_option maxRecDepth 1000000 in
theorem rn_n5_0 : fx_run ev_G0 ev_pg ev_fin1 ev_nostop 3000 ([(mi_L_law, 0, [(0, (4, 0, 0))], [], 600000, 7302249)], (0, []), sg_n5_0) = true := by decide +kernel
end
section
def sg_n5_1 : List ev_A := [(0, 8, 8), (0, 6, 6), (0, -2147483648, 2147483647), (0, -2147483648, 2147483647), (0, 1, 1), (0, -2147483648, 2147483647), (0, -2147483648, 2147483647), (0, -2147483648, 2147483647), (0, -2147483648, 2147483647)]
set_option maxRecDepth 1000000 in
theorem rn_n5_1 : fx_run ev_G0 ev_pg ev_fin1 ev_nostop 3000 ([(mi_L_law, 0, [(0, (4, 0, 0))], [], 600000, 7302249)], (0, []), sg_n5_1) = true := by decide +kernel
def sg_n5_2 : List ev_A := [(0, 8, 8), (0, 6, 6), (0, -2147483648, 2147483647), (0, -2147483648, 2147483647), (0, 2, 2), (0, -2147483648, 2147483647), (0, -2147483648, 2147483647), (0, -2147483648, 2147483647), (0, -2147483648, 2147483647)]
set_option maxRecDepth 1000000 in
theorem rn_n5_2 : fx_run ev_G0 ev_pg ev_fin1 ev_nostop 3000 ([(mi_L_law, 0, [(0, (4, 0, 0))], [], 600000, 7302249)], (0, []), sg_n5_2) = true := by decide +kernel
def sg_n5_3 : List ev_A := [(0, 8, 8), (0, 6, 6), (0, -2147483648, 2147483647), (0, -2147483648, 2147483647), (0, 3, 3), (0, -2147483648, 2147483647), (0, -2147483648, 2147483647), (0, -2147483648, 2147483647), (0, -2147483648, 2147483647)]
set_option maxRecDepth 1000000 in
theorem rn_n5_3 : fx_run ev_G0 ev_pg ev_fin1 ev_nostop 3000 ([(mi_L_law, 0, [(0, (4, 0, 0))], [], 600000, 7302249)], (0, []), sg_n5_3) = true := by decide +kernel
end
section
def sg_n5_4 : List ev_A := [(0, 8, 8), (0, 6, 6), (0, -2147483648, 2147483647), (0, -2147483648, 2147483647), (0, 4, 4), (0, -2147483648, 2147483647), (0, -2147483648, 2147483647), (0, -2147483648, 2147483647), (0, -2147483648, 2147483647)]
set_option maxRecDepth 1000000 in
theorem rn_n5_4 : fx_run ev_G0 ev_pg ev_fin1 ev_nostop 3000 ([(mi_L_law, 0, [(0, (4, 0, 0))], [], 600000, 7302249)], (0, []), sg_n5_4) = true := by decide +kernel
def sg_n5_5 : List ev_A := [(0, 8, 8), (0, 6, 6), (0, -2147483648, 2147483647), (0, -2147483648, 2147483647), (0, 5, 2147483647), (0, -2147483648, 2147483647), (0, -2147483648, 2147483647), (0, -2147483648, 2147483647), (0, -2147483648, 2147483647)]
set_option maxRecDepth 1000000 in
theorem rn_n5_5 : fx_run ev_G0 ev_pg ev_fin1 ev_nostop 3000 ([(mi_L_law, 0, [(0, (4, 0, 0))], [], 600000, 7302249)], (0, []), sg_n5_5) = true := by decide +kernel
def sg_n6_0 : List ev_A := [(0, 8, 8), (0, 7, 2147483647), (0, -2147483648, 2147483647), (0, -2147483648, 2147483647), (0, -2147483648, 0), (0, -2147483648, 2147483647), (0, -2147483648, 2147483647), (0, -2147483648, 2147483647), (0, -2147483648, 2147483647)]
set_option maxRecDepth 1000000 in
theorem rn_n6_0 : fx_run ev_G0 ev_pg ev_fin1 ev_nostop 3000 ([(mi_L_law, 0, [(0, (4, 0, 0))], [], 600000, 7302249)], (0, []), sg_n6_0) = true := by decide +kernel
end
section
def sg_n6_1 : List ev_A := [(0, 8, 8), (0, 7, 2147483647), (0, -2147483648, 2147483647), (0, -2147483648, 2147483647), (0, 1, 1), (0, -2147483648, 2147483647), (0, -2147483648, 2147483647), (0, -2147483648, 2147483647), (0, -2147483648, 2147483647)]
set_option maxRecDepth 1000000 in
theorem rn_n6_1 : fx_run ev_G0 ev_pg ev_fin1 ev_nostop 3000 ([(mi_L_law, 0, [(0, (4, 0, 0))], [], 600000, 7302249)], (0, []), sg_n6_1) = true := by decide +kernel
def sg_n6_2 : List ev_A := [(0, 8, 8), (0, 7, 2147483647), (0, -2147483648, 2147483647), (0, -2147483648, 2147483647), (0, 2, 2), (0, -2147483648, 2147483647), (0, -2147483648, 2147483647), (0, -2147483648, 2147483647), (0, -2147483648, 2147483647)]
set_option maxRecDepth 1000000 in
theorem rn_n6_2 : fx_run ev_G0 ev_pg ev_fin1 ev_nostop 3000 ([(mi_L_law, 0, [(0, (4, 0, 0))], [], 600000, 7302249)], (0, []), sg_n6_2) = true := by decide +kernel
def sg_n6_3 : List ev_A := [(0, 8, 8), (0, 7, 2147483647), (0, -2147483648, 2147483647), (0, -2147483648, 2147483647), (0, 3, 3), (0, -2147483648, 2147483647), (0, -2147483648, 2147483647), (0, -2147483648, 2147483647), (0, -2147483648, 2147483647)]
set_option maxRecDepth 1000000 in
theorem rn_n6_3 : fx_run ev_G0 ev_pg ev_fin1 ev_nostop 3000 ([(mi_L_law, 0, [(0, (4, 0, 0))], [], 600000, 7302249)], (0, []), sg_n6_3) = true := by decide +kernel
end
section
def sg_n6_4 : List ev_A := [(0, 8, 8), (0, 7, 2147483647), (0, -2147483648, 2147483647), (0, -2147483648, 2147483647), (0, 4, 4), (0, -2147483648, 2147483647), (0, -2147483648, 2147483647), (0, -2147483648, 2147483647), (0, -2147483648, 2147483647)]
set_option maxRecDepth 1000000 in
theorem rn_n6_4 : fx_run ev_G0 ev_pg ev_fin1 ev_nostop 3000 ([(mi_L_law, 0, [(0, (4, 0, 0))], [], 600000, 7302249)], (0, []), sg_n6_4) = true := by decide +kernel
def sg_n6_5 : List ev_A := [(0, 8, 8), (0, 7, 2147483647), (0, -2147483648, 2147483647), (0, -2147483648, 2147483647), (0, 5, 2147483647), (0, -2147483648, 2147483647), (0, -2147483648, 2147483647), (0, -2147483648, 2147483647), (0, -2147483648, 2147483647)]
set_option maxRecDepth 1000000 in
theorem rn_n6_5 : fx_run ev_G0 ev_pg ev_fin1 ev_nostop 3000 ([(mi_L_law, 0, [(0, (4, 0, 0))], [], 600000, 7302249)], (0, []), sg_n6_5) = true := by decide +kernel
end
section
theorem ev_TT_in : ∀ w ∈ ev_TT.flatten, w ∈ lw_tbl := by
  intro w hw
  obtain ⟨l, h1, h2⟩ := List.mem_flatten.mp hw
  have h1 : l ∈ [k2_sels lw_privs, tables_1_1, tables_1_2, tables_1_3, tables_1_4, tables_1_5, tables_1_6, tables_1_7] := h1
  show w ∈ k2_sels lw_privs ++ (tables_1_1 ++ (tables_1_2 ++ (tables_1_3 ++ (tables_1_4 ++ (tables_1_5 ++ (tables_1_6 ++ (tables_1_7)))))))
  simp only [List.mem_cons, List.not_mem_nil, or_false] at h1
  simp only [List.mem_append]
  rcases h1 with rfl | rfl | rfl | rfl | rfl | rfl | rfl | rfl <;> simp [h2]
set_option maxRecDepth 100000 in
theorem ev_insW0 : Cond.instantiable RX0 16 ∈ ev_TT.flatten.filter goodWord := ev_inps [1025] (ws := [.instantiable RX0 16]) (by decide +kernel) (by decide +kernel) _ (List.mem_singleton.mpr rfl)
set_option maxRecDepth 100000 in
theorem ev_insW1 : Cond.instantiable RX1 5 ∈ ev_TT.flatten.filter goodWord := ev_inps [3006] (ws := [.instantiable RX1 5]) (by decide +kernel) (by decide +kernel) _ (List.mem_singleton.mpr rfl)
set_option maxRecDepth 100000 in
theorem ev_insW2 : Cond.instantiable RX2 4 ∈ ev_TT.flatten.filter goodWord := ev_inps [3151] (ws := [.instantiable RX2 4]) (by decide +kernel) (by decide +kernel) _ (List.mem_singleton.mpr rfl)
set_option maxRecDepth 100000 in
theorem ev_insW3 : Cond.instantiable RX4 8 ∈ ev_TT.flatten.filter goodWord := ev_inps [1093] (ws := [.instantiable RX4 8]) (by decide +kernel) (by decide +kernel) _ (List.mem_singleton.mpr rfl)
set_option maxRecDepth 100000 in
theorem ev_insW4 : Cond.instantiable RX5 17 ∈ ev_TT.flatten.filter goodWord := ev_inps [1165] (ws := [.instantiable RX5 17]) (by decide +kernel) (by decide +kernel) _ (List.mem_singleton.mpr rfl)
set_option maxRecDepth 100000 in
theorem ev_insW5 : Cond.instantiable RX6 2 ∈ ev_TT.flatten.filter goodWord := ev_inps [1173] (ws := [.instantiable RX6 2]) (by decide +kernel) (by decide +kernel) _ (List.mem_singleton.mpr rfl)
set_option maxRecDepth 100000 in
theorem ev_insW6 : Cond.instantiable RX7 4 ∈ ev_TT.flatten.filter goodWord := ev_inps [2105] (ws := [.instantiable RX7 4]) (by decide +kernel) (by decide +kernel) _ (List.mem_singleton.mpr rfl)
set_option maxRecDepth 100000 in
theorem ev_insW7 : Cond.instantiable RX8 20 ∈ ev_TT.flatten.filter goodWord := ev_inps [3000] (ws := [.instantiable RX8 20]) (by decide +kernel) (by decide +kernel) _ (List.mem_singleton.mpr rfl)
set_option maxRecDepth 100000 in
theorem ev_insW8 : Cond.instantiable RX9 7 ∈ ev_TT.flatten.filter goodWord := ev_inps [1126] (ws := [.instantiable RX9 7]) (by decide +kernel) (by decide +kernel) _ (List.mem_singleton.mpr rfl)
set_option maxRecDepth 100000 in
theorem ev_insW9 : Cond.instantiable RX10 15 ∈ ev_TT.flatten.filter goodWord := ev_inps [1015] (ws := [.instantiable RX10 15]) (by decide +kernel) (by decide +kernel) _ (List.mem_singleton.mpr rfl)
set_option maxRecDepth 100000 in
theorem ev_insW10 : Cond.instantiable RX11 87 ∈ ev_TT.flatten.filter goodWord := ev_inps [4221] (ws := [.instantiable RX11 87]) (by decide +kernel) (by decide +kernel) _ (List.mem_singleton.mpr rfl)
theorem ev_ins0 : ∀ (ci : Nat) (C : String) (T : u_T) (N : Nat), ev_cl0[ci]? = some (C, T, N) → Cond.instantiable C N ∈ ev_TT.flatten.filter goodWord := by
  intro ci C T N h
  match ci, h with
  | 0, h =>
    have h : some (RX0, TX0, 16) = some (C, T, N) := h
    cases h
    exact ev_insW0
  | 1, h =>
    have h : some (RX1, TX1, 5) = some (C, T, N) := h
    cases h
    exact ev_insW1
  | 2, h =>
    have h : some (RX2, TX2, 4) = some (C, T, N) := h
    cases h
    exact ev_insW2
  | 3, h =>
    have h : some (RX4, TX4, 8) = some (C, T, N) := h
    cases h
    exact ev_insW3
  | 4, h =>
    have h : some (RX5, TX5, 17) = some (C, T, N) := h
    cases h
    exact ev_insW4
  | 5, h =>
    have h : some (RX6, TX6, 2) = some (C, T, N) := h
    cases h
    exact ev_insW5
  | 6, h =>
    have h : some (RX7, TX7, 4) = some (C, T, N) := h
    cases h
    exact ev_insW6
  | 7, h =>
    have h : some (RX8, TX8, 20) = some (C, T, N) := h
    cases h
    exact ev_insW7
  | 8, h =>
    have h : some (RX9, TX9, 7) = some (C, T, N) := h
    cases h
    exact ev_insW8
  | 9, h =>
    have h : some (RX10, TX10, 15) = some (C, T, N) := h
    cases h
    exact ev_insW9
  | 10, h =>
    have h : some (RX11, TX11, 87) = some (C, T, N) := h
    cases h
    exact ev_insW10
  | j + 11, h => exact absurd h (by simp [ev_cl0])
theorem ev_poss {ws : List Cond} (ps : List Nat) (hp : ws = ps.filterMap ev_pos) : ∀ w ∈ ws, w ∈ ev_TT.flatten := by
  intro w hw
  rw [hp] at hw
  obtain ⟨i, -, hi⟩ := List.mem_filterMap.mp hw
  unfold ev_pos at hi
  split at hi
  · rename_i l hl
    rw [ev_nth_eq] at hi hl
    exact List.mem_flatten.mpr ⟨l, List.mem_of_getElem? hl, List.mem_of_getElem? hi⟩
  · cases hi
set_option maxRecDepth 100000 in
theorem ev_aoW : ∀ w ∈ ev_AO0.map (fun n => Cond.arrayOver (.object n)), w ∈ ev_TT.flatten := ev_poss [1023, 1128, 1164, 1172, 1179, 3012] (by decide +kernel)
set_option maxRecDepth 100000 in
theorem ev_acW : ∀ w ∈ [Cond.arrayClass .int, Cond.arrayClass .long, Cond.arrayClass .boolean], w ∈ ev_TT.flatten := ev_poss [1091, 1124, 1156] (by decide +kernel)
theorem ev_prim {s : State} {args : Array Value} {ty : FieldType} (h : (Cond.arrayClass ty).before args s = true) (hty : ∀ n, ty ≠ .object n) : ∃ cA, ArrOfT s cA ty ∧ va_RA s cA ty := by
  obtain ⟨c, k, comp, h1, h2, h3⟩ := Cond.arrayClass_spec h
  refine ⟨c, fun n z => ⟨fun k h => (by cases h), k, h2, comp, h3⟩, ?_⟩
  cases ty with
  | object n => exact absurd rfl (hty n)
  | _ => exact h1
theorem ev_objs {s : State} {n : String} (h : va_AO n s) : ∃ cA, ArrOfT s cA (.object n) ∧ va_RA s cA (.object n) := by
  obtain ⟨comp, c, k, h1, h2, h3, h4, h5⟩ := Cond.arrayOver_spec h
  exact ⟨c, fun n z => ⟨fun k h => (by cases h), k, h3, comp, h4⟩, k, comp, h3, h4, h1, h5⟩
theorem ev_exK {s : State} {args : Array Value} (hts : ∀ w ∈ ev_TT.flatten, w.before args s = true) : ∃ (D : va_G) (tys : List (ClassId × FieldType)), tys.map Prod.snd = ev_G0.2.1 ∧ ev_Kw D ev_G0.1 tys (ev_TT.flatten.filter ev_isN) ev_AO0 s := by
  have hts' : ∀ w ∈ ev_TT.flatten.filter goodWord, w.before args s = true := fun w hw => hts w (List.mem_filter.mp hw).1
  have hAO : ∀ n ∈ ev_AO0, va_AO n s := fun n hn => va_AO.of (hts _ (ev_aoW _ (List.mem_map.mpr ⟨n, hn, rfl⟩)))
  have hcl : ∀ ci : Nat, ∃ (r : ClassId × (Nat → Nat)), ∀ q, ev_cl0[ci]? = some q → u_Kn s q.1 q.2.1 q.2.2 r.1 r.2 := by
    intro ci
    cases h : ev_cl0[ci]? with
    | none => exact ⟨(0, fun _ => 0), fun q e => by cases e⟩
    | some q =>
      obtain ⟨C, T, N⟩ := q
      obtain ⟨cC, iS, hk⟩ := u_known (C := C) (T := T) (N := N) hts' (ev_fx0.2.2.2.1 ci C T N h).1 (hts' _ (ev_ins0 ci C T N h))
      exact ⟨(cC, iS), fun q e => by cases e; exact hk⟩
  have hty : ∀ ty ∈ ev_tl0, ∃ cA, ArrOfT s cA ty ∧ va_RA s cA ty := by
    show ∀ ty ∈ ([.int, .long, .boolean, .object "RatchetPost$Letter", .object "RatchetPost$Secret", .object "RatchetPost$Person", .object "RatchetPost$Row", .object "RatchetPost$Session", .object "RatchetPost$Turn"] : List FieldType), _
    exact List.forall_mem_cons.mpr ⟨ev_prim (hts _ (ev_acW _ (by simp))) (fun n h => by cases h), List.forall_mem_cons.mpr ⟨ev_prim (hts _ (ev_acW _ (by simp))) (fun n h => by cases h), List.forall_mem_cons.mpr ⟨ev_prim (hts _ (ev_acW _ (by simp))) (fun n h => by cases h), List.forall_mem_cons.mpr ⟨ev_objs (hAO _ (by simp [ev_AO0])), List.forall_mem_cons.mpr ⟨ev_objs (hAO _ (by simp [ev_AO0])), List.forall_mem_cons.mpr ⟨ev_objs (hAO _ (by simp [ev_AO0])), List.forall_mem_cons.mpr ⟨ev_objs (hAO _ (by simp [ev_AO0])), List.forall_mem_cons.mpr ⟨ev_objs (hAO _ (by simp [ev_AO0])), List.forall_mem_cons.mpr ⟨ev_objs (hAO _ (by simp [ev_AO0])), fun _ h => absurd h List.not_mem_nil⟩⟩⟩⟩⟩⟩⟩⟩⟩
  have hty2 : ∀ ty : FieldType, ∃ cA : ClassId, ty ∈ ev_tl0 → ArrOfT s cA ty ∧ va_RA s cA ty := by
    intro ty
    by_cases h : ty ∈ ev_tl0
    · obtain ⟨cA, hc⟩ := hty ty h
      exact ⟨cA, fun _ => hc⟩
    · exact ⟨0, fun q => absurd q h⟩
  refine ⟨(fun ci => (Classical.choose (hcl ci)).1, fun ci => (Classical.choose (hcl ci)).2), ev_tl0.map (fun ty => (Classical.choose (hty2 ty), ty)), ?_, ⟨fun ci q hq => Classical.choose_spec (hcl ci) q hq, fun k q hq => ?_⟩, fun w hw => ?_, hAO⟩
  · show _ = ev_tl0
    rw [List.map_map]
    exact List.map_id _
  · obtain ⟨ty, h1, rfl⟩ := List.mem_map.mp (List.mem_of_getElem? hq)
    exact Classical.choose_spec (hty2 ty) h1
  · have hb := hts w (List.mem_filter.mp hw).1
    rcases ev_tn_form w hw with ⟨a, i, x, n, d, hh, rfl⟩ | ⟨a, i, x, hh, rfl⟩
    · exact va_Nw.of rfl hb
    · exact va_Nw.of rfl hb
theorem ev_hv_c {l : Launch} {Tg : List Cond} {M M' : ev_M} (h1 : ev_mN M = ev_mN M') (h2 : ev_mB M = ev_mB M') (h3 : ev_mL M = ev_mL M') (h4 : ev_mR M = ev_mR M') (h5 : ev_mP M = ev_mP M') (h6 : ev_mF M = ev_mF M') (h7 : ev_mO M = ev_mO M') (h8 : ev_mY M = ev_mY M') (h9 : ev_mS M = ev_mS M') (h : ev_Hv l Tg M) : ev_Hv l Tg M' := by
  unfold ev_Hv ev_ws ev_rm at h ⊢
  rw [← h1, ← h2, ← h3, ← h4, ← h5, ← h6, ← h7, ← h8, ← h9]
  exact h
theorem ev_pg_hv (l : Launch) : ∀ M ∈ ev_pg, 10 ≤ ev_mK M → ev_Hv l (ev_TT.flatten.filter goodWord) M := by
  show ∀ M ∈ [mi_L_cell, mi_X0_init, mi_X10_arePair, mi_X10_begin, mi_X10_byteOf, mi_X10_come, mi_X10_copy, mi_X10_count, mi_X10_end, mi_X10_feed, mi_X10_forge, mi_X10_forget, mi_X10_init, mi_X10_inside, mi_X10_isLetter, mi_X10_isUser, mi_X10_letter, mi_X10_look, mi_X10_number, mi_X10_oneIf, mi_X10_publish, mi_X10_putOnTape, mi_X10_readable, mi_X10_register, mi_X10_rotate, mi_X10_same, mi_X10_session, mi_X10_spoil, mi_X10_user, mi_X10_write, mi_X11_asSecret, mi_X11_begin, mi_X11_byteOf, mi_X11_come, mi_X11_copy, mi_X11_count, mi_X11_draw, mi_X11_drawTerm, mi_X11_end, mi_X11_feed, mi_X11_forge, mi_X11_forget, mi_X11_init, mi_X11_inside, mi_X11_isLetter, mi_X11_isThere, mi_X11_keptSecrets, mi_X11_leastOnce, mi_X11_lend, mi_X11_letter, mi_X11_look, mi_X11_mix, mi_X11_modQ, mi_X11_number, mi_X11_onceInDirectory, mi_X11_power, mi_X11_publish, mi_X11_readable, mi_X11_register, mi_X11_rotate, mi_X11_same, mi_X11_session, mi_X11_sessionsOf, mi_X11_slotOf, mi_X11_spoil, mi_X11_term, mi_X11_times, mi_X11_timesQ, mi_X11_user, mi_X11_write, mi_X3_isOpen, mi_X3_mix, mi_X3_power, mi_X3_rest, mi_X3_sealProof, mi_X3_sealSum, mi_X3_secretOf, mi_X3_times, mi_X3_timesModuloQ, mi_X4_init, mi_X5_drawSecret, mi_X5_enrol, mi_X5_giveAway, mi_X5_init, mi_X5_isRegistered, mi_X5_leastOnce, mi_X5_makeLentKey, mi_X5_onceSecretsKept, mi_X5_onceThere, mi_X5_sessionsInAll, mi_X6_at, mi_X6_giveAway, mi_X6_init, mi_X6_retireAll, mi_X7_give, mi_X7_init, mi_X9_giveRoot, mi_X9_init], _
  exact List.forall_mem_cons.mpr ⟨fun h => absurd h (by decide), List.forall_mem_cons.mpr ⟨fun h => absurd h (by decide), List.forall_mem_cons.mpr ⟨fun h => absurd h (by decide), List.forall_mem_cons.mpr ⟨fun h => absurd h (by decide), List.forall_mem_cons.mpr ⟨fun h => absurd h (by decide), List.forall_mem_cons.mpr ⟨fun h => absurd h (by decide), List.forall_mem_cons.mpr ⟨fun h => absurd h (by decide), List.forall_mem_cons.mpr ⟨fun h => absurd h (by decide), List.forall_mem_cons.mpr ⟨fun h => absurd h (by decide), List.forall_mem_cons.mpr ⟨fun h => absurd h (by decide), List.forall_mem_cons.mpr ⟨fun h => absurd h (by decide), List.forall_mem_cons.mpr ⟨fun h => absurd h (by decide), List.forall_mem_cons.mpr ⟨fun h => absurd h (by decide), List.forall_mem_cons.mpr ⟨fun h => absurd h (by decide), List.forall_mem_cons.mpr ⟨fun h => absurd h (by decide), List.forall_mem_cons.mpr ⟨fun h => absurd h (by decide), List.forall_mem_cons.mpr ⟨fun h => absurd h (by decide), List.forall_mem_cons.mpr ⟨fun h => absurd h (by decide), List.forall_mem_cons.mpr ⟨fun h => absurd h (by decide), List.forall_mem_cons.mpr ⟨fun h => absurd h (by decide), List.forall_mem_cons.mpr ⟨fun h => absurd h (by decide), List.forall_mem_cons.mpr ⟨fun h => absurd h (by decide), List.forall_mem_cons.mpr ⟨fun h => absurd h (by decide), List.forall_mem_cons.mpr ⟨fun h => absurd h (by decide), List.forall_mem_cons.mpr ⟨fun h => absurd h (by decide), List.forall_mem_cons.mpr ⟨fun h => absurd h (by decide), List.forall_mem_cons.mpr ⟨fun h => absurd h (by decide), List.forall_mem_cons.mpr ⟨fun h => absurd h (by decide), List.forall_mem_cons.mpr ⟨fun h => absurd h (by decide), List.forall_mem_cons.mpr ⟨fun h => absurd h (by decide), List.forall_mem_cons.mpr ⟨fun h => absurd h (by decide), List.forall_mem_cons.mpr ⟨fun h => absurd h (by decide), List.forall_mem_cons.mpr ⟨fun h => absurd h (by decide), List.forall_mem_cons.mpr ⟨fun h => absurd h (by decide), List.forall_mem_cons.mpr ⟨fun h => absurd h (by decide), List.forall_mem_cons.mpr ⟨fun h => absurd h (by decide), List.forall_mem_cons.mpr ⟨fun h => absurd h (by decide), List.forall_mem_cons.mpr ⟨fun h => absurd h (by decide), List.forall_mem_cons.mpr ⟨fun h => absurd h (by decide), List.forall_mem_cons.mpr ⟨fun h => absurd h (by decide), List.forall_mem_cons.mpr ⟨fun h => absurd h (by decide), List.forall_mem_cons.mpr ⟨fun h => absurd h (by decide), List.forall_mem_cons.mpr ⟨fun h => absurd h (by decide), List.forall_mem_cons.mpr ⟨fun h => absurd h (by decide), List.forall_mem_cons.mpr ⟨fun h => absurd h (by decide), List.forall_mem_cons.mpr ⟨fun h => absurd h (by decide), List.forall_mem_cons.mpr ⟨fun h => absurd h (by decide), List.forall_mem_cons.mpr ⟨fun h => absurd h (by decide), List.forall_mem_cons.mpr ⟨fun h => absurd h (by decide), List.forall_mem_cons.mpr ⟨fun h => absurd h (by decide), List.forall_mem_cons.mpr ⟨fun h => absurd h (by decide), List.forall_mem_cons.mpr ⟨fun h => absurd h (by decide), List.forall_mem_cons.mpr ⟨fun h => absurd h (by decide), List.forall_mem_cons.mpr ⟨fun h => absurd h (by decide), List.forall_mem_cons.mpr ⟨fun h => absurd h (by decide), List.forall_mem_cons.mpr ⟨fun _ => ev_hv_c rfl rfl rfl rfl rfl rfl rfl rfl rfl (hv_X11_power l), List.forall_mem_cons.mpr ⟨fun h => absurd h (by decide), List.forall_mem_cons.mpr ⟨fun h => absurd h (by decide), List.forall_mem_cons.mpr ⟨fun h => absurd h (by decide), List.forall_mem_cons.mpr ⟨fun h => absurd h (by decide), List.forall_mem_cons.mpr ⟨fun h => absurd h (by decide), List.forall_mem_cons.mpr ⟨fun h => absurd h (by decide), List.forall_mem_cons.mpr ⟨fun h => absurd h (by decide), List.forall_mem_cons.mpr ⟨fun h => absurd h (by decide), List.forall_mem_cons.mpr ⟨fun h => absurd h (by decide), List.forall_mem_cons.mpr ⟨fun h => absurd h (by decide), List.forall_mem_cons.mpr ⟨fun _ => ev_hv_c rfl rfl rfl rfl rfl rfl rfl rfl rfl (hv_X11_times l), List.forall_mem_cons.mpr ⟨fun _ => ev_hv_c rfl rfl rfl rfl rfl rfl rfl rfl rfl (hv_X11_timesQ l), List.forall_mem_cons.mpr ⟨fun h => absurd h (by decide), List.forall_mem_cons.mpr ⟨fun h => absurd h (by decide), List.forall_mem_cons.mpr ⟨fun h => absurd h (by decide), List.forall_mem_cons.mpr ⟨fun h => absurd h (by decide), List.forall_mem_cons.mpr ⟨fun _ => ev_hv_c rfl rfl rfl rfl rfl rfl rfl rfl rfl (hv_X3_power l), List.forall_mem_cons.mpr ⟨fun h => absurd h (by decide), List.forall_mem_cons.mpr ⟨fun h => absurd h (by decide), List.forall_mem_cons.mpr ⟨fun h => absurd h (by decide), List.forall_mem_cons.mpr ⟨fun h => absurd h (by decide), List.forall_mem_cons.mpr ⟨fun _ => ev_hv_c rfl rfl rfl rfl rfl rfl rfl rfl rfl (hv_X3_times l), List.forall_mem_cons.mpr ⟨fun _ => ev_hv_c rfl rfl rfl rfl rfl rfl rfl rfl rfl (hv_X3_timesModuloQ l), List.forall_mem_cons.mpr ⟨fun h => absurd h (by decide), List.forall_mem_cons.mpr ⟨fun h => absurd h (by decide), List.forall_mem_cons.mpr ⟨fun h => absurd h (by decide), List.forall_mem_cons.mpr ⟨fun h => absurd h (by decide), List.forall_mem_cons.mpr ⟨fun h => absurd h (by decide), List.forall_mem_cons.mpr ⟨fun h => absurd h (by decide), List.forall_mem_cons.mpr ⟨fun h => absurd h (by decide), List.forall_mem_cons.mpr ⟨fun h => absurd h (by decide), List.forall_mem_cons.mpr ⟨fun h => absurd h (by decide), List.forall_mem_cons.mpr ⟨fun h => absurd h (by decide), List.forall_mem_cons.mpr ⟨fun h => absurd h (by decide), List.forall_mem_cons.mpr ⟨fun h => absurd h (by decide), List.forall_mem_cons.mpr ⟨fun h => absurd h (by decide), List.forall_mem_cons.mpr ⟨fun h => absurd h (by decide), List.forall_mem_cons.mpr ⟨fun h => absurd h (by decide), List.forall_mem_cons.mpr ⟨fun h => absurd h (by decide), List.forall_mem_cons.mpr ⟨fun h => absurd h (by decide), List.forall_mem_cons.mpr ⟨fun h => absurd h (by decide), List.forall_mem_cons.mpr ⟨fun h => absurd h (by decide), fun _ h => absurd h List.not_mem_nil⟩⟩⟩⟩⟩⟩⟩⟩⟩⟩⟩⟩⟩⟩⟩⟩⟩⟩⟩⟩⟩⟩⟩⟩⟩⟩⟩⟩⟩⟩⟩⟩⟩⟩⟩⟩⟩⟩⟩⟩⟩⟩⟩⟩⟩⟩⟩⟩⟩⟩⟩⟩⟩⟩⟩⟩⟩⟩⟩⟩⟩⟩⟩⟩⟩⟩⟩⟩⟩⟩⟩⟩⟩⟩⟩⟩⟩⟩⟩⟩⟩⟩⟩⟩⟩⟩⟩⟩⟩⟩⟩⟩⟩⟩⟩⟩⟩⟩
end
section
/-! THE CLAIM OUT OF ONE WALK OF THE LAW'S BODY. Your part is whole_start (and what it stands on); all else here is the same for every law, but numbers. -/
def R_law : String := "RatchetPostLaw"
def lw_P (b : Addr) (xs : List Int32) (args : Array Value) (s : State) : Prop := args = #[.ref b] ∧ s.IntsAt b xs ∧ xs.length ≤ 8 ∧ (Jvm.Cond.and given_1 narrow_1).before args s = true
def lw_Q (_ : Array Value) (s : State) (o : Outcome) (t : State) : Prop := o = .returned (some (.int 1)) ∧ Framed s o t [] 600000 7302249
def lw_Z (below : List Frame) (a : Array Value) (s : State) : State → Prop := fun t => ∃ o, t.status = .running ∧ Ended t below o ∧ lw_Q a s o t
/-- the law's own end, with 1 on the stack, nothing written that was there before, its room as the claim has it -/
theorem lw_ret {p : Program} {l : Launch} {e : Env} {s : State} {m : MethodId} {below : List Frame} {meth : Method} {c : Code} {b : Nat} (hx : p.tables.exec = Jvm.exec) (hb : c.code = code) (hr : meth.sig.returnType = ret) (hlocks : meth.locks = false) {pc : Nat} {H : Heap} {ls : Array Slot} (hdg : decode code pc = .ok (.ireturn, 1)) : W p l e room_1 s m #[Value.ref b] below meth c H [] 600000 7302249 (lw_Z below #[Value.ref b] s) (F0 m pc ls [.int 1]) := by
  intro T hT X
  obtain ⟨fs, hret, hrun, hended, hW, hframe⟩ := X.leave (v := some (.int 1)) (hlocks := hlocks) (fun h => by rw [hr] at h; cases h)
  have hmeth' : T.vm.method? m = some meth := X.method'
  refine ⟨T.setFrames fs, ?_, .returned (some (.int 1)), hrun, hended, rfl, ⟨_, rfl⟩, hW, hframe⟩
  jvm_step X.here [X.here.top, hx, hb, hdg, hmeth', hr, ret, narrow_b1]
  (try refine ⟨rfl, ?_⟩); (try refine ⟨rfl, ?_⟩)
  first | (intro acts; rw [hret _ acts rfl rfl rfl]) | rw [hret _ _ rfl rfl rfl]
  exact Steps.refl _
/-- what holds at the law's entry: the machine, the code, the tables' words (any of lw_tbl by 'hts w (by decide +kernel)'), the script of L ints xs at the cell b, what the Statement gives of the start (any of its parts by flat_of_before) -/
def lw_At (p : Program) (s : State) (m : MethodId) (meth : Method) (c : Code) (b L : Nat) (xs : Nat → Int32) : Prop :=
  p.tables.exec = Jvm.exec ∧ c.code = code ∧ meth.sig.returnType = ret ∧ c.maxLocals = 4 ∧ s.vm.findClass R_law = some m.cls ∧ (∀ w ∈ lw_tbl, w.before #[Value.ref b] s = true) ∧ va_X b L xs s s.heap ∧ b < s.heap.size ∧ meth.locks = false ∧ (Jvm.Cond.and given_1 narrow_1).before #[Value.ref b] s = true
-- ===== YOUR PART BEGINS =====
theorem ev_one {x : Int32} (h1 : 1 ≤ x.toInt) (h2 : x.toInt ≤ 1) : x = 1 := Int32.toInt_inj.mp (by have : (1 : Int32).toInt = 1 := rfl; omega)
/-- the law, from its entry, by a run of the abstract machine -/
theorem law_go {p : Program} {e : Env} {s : State} {m : MethodId} {below : List Frame} {meth : Method} {c : Code} (l : Launch) {b L : Nat} {xs : Nat → Int32} (C0 : lw_At p s m meth c b L xs) (sg : List ev_A) (hrun : fx_run ev_G0 ev_pg ev_fin1 ev_nostop 3000 ([(mi_L_law, 0, [(0, (4, 0, 0))], [], 600000, 7302249)], (0, []), sg) = true) (hsc : ev_Sc sg L xs) : W p l e room_1 s m #[Value.ref b] below meth c s.heap [] 0 0 (lw_Z below #[Value.ref b] s) (entryFrame m ([Value.ref b] : List Value).toArray 4) := by
  obtain ⟨hx, hb, hr, hml, hown, hts, hX, hbl, hlocks, hgv⟩ := id C0
  have hts0 : ∀ w ∈ ev_TT.flatten, w.before #[Value.ref b] s = true := fun w hw => hts w (ev_TT_in w hw)
  obtain ⟨D, tys, htys, hKw⟩ := ev_exK hts0
  have hg := ev_sound (l := l) (D := D) (tys := tys) (o := true) (B := s.heap.size) (b := b) (L := L) (xs := xs) (fin := ev_fin1) (stop := ev_nostop) (dk := fun M => M = mi_L_law ∨ M ∈ ev_pg) ev_fx0 ev_pg_ok (fun _ h => Or.inr h) (fun M hM => by
    rcases hM with h | h
    · subst h; exact okd_L_law
    · exact (ev_pg_ok M h).2.2.2.2.2.2.2) (by decide) htys (ev_pg_hv l) (fun _ _ h => by cases h) 3000 _ (fx_run_ok 3000 _ hrun)
  have hcx : ev_Cx D tys (ev_TT.flatten.filter goodWord) (ev_TT.flatten.filter ev_isN) ev_AO0 ev_G0 mi_L_law p s m #[Value.ref b] meth c := ⟨hx, hb, hml, hown, fun w hw => hts0 w (List.mem_filter.mp hw).1, hr, hlocks, fun h => absurd h (by decide), hKw⟩
  have hl := lv_entry ([.ref b]) (n := 4) (Nat.le_of_ble_eq_true rfl)
  rw [lg_entry_eq]
  refine hg (Or.inl rfl) (fun _ h => by cases h) p e room_1 s m #[Value.ref b] below meth c _ s.heap [] 0 0 _ _ [] 600000 7302249 hcx hl ⟨⟨rfl, rfl⟩, trivial⟩ trivial ⟨rfl, fun i c q => (by simp [ev_hg, ev_nth] at q)⟩ ⟨fun _ _ => rfl, fun _ q => (by cases q)⟩ ⟨hsc, fun _ => rfl, fun _ => ⟨hbl, hX⟩⟩ (by decide) (by decide) (by decide) (by decide) (by decide) (by decide) ?_
  intro H1 locs1 cells1 slots1 ls1 pc1 cst1 E1 st1 a1 h1' sg1 hP hat hlen1 hrok g1' hR1 hLo1 hSd1 hc1 hs1
  refine va_forget hLo1.2 ?_
  refine W.widen hc1 hs1 ?_
  have hd1 := (okd_L_law pc1 E1 hat).1
  rw [hlen1] at hd1
  have hf : ev_fin1 a1 h1' = true := hP
  obtain ⟨ins, len, u, v, z⟩ := E1
  have hR2 : ev_mR mi_L_law = some .boolean := rfl
  cases ins
  case ireturn =>
    simp only [ev_rok, hR2] at hrok
    split at hrok
    · rename_i a' ty hM
      split at hrok
      · cases hrok
        obtain ⟨w, ws, rfl, e1, g2⟩ := ev_cons g1'
        have := ev_nil g2
        subst this
        unfold ev_fin1 at hf
        simp only [Bool.and_eq_true, beq_iff_eq] at hf
        obtain ⟨t, l1, h1⟩ := a'
        obtain ⟨⟨rfl, rfl⟩, rfl⟩ := hf
        obtain ⟨x, rfl, b1, b2⟩ := ev_int e1
        have := ev_one b1 b2
        subst this
        exact lw_ret hx hb hr hlocks hd1
      · cases hrok
    · cases hrok
  case return_ =>
    simp only [ev_rok, hR2] at hrok
    cases hrok
  case lreturn =>
    simp only [ev_rok, hR2] at hrok
    split at hrok
    · rename_i a' ty hM
      cases hM
      simp [ev_tyJ] at hrok
    · cases hrok
  case areturn =>
    simp only [ev_rok, hR2] at hrok
    split at hrok
    · rename_i a' ty hM
      cases hM
      simp [ev_fs] at hrok
    · cases hrok
  all_goals (exact absurd hrok (by simp [ev_rok]))
theorem ev_sc8 {xs : Nat → Int32} {a0 a3 : ev_A} (h0 : ev_g 0 0 (.int (xs 0)) a0) (h3 : ev_g 0 0 (.int (xs 3)) a3) : ev_Sc [(0, 8, 8), a0, (0, -2147483648, 2147483647), (0, -2147483648, 2147483647), a3, (0, -2147483648, 2147483647), (0, -2147483648, 2147483647), (0, -2147483648, 2147483647), (0, -2147483648, 2147483647)] 8 xs := by
  refine ⟨by decide, fun a h => ?_, fun j a h hj => ?_⟩
  · cases h
    exact ⟨8, rfl, by decide, by decide⟩
  · match j, h with
    | 0, h => cases h; exact h0
    | 1, h => cases h; exact ev_tI_ok _
    | 2, h => cases h; exact ev_tI_ok _
    | 3, h => cases h; exact h3
    | 4, h => cases h; exact ev_tI_ok _
    | 5, h => cases h; exact ev_tI_ok _
    | 6, h => cases h; exact ev_tI_ok _
    | 7, h => cases h; exact ev_tI_ok _
    | k + 8, h => exact absurd hj (by omega)
/-- YOUR PART: from the entry, for every script of at most 8 ints, the law comes to its end with true -/
theorem whole_start {p : Program} {e : Env} {s : State} {m : MethodId} {below : List Frame} {meth : Method} {c : Code} (l : Launch) {b L : Nat} {xs : Nat → Int32} (hL : L ≤ 8) (C0 : lw_At p s m meth c b L xs) : W p l e room_1 s m #[Value.ref b] below meth c s.heap [] 0 0 (lw_Z below #[Value.ref b] s) (entryFrame m ([Value.ref b] : List Value).toArray 4) := by
  rcases (show L = 0 ∨ L = 1 ∨ (2 ≤ L ∧ L ≤ 7) ∨ L = 8 by omega) with rfl | rfl | hL2 | rfl
  · refine law_go l C0 sg_z0 rn_z0 ⟨by decide, fun a h => ?_, fun j a h hj => absurd hj (by omega)⟩
    cases h
    exact ⟨0, rfl, by decide, by decide⟩
  · refine law_go l C0 sg_z1 rn_z1 ⟨by decide, fun a h => ?_, fun j a h hj => ?_⟩
    · cases h
      exact ⟨1, rfl, by decide, by decide⟩
    · match j, h with
      | 0, h => cases h; exact ev_tI_ok _
      | k + 1, h => exact absurd hj (by omega)
  · refine law_go l C0 sg_z2 rn_z2 ⟨by omega, fun a h => ?_, fun j a h hj => ?_⟩
    · cases h
      have e1 : (nI L).toInt = L := nI_toInt (by omega)
      exact ⟨nI L, rfl, by rw [e1]; show (2 : Int) ≤ _; omega, by rw [e1]; show _ ≤ (7 : Int); omega⟩
    · match j, h with
      | 0, h => cases h; exact ev_tI_ok _
      | 1, h => cases h; exact ev_tI_ok _
      | k + 2, h => simp [sg_z2] at h
  · obtain ⟨a0, m0, g0⟩ := ev_cut_ok (B := 0) (b := 0) (x := xs 0) (ks := [2, 3, 4, 5, 6, 7]) (Int32.minValue_le_toInt (xs 0)) (Int32.toInt_le (xs 0))
    have m0 : a0 ∈ [((0, -2147483648, 1) : ev_A), ((0, 2, 2) : ev_A), ((0, 3, 3) : ev_A), ((0, 4, 4) : ev_A), ((0, 5, 5) : ev_A), ((0, 6, 6) : ev_A), ((0, 7, 2147483647) : ev_A)] := m0
    simp only [List.mem_cons, List.not_mem_nil, or_false] at m0
    rcases m0 with rfl | rfl | rfl | rfl | rfl | rfl | rfl
    · exact law_go l C0 sg_n0_0 rn_n0_0 (ev_sc8 g0 (ev_tI_ok _))
    · exact law_go l C0 sg_n1_0 rn_n1_0 (ev_sc8 g0 (ev_tI_ok _))
    · obtain ⟨a3, m3, g3⟩ := ev_cut_ok (B := 0) (b := 0) (x := xs 3) (ks := [1, 2]) (Int32.minValue_le_toInt (xs 3)) (Int32.toInt_le (xs 3))
      have m3 : a3 ∈ [((0, -2147483648, 0) : ev_A), ((0, 1, 1) : ev_A), ((0, 2, 2147483647) : ev_A)] := m3
      simp only [List.mem_cons, List.not_mem_nil, or_false] at m3
      rcases m3 with rfl | rfl | rfl
      · exact law_go l C0 sg_n2_0 rn_n2_0 (ev_sc8 g0 g3)
      · exact law_go l C0 sg_n2_1 rn_n2_1 (ev_sc8 g0 g3)
      · exact law_go l C0 sg_n2_2 rn_n2_2 (ev_sc8 g0 g3)
    · obtain ⟨a3, m3, g3⟩ := ev_cut_ok (B := 0) (b := 0) (x := xs 3) (ks := [1, 2, 3]) (Int32.minValue_le_toInt (xs 3)) (Int32.toInt_le (xs 3))
      have m3 : a3 ∈ [((0, -2147483648, 0) : ev_A), ((0, 1, 1) : ev_A), ((0, 2, 2) : ev_A), ((0, 3, 2147483647) : ev_A)] := m3
      simp only [List.mem_cons, List.not_mem_nil, or_false] at m3
      rcases m3 with rfl | rfl | rfl | rfl
      · exact law_go l C0 sg_n3_0 rn_n3_0 (ev_sc8 g0 g3)
      · exact law_go l C0 sg_n3_1 rn_n3_1 (ev_sc8 g0 g3)
      · exact law_go l C0 sg_n3_2 rn_n3_2 (ev_sc8 g0 g3)
      · exact law_go l C0 sg_n3_3 rn_n3_3 (ev_sc8 g0 g3)
    · obtain ⟨a3, m3, g3⟩ := ev_cut_ok (B := 0) (b := 0) (x := xs 3) (ks := [1, 2, 3, 4]) (Int32.minValue_le_toInt (xs 3)) (Int32.toInt_le (xs 3))
      have m3 : a3 ∈ [((0, -2147483648, 0) : ev_A), ((0, 1, 1) : ev_A), ((0, 2, 2) : ev_A), ((0, 3, 3) : ev_A), ((0, 4, 2147483647) : ev_A)] := m3
      simp only [List.mem_cons, List.not_mem_nil, or_false] at m3
      rcases m3 with rfl | rfl | rfl | rfl | rfl
      · exact law_go l C0 sg_n4_0 rn_n4_0 (ev_sc8 g0 g3)
      · exact law_go l C0 sg_n4_1 rn_n4_1 (ev_sc8 g0 g3)
      · exact law_go l C0 sg_n4_2 rn_n4_2 (ev_sc8 g0 g3)
      · exact law_go l C0 sg_n4_3 rn_n4_3 (ev_sc8 g0 g3)
      · exact law_go l C0 sg_n4_4 rn_n4_4 (ev_sc8 g0 g3)
    · obtain ⟨a3, m3, g3⟩ := ev_cut_ok (B := 0) (b := 0) (x := xs 3) (ks := [1, 2, 3, 4, 5]) (Int32.minValue_le_toInt (xs 3)) (Int32.toInt_le (xs 3))
      have m3 : a3 ∈ [((0, -2147483648, 0) : ev_A), ((0, 1, 1) : ev_A), ((0, 2, 2) : ev_A), ((0, 3, 3) : ev_A), ((0, 4, 4) : ev_A), ((0, 5, 2147483647) : ev_A)] := m3
      simp only [List.mem_cons, List.not_mem_nil, or_false] at m3
      rcases m3 with rfl | rfl | rfl | rfl | rfl | rfl
      · exact law_go l C0 sg_n5_0 rn_n5_0 (ev_sc8 g0 g3)
      · exact law_go l C0 sg_n5_1 rn_n5_1 (ev_sc8 g0 g3)
      · exact law_go l C0 sg_n5_2 rn_n5_2 (ev_sc8 g0 g3)
      · exact law_go l C0 sg_n5_3 rn_n5_3 (ev_sc8 g0 g3)
      · exact law_go l C0 sg_n5_4 rn_n5_4 (ev_sc8 g0 g3)
      · exact law_go l C0 sg_n5_5 rn_n5_5 (ev_sc8 g0 g3)
    · obtain ⟨a3, m3, g3⟩ := ev_cut_ok (B := 0) (b := 0) (x := xs 3) (ks := [1, 2, 3, 4, 5]) (Int32.minValue_le_toInt (xs 3)) (Int32.toInt_le (xs 3))
      have m3 : a3 ∈ [((0, -2147483648, 0) : ev_A), ((0, 1, 1) : ev_A), ((0, 2, 2) : ev_A), ((0, 3, 3) : ev_A), ((0, 4, 4) : ev_A), ((0, 5, 2147483647) : ev_A)] := m3
      simp only [List.mem_cons, List.not_mem_nil, or_false] at m3
      rcases m3 with rfl | rfl | rfl | rfl | rfl | rfl
      · exact law_go l C0 sg_n6_0 rn_n6_0 (ev_sc8 g0 g3)
      · exact law_go l C0 sg_n6_1 rn_n6_1 (ev_sc8 g0 g3)
      · exact law_go l C0 sg_n6_2 rn_n6_2 (ev_sc8 g0 g3)
      · exact law_go l C0 sg_n6_3 rn_n6_3 (ev_sc8 g0 g3)
      · exact law_go l C0 sg_n6_4 rn_n6_4 (ev_sc8 g0 g3)
      · exact law_go l C0 sg_n6_5 rn_n6_5 (ev_sc8 g0 g3)
-- ===== YOUR PART ENDS =====
set_option maxHeartbeats 4000000 in
theorem lw_walk (l : Launch) (b : Addr) (xs : List Int32) : MetFree l x (headSpec (Jvm.Cond.code x code maxLocals ret :: tables_1) room_1) (lw_P b xs) (fun _ _ _ _ _ => True) lw_Q := by
  refine MetFree.of_bodyS (code := code) (maxLocals := maxLocals) (ret := ret) (by decide) ?_ ?_
  · intro args s m h hn
    obtain ⟨meth, c, h1, h2, h3, h4, h5, h6, -, -⟩ := Cond.code_spec hn (atoms_spec (ws := Jvm.Cond.code x code maxLocals ret :: tables_1) h _ List.mem_cons_self)
    exact ⟨meth, c, h1, h2, h3, h4, h5, h6⟩
  · intro p e s m args below meth c s₁ B hml0 hP _
    obtain ⟨rfl, hx, hbd, hgv⟩ := hP
    obtain ⟨scr, harrAt, hlist, hof, hsmall⟩ := hx
    obtain ⟨hcb, hkn, -, -⟩ := State.arrayAt?_spec harrAt
    have hown : s.vm.findClass R_law = some m.cls := findClass_of_methodNamed B.named
    have hts0 : ∀ c ∈ (Jvm.Cond.code x code maxLocals ret :: tables_1), c.before #[Value.ref b] s = true := atoms_spec (ws := Jvm.Cond.code x code maxLocals ret :: tables_1) B.pre
    have hts : ∀ w ∈ lw_tbl, w.before #[Value.ref b] s = true := k2_hts_sels lw_privs (fun w hw => hts0 w (List.mem_cons_of_mem _ hw)) lw_privs_ok
    have hml : c.maxLocals = 4 := B.maxLocals_eq (hts0 _ List.mem_cons_self)
    have X₀ : Stand p l e room_1 s m #[Value.ref b] below meth c s₁ [] 0 0 := Stand.of_body B
    have hh0 : s₁.heap = s.heap := by rw [B.state]; rfl
    have hsz : scr.slots.size = xs.length := by rw [← Array.length_toList, hlist, List.length_map]
    have hval : ∀ j : Nat, j < xs.length → scr.slots[j]? = some (.int (xs.getD j 0)) := fun j hj => by
      rw [← Array.getElem?_toList, hlist]
      simp [hj]
    have hbl : b < s.heap.size := (Array.getElem?_eq_some_iff.mp hcb).1
    have hX : va_X b xs.length (fun j => xs.getD j 0) s s.heap := ⟨scr, hcb, hof, hkn, hsz, hval⟩
    have K : W p l e room_1 s m #[Value.ref b] below meth c s₁.heap [] 0 0 (lw_Z below #[Value.ref b] s) (entryFrame m ([Value.ref b] : List Value).toArray 4) := by
      rw [hh0]
      exact whole_start l hbd ⟨B.exec, B.bytes, B.returns, hml, hown, hts, hX, hbl, B.notSynchronized, hgv⟩
    obtain ⟨t, a1, o, b1, b2, b3⟩ := K s₁ rfl X₀
    exact ⟨t, o, a1, b1, b2, b3⟩
theorem lw_pre_spec {args : Array Value} {s : State} (h : (Jvm.Cond.and given_1 narrow_1).before args s = true) (hr : rest_1_c.before args s = true) : ∃ (b : Addr) (xs : List Int32), lw_P b xs args s := by
  have hs := flat_of_before _ h
  have hq := flat_of_before _ hr
  have hc : (Cond.count 1).before args s = true := hs _ (by decide +kernel)
  have harr : (Cond.arrayOf (.arg 0) .int).before args s = true := hs _ (by decide +kernel)
  have hle : (Cond.le (.length (.arg 0)) (.int 8)).before args s = true := hs _ (by decide +kernel)
  have hlen : (Cond.isInt (.length (.arg 0))).before args s = true := hq _ (by decide +kernel)
  have hall : (Cond.all (.arg 0) (.isInt (.elem (.arg 0) (.index 0)))).before args s = true := hq _ (by decide +kernel)
  obtain ⟨b, xs, hb, hx⟩ := State.ints_of_pre rfl harr hlen hall
  have hsm : xs.length < 2 ^ 31 := hx.choose_spec.2.2.2
  have hev : (Term.length (.arg 0)).eval args s none [] s = some (.int xs.length.toInt32) := hx.length_eval hb
  have hv := Cond.le_ints hev (show (Term.int 8).eval args s none [] s = some (.int 8) from rfl)
  have hd : xs.length.toInt32 ≤ 8 := by
    simpa [Cond.before, Cond.holds, hv] using hle
  have hN : xs.length ≤ 8 := (Int32.ofNat_le_ofNat hsm (by decide)).mp (show Int32.ofNat xs.length ≤ Int32.ofNat 8 from hd)
  exact ⟨b, xs, Cond.one_arg hc (show args[0]? = some (.ref b) from hb), hx, hN, h⟩
theorem lw_comes (l : Launch) : Comes l x (Jvm.Cond.code x code maxLocals ret :: tables_1) room_1 (fun tb e args s => Calls_1 tb e args s ∧ rest_1 tb e args s ∧ Pre_1 tb e args s)
    (fun _ _ args s o t => lw_Q args s o t) := by
  intro p e ha hc hk s m args below hf hfit hheap happ hpre
  obtain ⟨b, xs, hP⟩ := lw_pre_spec hpre.2.2 hpre.2.1
  obtain ⟨k, o, h1, h2, h3, hQ⟩ := lw_walk l b xs p e ha hc hk s m args below hf ((Spec.applies_iff_loose hf).mp happ).1 hP trivial
  exact ⟨k, o, h1, h2, h3, hQ⟩
theorem lw_frame {s t : State} {o : Outcome} {args : Array Value} (h : Framed s o t [] 600000 7302249) :
    Framed s o t (fieldLocs frame_1_writes args s ++ arrayLocs frame_1_arrays args s ++ staticLocs frame_1_statics s) 600000 7302249 := h
theorem lw_limb (L : Cond) (hL : ∀ (args : Array Value) (s t : State), L.after args s (.returned (some (.int 1))) t = true) :
    ArmFor flags0 classFile x code maxLocals ret World_1 tables_1 room_1 Calls_1 rest_1 Pre_1
      (fun tb e a s o t => postC L tb e a s o t ∧ Framed s o t (fieldLocs frame_1_writes a s ++ arrayLocs frame_1_arrays a s ++ staticLocs frame_1_statics s) 600000 7302249) := by
  intro l _ _ _ p e ha hc hk s m args below hf hfit hheap happ hpre
  obtain ⟨k, o, h1, h2, h3, rfl, hF⟩ := lw_comes l p e ha hc hk s m args below hf hfit hheap happ hpre
  exact ⟨k, _, h1, h2, h3, hL args s _, lw_frame hF⟩
theorem i_vc : Claimed_1_1 ∧ Claimed_1_2 := ⟨lw_limb limb_1_1 (fun args s t => by simp [limb_1_1, Cond.after, Cond.holds, Cond.value]), lw_limb limb_1_2 (fun args s t => Cond.after_iff.mpr (by
  first | (rw [show limb_1_2 = Cond.eq .result (.int 1) from rfl, Cond.eq_ints (x := 1) (y := 1) rfl rfl]; simp; done) | (simp [limb_1_2, Cond.value, Term.eval]; done)))⟩
end
