/-! An abstract machine over intervals: numbers as intervals, references as places in a list of cells. Values. -/
abbrev ev_A : Type := Nat × Int × Int
/-- what a value may be: 0 an int, 1 a long (between two bounds), 2 the cell at a place, 3 null, else the script -/
def ev_g (B b : Nat) (v : Value) (a : ev_A) : Prop := match a.1 with
  | 0 => ∃ x : Int32, v = .int x ∧ a.2.1 ≤ x.toInt ∧ x.toInt ≤ a.2.2
  | 1 => ∃ x : Int64, v = .long x ∧ a.2.1 ≤ x.toInt ∧ x.toInt ≤ a.2.2
  | 2 => v = .ref (B + a.2.1.toNat)
  | 3 => v = .null
  | _ => v = .ref b
def ev_g1 (B b : Nat) : List Value → List ev_A → Prop
  | [], [] => True
  | v :: vs, a :: as => ev_g B b v a ∧ ev_g1 B b vs as
  | _, _ => False
def ev_g2 (B b : Nat) : List (Nat × Value) → List (Nat × ev_A) → Prop
  | [], [] => True
  | v :: vs, a :: as => (v.1 = a.1 ∧ ev_g B b v.2 a.2) ∧ ev_g2 B b vs as
  | _, _ => False
def ev_look : List (Nat × ev_A) → Nat → Option ev_A
  | [], _ => none
  | q :: r, i => if q.1 == i then some q.2 else ev_look r i
theorem ev_look_ok {B b : Nat} : ∀ {clv : List (Nat × Value)} {lv : List (Nat × ev_A)} {i : Nat} {a : ev_A}, ev_g2 B b clv lv → ev_look lv i = some a → ∃ (k : Nat) (v : Value), clv[k]? = some (i, v) ∧ ev_g B b v a
  | [], [], _, _, _, h => by simp [ev_look] at h
  | [], _ :: _, _, _, h, _ => h.elim
  | _ :: _, [], _, _, h, _ => h.elim
  | (j, v) :: vs, (j', a') :: as, i, a, h, hl => by
    obtain ⟨⟨h1, h2⟩, h3⟩ := h
    dsimp only at h1 h2
    simp only [ev_look] at hl
    split at hl
    · rename_i hj
      have hj' : j' = i := by simpa using hj
      cases hl
      exact ⟨0, v, by simp [h1, hj'], h2⟩
    · obtain ⟨k, w, e1, e2⟩ := ev_look_ok h3 hl
      exact ⟨k + 1, w, by simpa using e1, e2⟩
theorem ev_cat {B b : Nat} {v : Value} {a : ev_A} (h : ev_g B b v a) : (v.category == 2) = (a.1 == 1) := by
  obtain ⟨t, lo, hi⟩ := a
  unfold ev_g at h
  split at h
  · obtain ⟨x, rfl, -⟩ := h; simp_all [Value.category]
  · obtain ⟨x, rfl, -⟩ := h; simp_all [Value.category]
  · subst h; simp_all [Value.category]
  · subst h; simp_all [Value.category]
  · rename_i h0 h1 h2 h3
    subst h
    simp_all [Value.category]
theorem ev_cat1 {B b : Nat} {v : Value} {a : ev_A} (h : ev_g B b v a) (ha : (a.1 == 1) = false) : v.category = 1 := by
  have := ev_cat h
  rw [ha] at this
  rcases lv_cat v with q | q
  · exact q
  · rw [q] at this; simp at this
theorem ev_cat2 {B b : Nat} {v : Value} {a : ev_A} (h : ev_g B b v a) (ha : (a.1 == 1) = true) : v.category = 2 := by
  have := ev_cat h
  rw [ha] at this
  simpa using this
theorem ev_filter {B b : Nat} {P : Nat × Value → Bool} {P' : Nat × ev_A → Bool} (hP : ∀ c a, c.1 = a.1 → ev_g B b c.2 a.2 → P c = P' a) :
    ∀ {clv : List (Nat × Value)} {lv : List (Nat × ev_A)}, ev_g2 B b clv lv → ev_g2 B b (clv.filter P) (lv.filter P')
  | [], [], _ => trivial
  | [], _ :: _, h => h.elim
  | _ :: _, [], h => h.elim
  | c :: cs, a :: as, h => by
    have ih := ev_filter hP h.2
    have e := hP c a h.1.1 h.1.2
    rw [List.filter_cons, List.filter_cons, e]
    split
    · exact ⟨h.1, ih⟩
    · exact ih
def ev_put1 (lv : List (Nat × ev_A)) (i : Nat) (a : ev_A) : List (Nat × ev_A) := (i, a) :: lv.filter (fun q => !(q.1 == i) && !(q.1 + 1 == i && q.2.1 == 1))
def ev_put2 (lv : List (Nat × ev_A)) (i : Nat) (a : ev_A) : List (Nat × ev_A) := (i, a) :: lv.filter (fun q => !(q.1 == i) && (!(q.1 == i + 1) && !(q.1 + 1 == i && q.2.1 == 1)))
theorem ev_put1_ok {B b : Nat} {clv : List (Nat × Value)} {lv : List (Nat × ev_A)} {i : Nat} {v : Value} {a : ev_A} (h : ev_g2 B b clv lv) (hv : ev_g B b v a) : ev_g2 B b ((i, v) :: clv.filter (fun q => !(q.1 == i) && !(q.1 + 1 == i && q.2.category == 2))) (ev_put1 lv i a) :=
  ⟨⟨rfl, hv⟩, ev_filter (fun c a e1 e2 => by rw [e1, ev_cat e2]) h⟩
theorem ev_put2_ok {B b : Nat} {clv : List (Nat × Value)} {lv : List (Nat × ev_A)} {i : Nat} {v : Value} {a : ev_A} (h : ev_g2 B b clv lv) (hv : ev_g B b v a) : ev_g2 B b ((i, v) :: clv.filter (fun q => !(q.1 == i) && (!(q.1 == i + 1) && !(q.1 + 1 == i && q.2.category == 2)))) (ev_put2 lv i a) :=
  ⟨⟨rfl, hv⟩, ev_filter (fun c a e1 e2 => by rw [e1, ev_cat e2]) h⟩
theorem ev_cons {B b : Nat} {cst : List Value} {a : ev_A} {st : List ev_A} (h : ev_g1 B b cst (a :: st)) : ∃ v vs, cst = v :: vs ∧ ev_g B b v a ∧ ev_g1 B b vs st := by
  cases cst with
  | nil => exact h.elim
  | cons v vs => exact ⟨v, vs, rfl, h.1, h.2⟩
theorem ev_nil {B b : Nat} {cst : List Value} (h : ev_g1 B b cst []) : cst = [] := by
  cases cst with
  | nil => rfl
  | cons v vs => exact h.elim
theorem ev_int {B b : Nat} {v : Value} {l h : Int} (q : ev_g B b v (0, l, h)) : ∃ x : Int32, v = .int x ∧ l ≤ x.toInt ∧ x.toInt ≤ h := q
theorem ev_long {B b : Nat} {v : Value} {l h : Int} (q : ev_g B b v (1, l, h)) : ∃ x : Int64, v = .long x ∧ l ≤ x.toInt ∧ x.toInt ≤ h := q
/-! arithmetic -/
def ev_tI : ev_A := (0, -2147483648, 2147483647)
def ev_tL : ev_A := (1, -9223372036854775808, 9223372036854775807)
def ev_I (n : Int) : ev_A := (0, n, n)
def ev_J (n : Int) : ev_A := (1, n, n)
theorem ev_tI_ok {B b : Nat} (x : Int32) : ev_g B b (.int x) ev_tI := ⟨x, rfl, Int32.minValue_le_toInt x, Int32.toInt_le x⟩
theorem ev_tL_ok {B b : Nat} (x : Int64) : ev_g B b (.long x) ev_tL := ⟨x, rfl, Int64.minValue_le_toInt x, Int64.toInt_le x⟩
theorem ev_I_ok {B b : Nat} (x : Int32) : ev_g B b (.int x) (ev_I x.toInt) := ⟨x, rfl, Int.le_refl _, Int.le_refl _⟩
theorem ev_J_ok {B b : Nat} (x : Int64) : ev_g B b (.long x) (ev_J x.toInt) := ⟨x, rfl, Int.le_refl _, Int.le_refl _⟩
def ev_ib (f : Int32 → Int32 → Int32) (l1 h1 l2 h2 : Int) : ev_A := if l1 = h1 ∧ l2 = h2 then ev_I (f (Int32.ofInt l1) (Int32.ofInt l2)).toInt else ev_tI
theorem ev_one32 {x : Int32} {l h : Int} (h1 : l ≤ x.toInt) (h2 : x.toInt ≤ h) (e : l = h) : x = Int32.ofInt l := by
  have : x.toInt = l := by omega
  rw [← this, Int32.ofInt_toInt]
theorem ev_one64 {x : Int64} {l h : Int} (h1 : l ≤ x.toInt) (h2 : x.toInt ≤ h) (e : l = h) : x = Int64.ofInt l := by
  have : x.toInt = l := by omega
  rw [← this, Int64.ofInt_toInt]
theorem ev_ib_ok {B b : Nat} (f : Int32 → Int32 → Int32) {x y : Int32} {l1 h1 l2 h2 : Int} (a1 : l1 ≤ x.toInt) (a2 : x.toInt ≤ h1) (b1 : l2 ≤ y.toInt) (b2 : y.toInt ≤ h2) : ev_g B b (.int (f x y)) (ev_ib f l1 h1 l2 h2) := by
  unfold ev_ib
  split
  · rename_i h
    rw [ev_one32 a1 a2 h.1, ev_one32 b1 b2 h.2]
    exact ev_I_ok _
  · exact ev_tI_ok _
def ev_lb (f : Int64 → Int64 → Int64) (l1 h1 l2 h2 : Int) : ev_A := if l1 = h1 ∧ l2 = h2 then ev_J (f (Int64.ofInt l1) (Int64.ofInt l2)).toInt else ev_tL
theorem ev_lb_ok {B b : Nat} (f : Int64 → Int64 → Int64) {x y : Int64} {l1 h1 l2 h2 : Int} (a1 : l1 ≤ x.toInt) (a2 : x.toInt ≤ h1) (b1 : l2 ≤ y.toInt) (b2 : y.toInt ≤ h2) : ev_g B b (.long (f x y)) (ev_lb f l1 h1 l2 h2) := by
  unfold ev_lb
  split
  · rename_i h
    rw [ev_one64 a1 a2 h.1, ev_one64 b1 b2 h.2]
    exact ev_J_ok _
  · exact ev_tL_ok _
def ev_ls (f : Int64 → Int32 → Int64) (l1 h1 l2 h2 : Int) : ev_A := if l1 = h1 ∧ l2 = h2 then ev_J (f (Int64.ofInt l1) (Int32.ofInt l2)).toInt else ev_tL
theorem ev_ls_ok {B b : Nat} (f : Int64 → Int32 → Int64) {x : Int64} {y : Int32} {l1 h1 l2 h2 : Int} (a1 : l1 ≤ x.toInt) (a2 : x.toInt ≤ h1) (b1 : l2 ≤ y.toInt) (b2 : y.toInt ≤ h2) : ev_g B b (.long (f x y)) (ev_ls f l1 h1 l2 h2) := by
  unfold ev_ls
  split
  · rename_i h
    rw [ev_one64 a1 a2 h.1, ev_one32 b1 b2 h.2]
    exact ev_J_ok _
  · exact ev_tL_ok _
def ev_add (l1 h1 l2 h2 : Int) : ev_A := if -2147483648 ≤ l1 + l2 ∧ h1 + h2 ≤ 2147483647 then (0, l1 + l2, h1 + h2) else ev_tI
theorem ev_add_ok {B b : Nat} {x y : Int32} {l1 h1 l2 h2 : Int} (a1 : l1 ≤ x.toInt) (a2 : x.toInt ≤ h1) (b1 : l2 ≤ y.toInt) (b2 : y.toInt ≤ h2) : ev_g B b (.int (x + y)) (ev_add l1 h1 l2 h2) := by
  unfold ev_add
  split
  · rename_i h
    have e : (x + y).toInt = x.toInt + y.toInt := by
      rw [Int32.toInt_add, Int.bmod_def]
      split <;> omega
    exact ⟨_, rfl, by dsimp only; rw [e]; omega, by dsimp only; rw [e]; omega⟩
  · exact ev_tI_ok _
def ev_sub (l1 h1 l2 h2 : Int) : ev_A := if -2147483648 ≤ l1 - h2 ∧ h1 - l2 ≤ 2147483647 then (0, l1 - h2, h1 - l2) else ev_tI
theorem ev_sub_ok {B b : Nat} {x y : Int32} {l1 h1 l2 h2 : Int} (a1 : l1 ≤ x.toInt) (a2 : x.toInt ≤ h1) (b1 : l2 ≤ y.toInt) (b2 : y.toInt ≤ h2) : ev_g B b (.int (x - y)) (ev_sub l1 h1 l2 h2) := by
  unfold ev_sub
  split
  · rename_i h
    have e : (x - y).toInt = x.toInt - y.toInt := by
      rw [Int32.toInt_sub, Int.bmod_def]
      split <;> omega
    exact ⟨_, rfl, by dsimp only; rw [e]; omega, by dsimp only; rw [e]; omega⟩
  · exact ev_tI_ok _
/-- which sign a comparison of two longs has -/
def ev_cmp (l1 h1 l2 h2 : Int) : ev_A := if h1 < l2 then ev_I (-1) else if h2 < l1 then ev_I 1 else if l1 = h1 ∧ l2 = h2 ∧ l1 = l2 then ev_I 0 else (0, -1, 1)
theorem ev_cmp_ok {B b : Nat} {x y : Int64} {l1 h1 l2 h2 : Int} (a1 : l1 ≤ x.toInt) (a2 : x.toInt ≤ h1) (b1 : l2 ≤ y.toInt) (b2 : y.toInt ≤ h2) : ev_g B b (.int (lg_cmp x y)) (ev_cmp l1 h1 l2 h2) := by
  have gt : (x > y) ↔ y.toInt < x.toInt := Int64.lt_iff_toInt_lt
  have eq : (x = y) ↔ x.toInt = y.toInt := Int64.toInt_inj.symm
  unfold lg_cmp
  by_cases q1 : x > y
  · rw [if_pos q1]
    have q := gt.mp q1
    unfold ev_cmp
    rw [if_neg (by omega)]
    split
    · exact ⟨1, rfl, by decide, by decide⟩
    · rw [if_neg (by omega)]
      exact ⟨1, rfl, by decide, by decide⟩
  · rw [if_neg q1]
    have q := mt gt.mpr q1
    by_cases q2 : x = y
    · rw [if_pos q2]
      have q' := eq.mp q2
      unfold ev_cmp
      rw [if_neg (by omega), if_neg (by omega)]
      split
      · exact ⟨0, rfl, by decide, by decide⟩
      · exact ⟨0, rfl, by decide, by decide⟩
    · rw [if_neg q2]
      have q' := mt eq.mpr q2
      unfold ev_cmp
      split
      · exact ⟨-1, rfl, by decide, by decide⟩
      · rw [if_neg (by omega), if_neg (by omega)]
        exact ⟨-1, rfl, by decide, by decide⟩
def ev_i2l (l h : Int) : ev_A := (1, l, h)
theorem ev_i2l_ok {B b : Nat} {x : Int32} {l h : Int} (a1 : l ≤ x.toInt) (a2 : x.toInt ≤ h) : ev_g B b (.long x.toInt64) (ev_i2l l h) := ⟨_, rfl, by rw [Int32.toInt_toInt64]; exact a1, by rw [Int32.toInt_toInt64]; exact a2⟩
def ev_l2i (l h : Int) : ev_A := if l = h then ev_I (Int64.ofInt l).toInt32.toInt else ev_tI
theorem ev_l2i_ok {B b : Nat} {x : Int64} {l h : Int} (a1 : l ≤ x.toInt) (a2 : x.toInt ≤ h) : ev_g B b (.int x.toInt32) (ev_l2i l h) := by
  unfold ev_l2i
  split
  · rename_i e
    rw [ev_one64 a1 a2 e]
    exact ev_I_ok _
  · exact ev_tI_ok _
