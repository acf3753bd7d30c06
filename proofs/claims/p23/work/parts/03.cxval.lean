/-! values: an int as its number, a long, a reference (none: null) by its address -/
abbrev cx_V : Type := Int ⊕ (Int64 ⊕ Option Nat)
def cx_g (v : Value) (a : cx_V) : Prop := match a with
  | .inl n => ∃ x : Int32, v = .int x ∧ x.toInt = n
  | .inr (.inl y) => v = .long y
  | .inr (.inr none) => v = .null
  | .inr (.inr (some j)) => v = .ref j
def cx_c2 (a : cx_V) : Bool := match a with
  | .inr (.inl _) => true
  | _ => false
theorem cx_cat2 {v : Value} {a : cx_V} (h : cx_g v a) : v.category = if cx_c2 a then 2 else 1 := by
  unfold cx_g at h
  split at h
  · obtain ⟨x, rfl, -⟩ := h; rfl
  · subst h; rfl
  · subst h; rfl
  · subst h; rfl
def cx_g1 : List Value → List cx_V → Prop
  | [], [] => True
  | v :: vs, a :: as => cx_g v a ∧ cx_g1 vs as
  | _, _ => False
theorem cx_cons {cst : List Value} {a : cx_V} {st : List cx_V} (h : cx_g1 cst (a :: st)) : ∃ v vs, cst = v :: vs ∧ cx_g v a ∧ cx_g1 vs st := by
  cases cst with
  | nil => exact h.elim
  | cons v vs => exact ⟨v, vs, rfl, h.1, h.2⟩
theorem cx_nil {cst : List Value} (h : cx_g1 cst []) : cst = [] := by
  cases cst with
  | nil => rfl
  | cons v vs => exact h.elim
theorem cx_int {v : Value} {n : Int} (q : cx_g v (.inl n)) : ∃ x : Int32, v = .int x ∧ x.toInt = n := q
theorem cx_long {v : Value} {y : Int64} (q : cx_g v (.inr (.inl y))) : v = .long y := q
theorem cx_ref {v : Value} {j : Nat} (q : cx_g v (.inr (.inr (some j)))) : v = .ref j := q
theorem cx_null {v : Value} (q : cx_g v (.inr (.inr none))) : v = .null := q
theorem cx_any {v : Value} {r : Option Nat} (q : cx_g v (.inr (.inr r))) : v = .null ∨ ∃ j, v = .ref j := by
  cases r with
  | none => exact Or.inl q
  | some j => exact Or.inr ⟨j, q⟩
theorem cx_gI (x : Int32) : cx_g (.int x) (.inl x.toInt) := ⟨x, rfl, rfl⟩
/-- how many words -/
def cx_sz : List cx_V → Nat
  | [] => 0
  | a :: r => (bif cx_c2 a then 2 else 1) + cx_sz r
theorem cx_szc : ∀ {cst : List Value} {st : List cx_V}, cx_g1 cst st → (cst.map fun v => v.category).sum = cx_sz st
  | [], [], _ => rfl
  | [], _ :: _, h => h.elim
  | _ :: _, [], h => h.elim
  | v :: vs, a :: as, h => by
    have ih := cx_szc h.2
    simp only [cx_sz, List.map_cons, List.sum_cons]
    rw [ih, cx_cat2 h.1]
    cases cx_c2 a <;> rfl
theorem cx_g1_app : ∀ {a c : List Value} {x y : List cx_V}, cx_g1 a x → cx_g1 c y → cx_g1 (a ++ c) (x ++ y)
  | [], _, [], _, _, h => h
  | [], _, _ :: _, _, h, _ => h.elim
  | _ :: _, _, [], _, h, _ => h.elim
  | _ :: _, _, _ :: _, _, h, h' => ⟨h.1, cx_g1_app h.2 h'⟩
theorem cx_g1_rev : ∀ {a : List Value} {x : List cx_V}, cx_g1 a x → cx_g1 a.reverse x.reverse
  | [], [], _ => trivial
  | [], _ :: _, h => h.elim
  | _ :: _, [], h => h.elim
  | v :: vs, a :: as, h => by
    rw [List.reverse_cons, List.reverse_cons]
    exact cx_g1_app (cx_g1_rev h.2) ⟨h.1, trivial⟩
theorem cx_g1_take : ∀ (n : Nat) {a : List Value} {x : List cx_V}, cx_g1 a x → cx_g1 (a.take n) (x.take n) ∧ cx_g1 (a.drop n) (x.drop n)
  | 0, _, _, h => ⟨by simp only [List.take_zero]; trivial, by simpa using h⟩
  | _ + 1, [], [], _ => ⟨trivial, trivial⟩
  | _ + 1, [], _ :: _, h => h.elim
  | _ + 1, _ :: _, [], h => h.elim
  | n + 1, _ :: _, _ :: _, h => ⟨⟨h.1, (cx_g1_take n h.2).1⟩, (cx_g1_take n h.2).2⟩
theorem cx_g1_len : ∀ {a : List Value} {x : List cx_V}, cx_g1 a x → a.length = x.length
  | [], [], _ => rfl
  | [], _ :: _, h => h.elim
  | _ :: _, [], h => h.elim
  | _ :: _, _ :: _, h => by rw [List.length_cons, List.length_cons, cx_g1_len h.2]
/-! locals, by place; none: not known -/
abbrev cx_L : Type := List (Option cx_V)
def cx_lv (ls : Array Slot) (nL : Nat) (lv : cx_L) : Prop := ls.size = nL ∧ lv.length ≤ nL ∧ lv_wf ls ∧ ∀ (k : Nat) (a : cx_V), lv[k]? = some (some a) → ∃ v : Value, ls[k]? = some (.val v) ∧ cx_g v a
theorem cx_lv_ex {ls : Array Slot} {nL : Nat} {lv : cx_L} (h : cx_lv ls nL lv) : ∃ clv : List (Nat × Value), lv_has ls nL clv ∧ ∀ (k : Nat) (a : cx_V), lv[k]? = some (some a) → ∃ v : Value, (k, v) ∈ clv ∧ cx_g v a := by
  refine ⟨(List.range lv.length).filterMap (fun (k : Nat) => match (ls[k]? : Option Slot) with
    | some (Slot.val v) => some (k, v)
    | _ => none), ⟨h.1, h.2.2.1, fun q hq => ?_⟩, fun k a hk => ?_⟩
  · obtain ⟨k, -, hk⟩ := List.mem_filterMap.mp hq
    split at hk
    · rename_i v hv
      cases hk
      exact hv
    · cases hk
  · obtain ⟨v, h1, h2⟩ := h.2.2.2 k a hk
    refine ⟨v, List.mem_filterMap.mpr ⟨k, List.mem_range.mpr (List.getElem?_eq_some_iff.mp hk).1, ?_⟩, h2⟩
    rw [h1]
def cx_dl (o : Option cx_V) : Option cx_V := match o with
  | some (.inr (.inl _)) => none
  | some (.inl n) => some (.inl n)
  | some (.inr (.inr r)) => some (.inr (.inr r))
  | none => none
theorem cx_dl_some {o : Option cx_V} {a : cx_V} (h : cx_dl o = some a) : o = some a ∧ cx_c2 a = false := by
  unfold cx_dl at h
  split at h
  · cases h
  · cases h; exact ⟨rfl, rfl⟩
  · cases h; exact ⟨rfl, rfl⟩
  · cases h
def cx_put1 : cx_L → Nat → cx_V → cx_L
  | [], _, _ => []
  | _ :: r, 0, a => some a :: r
  | o :: r, 1, a => cx_dl o :: cx_put1 r 0 a
  | o :: r, i + 2, a => o :: cx_put1 r (i + 1) a
def cx_put2 : cx_L → Nat → cx_V → cx_L
  | _ :: _ :: r, 0, a => some a :: none :: r
  | o :: r, 1, a => cx_dl o :: cx_put2 r 0 a
  | o :: r, i + 2, a => o :: cx_put2 r (i + 1) a
  | _, _, _ => []
theorem cx_put1_len : ∀ (lv : cx_L) (i : Nat) (a : cx_V), (cx_put1 lv i a).length = lv.length
  | [], _, _ => rfl
  | _ :: r, 0, a => rfl
  | o :: r, 1, a => by rw [cx_put1, List.length_cons, List.length_cons, cx_put1_len r 0 a]
  | o :: r, i + 2, a => by rw [cx_put1, List.length_cons, List.length_cons, cx_put1_len r (i + 1) a]
theorem cx_put2_len : ∀ (lv : cx_L) (i : Nat) (a : cx_V), (cx_put2 lv i a).length ≤ lv.length
  | _ :: _ :: r, 0, a => Nat.le_refl _
  | o :: r, 1, a => by
    have := cx_put2_len r 0 a
    rw [cx_put2, List.length_cons, List.length_cons]; omega
  | o :: r, i + 2, a => by
    have := cx_put2_len r (i + 1) a
    rw [cx_put2, List.length_cons, List.length_cons]; omega
  | [], _, _ => by simp [cx_put2]
  | [_], 0, _ => by simp [cx_put2]
theorem cx_put1_at : ∀ (lv : cx_L) (i : Nat) (a : cx_V) (k : Nat) (b : cx_V), (cx_put1 lv i a)[k]? = some (some b) → (k = i ∧ b = a) ∨ (k ≠ i ∧ lv[k]? = some (some b) ∧ (k + 1 = i → cx_c2 b = false))
  | [], _, _, _, _, h => by simp [cx_put1] at h
  | _ :: r, 0, a, 0, b, h => by
    simp [cx_put1] at h
    exact Or.inl ⟨rfl, h.symm⟩
  | _ :: r, 0, a, k + 1, b, h => by
    simp [cx_put1] at h
    exact Or.inr ⟨by omega, by simpa using h, by omega⟩
  | o :: r, 1, a, 0, b, h => by
    simp [cx_put1] at h
    obtain ⟨h1, h2⟩ := cx_dl_some h
    exact Or.inr ⟨by omega, by simp [h1], fun _ => h2⟩
  | o :: r, 1, a, k + 1, b, h => by
    simp only [cx_put1, List.getElem?_cons_succ] at h
    rcases cx_put1_at r 0 a k b h with ⟨h1, h2⟩ | ⟨h1, h2, h3⟩
    · exact Or.inl ⟨by omega, h2⟩
    · exact Or.inr ⟨by omega, by simpa using h2, fun q => by omega⟩
  | o :: r, i + 2, a, 0, b, h => by
    simp [cx_put1] at h
    exact Or.inr ⟨by omega, by simp [h], fun q => by omega⟩
  | o :: r, i + 2, a, k + 1, b, h => by
    simp only [cx_put1, List.getElem?_cons_succ] at h
    rcases cx_put1_at r (i + 1) a k b h with ⟨h1, h2⟩ | ⟨h1, h2, h3⟩
    · exact Or.inl ⟨by omega, h2⟩
    · exact Or.inr ⟨by omega, by simpa using h2, fun q => h3 (by omega)⟩
theorem cx_put2_at : ∀ (lv : cx_L) (i : Nat) (a : cx_V) (k : Nat) (b : cx_V), (cx_put2 lv i a)[k]? = some (some b) → (k = i ∧ b = a) ∨ (k ≠ i ∧ k ≠ i + 1 ∧ lv[k]? = some (some b) ∧ (k + 1 = i → cx_c2 b = false))
  | [], _, _, _, _, h => by simp [cx_put2] at h
  | [_], 0, _, _, _, h => by simp [cx_put2] at h
  | _ :: _ :: r, 0, a, 0, b, h => by
    simp [cx_put2] at h
    exact Or.inl ⟨rfl, h.symm⟩
  | _ :: _ :: r, 0, a, 1, b, h => by simp [cx_put2] at h
  | _ :: _ :: r, 0, a, k + 2, b, h => by
    simp [cx_put2] at h
    exact Or.inr ⟨by omega, by omega, by simpa using h, by omega⟩
  | o :: r, 1, a, 0, b, h => by
    simp [cx_put2] at h
    obtain ⟨h1, h2⟩ := cx_dl_some h
    exact Or.inr ⟨by omega, by omega, by simp [h1], fun _ => h2⟩
  | o :: r, 1, a, k + 1, b, h => by
    simp only [cx_put2, List.getElem?_cons_succ] at h
    rcases cx_put2_at r 0 a k b h with ⟨h1, h2⟩ | ⟨h1, h2, h3, h4⟩
    · exact Or.inl ⟨by omega, h2⟩
    · exact Or.inr ⟨by omega, by omega, by simpa using h3, fun q => by omega⟩
  | o :: r, i + 2, a, 0, b, h => by
    simp [cx_put2] at h
    exact Or.inr ⟨by omega, by omega, by simp [h], fun q => by omega⟩
  | o :: r, i + 2, a, k + 1, b, h => by
    simp only [cx_put2, List.getElem?_cons_succ] at h
    rcases cx_put2_at r (i + 1) a k b h with ⟨h1, h2⟩ | ⟨h1, h2, h3, h4⟩
    · exact Or.inl ⟨by omega, h2⟩
    · exact Or.inr ⟨by omega, by omega, by simpa using h3, fun q => h4 (by omega)⟩
/-- locals behind a store of one word, of two -/
theorem cx_lv_put1 {ls' : Array Slot} {nL i : Nat} {lv : cx_L} {clv : List (Nat × Value)} {v : Value} {a : cx_V} (hl : lv.length ≤ nL) (h : lv_has ls' nL ((i, v) :: clv.filter (fun q => !(q.1 == i) && !(q.1 + 1 == i && q.2.category == 2)))) (hc : ∀ (k : Nat) (a : cx_V), lv[k]? = some (some a) → ∃ v : Value, (k, v) ∈ clv ∧ cx_g v a) (hv : cx_g v a) : cx_lv ls' nL (cx_put1 lv i a) := by
  refine ⟨h.1, by rw [cx_put1_len]; exact hl, h.2.1, fun k b hk => ?_⟩
  rcases cx_put1_at lv i a k b hk with ⟨rfl, rfl⟩ | ⟨h1, h2, h3⟩
  · exact ⟨v, h.2.2 (k, v) List.mem_cons_self, hv⟩
  · obtain ⟨w, m1, m2⟩ := hc k b h2
    refine ⟨w, h.2.2 (k, w) (List.mem_cons_of_mem _ (List.mem_filter.mpr ⟨m1, ?_⟩)), m2⟩
    have e1 : (k == i) = false := by simpa using h1
    have e2 : (k + 1 == i && w.category == 2) = false := by
      by_cases q : k + 1 = i
      · have := cx_cat2 m2
        rw [h3 q] at this
        rw [this]; simp
      · have : (k + 1 == i) = false := by simpa using q
        rw [this]; rfl
    dsimp only
    rw [e1, e2]; rfl
theorem cx_lv_put2 {ls' : Array Slot} {nL i : Nat} {lv : cx_L} {clv : List (Nat × Value)} {v : Value} {a : cx_V} (hl : lv.length ≤ nL) (h : lv_has ls' nL ((i, v) :: clv.filter (fun q => !(q.1 == i) && (!(q.1 == i + 1) && !(q.1 + 1 == i && q.2.category == 2))))) (hc : ∀ (k : Nat) (a : cx_V), lv[k]? = some (some a) → ∃ v : Value, (k, v) ∈ clv ∧ cx_g v a) (hv : cx_g v a) : cx_lv ls' nL (cx_put2 lv i a) := by
  refine ⟨h.1, Nat.le_trans (cx_put2_len lv i a) hl, h.2.1, fun k b hk => ?_⟩
  rcases cx_put2_at lv i a k b hk with ⟨rfl, rfl⟩ | ⟨h1, h1', h2, h3⟩
  · exact ⟨v, h.2.2 (k, v) List.mem_cons_self, hv⟩
  · obtain ⟨w, m1, m2⟩ := hc k b h2
    refine ⟨w, h.2.2 (k, w) (List.mem_cons_of_mem _ (List.mem_filter.mpr ⟨m1, ?_⟩)), m2⟩
    have e1 : (k == i) = false := by simpa using h1
    have e3 : (k == i + 1) = false := by simpa using h1'
    have e2 : (k + 1 == i && w.category == 2) = false := by
      by_cases q : k + 1 = i
      · have := cx_cat2 m2
        rw [h3 q] at this
        rw [this]; simp
      · have : (k + 1 == i) = false := by simpa using q
        rw [this]; rfl
    dsimp only
    rw [e1, e2, e3]; rfl
/-- the locals that a method begins with -/
def cx_pad : Nat → cx_L
  | 0 => []
  | n + 1 => none :: cx_pad n
def cx_ent : Nat → List cx_V → cx_L
  | n, [] => cx_pad n
  | 0, _ :: _ => []
  | n + 1, .inr (.inl y) :: r => match n with
    | 0 => []
    | n' + 1 => some (.inr (.inl y)) :: none :: cx_ent n' r
  | n + 1, a :: r => some a :: cx_ent n r
theorem cx_pad_len : ∀ n : Nat, (cx_pad n).length = n
  | 0 => rfl
  | n + 1 => by rw [cx_pad, List.length_cons, cx_pad_len n]
theorem cx_pad_at : ∀ (n k : Nat) (a : cx_V), (cx_pad n)[k]? = some (some a) → False
  | 0, _, _, h => by simp [cx_pad] at h
  | n + 1, 0, _, h => by simp [cx_pad] at h
  | n + 1, k + 1, a, h => by
    simp only [cx_pad, List.getElem?_cons_succ] at h
    exact cx_pad_at n k a h
theorem cx_ent_len : ∀ (n : Nat) (as : List cx_V), (cx_ent n as).length ≤ n
  | n, [] => by rw [cx_ent, cx_pad_len]; exact Nat.le_refl _
  | 0, _ :: _ => by simp [cx_ent]
  | n + 1, .inr (.inl y) :: r => by
    unfold cx_ent
    cases n with
    | zero => simp
    | succ n' =>
      have := cx_ent_len n' r
      simp only [List.length_cons]; omega
  | n + 1, .inl x :: r => by
    have := cx_ent_len n r
    simp only [cx_ent, List.length_cons]; omega
  | n + 1, .inr (.inr x) :: r => by
    have := cx_ent_len n r
    simp only [cx_ent, List.length_cons]; omega
theorem cx_ent_at : ∀ (as : List cx_V) (n i : Nat) (vs : List Value) (k : Nat) (a : cx_V), cx_g1 vs as → (cx_ent n as)[k]? = some (some a) → ∃ v : Value, (i + k, v) ∈ lv_args i vs ∧ cx_g v a
  | [], n, i, vs, k, a, _, h => (cx_pad_at n k a (by simpa [cx_ent] using h)).elim
  | x :: r, 0, i, vs, k, a, _, h => by simp [cx_ent] at h
  | .inr (.inl y) :: r, 1, i, vs, k, a, _, h => by simp [cx_ent] at h
  | .inr (.inl y) :: r, n + 2, i, [], k, a, g, h => g.elim
  | .inr (.inl y) :: r, n + 2, i, v :: vs, k, a, g, h => by
    have hv : v = .long y := g.1
    subst hv
    simp only [cx_ent] at h
    match k, h with
    | 0, h =>
      simp at h
      subst h
      exact ⟨.long y, by simp [lv_args], rfl⟩
    | 1, h => simp at h
    | k + 2, h =>
      simp only [List.getElem?_cons_succ] at h
      obtain ⟨w, h1, h2⟩ := cx_ent_at r n (i + 2) vs k a g.2 h
      refine ⟨w, ?_, h2⟩
      have e : i + (k + 2) = i + 2 + k := by omega
      rw [e, lv_args]
      exact List.mem_cons_of_mem _ h1
  | .inl x :: r, n + 1, i, [], k, a, g, h => g.elim
  | .inl x :: r, n + 1, i, v :: vs, k, a, g, h => by
    have hc := cx_cat2 g.1
    simp only [cx_ent] at h
    match k, h with
    | 0, h =>
      simp at h
      subst h
      exact ⟨v, by simp [lv_args], g.1⟩
    | k + 1, h =>
      simp only [List.getElem?_cons_succ] at h
      obtain ⟨w, h1, h2⟩ := cx_ent_at r n (i + 1) vs k a g.2 h
      refine ⟨w, ?_, h2⟩
      have e : i + (k + 1) = i + 1 + k := by omega
      have e2 : ¬ v.category = 2 := by rw [hc]; simp [cx_c2]
      rw [e, lv_args, if_neg e2]
      exact List.mem_cons_of_mem _ h1
  | .inr (.inr x) :: r, n + 1, i, [], k, a, g, h => g.elim
  | .inr (.inr x) :: r, n + 1, i, v :: vs, k, a, g, h => by
    have hc := cx_cat2 g.1
    simp only [cx_ent] at h
    match k, h with
    | 0, h =>
      simp at h
      subst h
      exact ⟨v, by simp [lv_args], g.1⟩
    | k + 1, h =>
      simp only [List.getElem?_cons_succ] at h
      obtain ⟨w, h1, h2⟩ := cx_ent_at r n (i + 1) vs k a g.2 h
      refine ⟨w, ?_, h2⟩
      have e : i + (k + 1) = i + 1 + k := by omega
      have e2 : ¬ v.category = 2 := by rw [hc]; simp [cx_c2]
      rw [e, lv_args, if_neg e2]
      exact List.mem_cons_of_mem _ h1
theorem cx_lv_ent {vs : List Value} {as : List cx_V} {n : Nat} {ls : Array Slot} (g : cx_g1 vs as) (h : lv_has ls n (lv_args 0 vs)) : cx_lv ls n (cx_ent n as) := by
  refine ⟨h.1, cx_ent_len n as, h.2.1, fun k a hk => ?_⟩
  obtain ⟨v, h1, h2⟩ := cx_ent_at as n 0 vs k a g hk
  rw [Nat.zero_add] at h1
  exact ⟨v, h.2.2 _ h1, h2⟩
