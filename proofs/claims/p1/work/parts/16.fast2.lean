/-! more handlers -/
/-- locals without those that a store at i overwrites -/
noncomputable def fx_flt (i : Nat) (l : List (Nat × ev_A)) : (List (Nat × ev_A) → Bool) → Bool := List.rec (fun k => k []) (fun q _ ih k => Bool.rec (Bool.rec (ih fun t => k (q :: t)) (ih k) (fx_and (Nat.beq (Nat.succ q.1) i) (Nat.beq q.2.1 1))) (ih k) (Nat.beq q.1 i)) l
theorem fx_flt_eq (i : Nat) : ∀ (l : List (Nat × ev_A)) (k : List (Nat × ev_A) → Bool), fx_flt i l k = k (l.filter (fun q => !(q.1 == i) && !(q.1 + 1 == i && q.2.1 == 1)))
  | [], _ => rfl
  | q :: l, k => by
    have ih := fx_flt_eq i l
    show (Bool.rec (Bool.rec (fx_flt i l fun t => k (q :: t)) (fx_flt i l k) (fx_and (Nat.beq (Nat.succ q.1) i) (Nat.beq q.2.1 1))) (fx_flt i l k) (Nat.beq q.1 i) : Bool) = _
    rw [List.filter_cons]
    cases h1 : Nat.beq q.1 i with
    | true =>
      rw [fx_beq] at h1
      rw [h1]
      simpa using ih k
    | false =>
      rw [fx_beq] at h1
      rw [h1]
      cases h2 : fx_and (Nat.beq (Nat.succ q.1) i) (Nat.beq q.2.1 1) with
      | true =>
        rw [fx_and_eq, fx_beq, fx_beq] at h2
        have h2' : (q.1 + 1 == i && q.2.1 == 1) = true := h2
        rw [h2']
        simpa using ih k
      | false =>
        rw [fx_and_eq, fx_beq, fx_beq] at h2
        have h2' : (q.1 + 1 == i && q.2.1 == 1) = false := h2
        rw [h2']
        simpa using ih (fun t => k (q :: t))
noncomputable def fx_tk (n : Nat) : List ev_A → List ev_A → (List ev_A → List ev_A → Bool) → Bool := Nat.rec (fun st acc k => k acc st) (fun _ ih st acc k => List.rec false (fun a r _ => ih r (a :: acc) k) st) n
theorem fx_tk_ok : ∀ (n : Nat) (st acc : List ev_A) (k : List ev_A → List ev_A → Bool), fx_tk n st acc k = true → n ≤ st.length ∧ k ((st.take n).reverse ++ acc) (st.drop n) = true
  | 0, st, acc, k, h => ⟨Nat.zero_le _, h⟩
  | n + 1, [], acc, k, h => by cases h
  | n + 1, a :: st, acc, k, h => by
    obtain ⟨h1, h2⟩ := fx_tk_ok n st (a :: acc) k h
    refine ⟨by simpa using h1, ?_⟩
    simpa using h2
noncomputable def fx_sz (l : List ev_A) : Nat := List.rec 0 (fun a _ ih => Bool.rec (Nat.succ ih) (Nat.succ (Nat.succ ih)) (Nat.beq a.1 1)) l
theorem fx_sz_eq : ∀ (l : List ev_A), fx_sz l = ev_sz l
  | [] => rfl
  | a :: l => by
    have ih := fx_sz_eq l
    show (Bool.rec (Nat.succ (fx_sz l)) (Nat.succ (Nat.succ (fx_sz l))) (Nat.beq a.1 1) : Nat) = _
    unfold ev_sz at ih ⊢
    rw [List.map_cons, List.sum_cons, ← ih, ← fx_beq]
    cases Nat.beq a.1 1 with
    | true => show fx_sz l + 2 = 2 + fx_sz l; omega
    | false => show fx_sz l + 1 = 1 + fx_sz l; omega
noncomputable def fx_args (l : List ev_A) : Nat → (List (Nat × ev_A) → Bool) → Bool := List.rec (fun _ k => k []) (fun a _ ih i k => fx_fN i fun i => Bool.rec (ih (Nat.succ i) fun t => k ((i, a) :: t)) (ih (Nat.succ (Nat.succ i)) fun t => k ((i, a) :: t)) (Nat.beq a.1 1)) l
theorem fx_args_eq : ∀ (l : List ev_A) (i : Nat) (k : List (Nat × ev_A) → Bool), fx_args l i k = k (ev_args i l)
  | [], _, _ => rfl
  | a :: l, i, k => by
    show fx_fN i (fun i => (Bool.rec (fx_args l (Nat.succ i) fun t => k ((i, a) :: t)) (fx_args l (Nat.succ (Nat.succ i)) fun t => k ((i, a) :: t)) (Nat.beq a.1 1) : Bool)) = _
    rw [fx_fN_eq]
    unfold ev_args
    rw [← fx_beq]
    cases Nat.beq a.1 1 with
    | true => exact fx_args_eq l (i + 2) _
    | false => exact fx_args_eq l (i + 1) _
section FX2
variable {G : ev_G} {PG : List ev_M} {fin : Option ev_A → ev_Q → Bool}
noncomputable def fx_add (M : ev_M) (pc' : Nat) : Option ev_K := fx_fN pc' fun pc' => some fun lv st bc bs fs h sg K => List.rec false (fun y r0 _ => List.rec false (fun x r _ => Bool.rec false (fx_fI (x.2.1 + y.2.1) fun l => fx_fI (x.2.2 + y.2.2) fun u => Bool.rec (K ((M, pc', lv, ev_tI :: r, bc, bs) :: fs, h, sg)) (K ((M, pc', lv, (0, l, u) :: r, bc, bs) :: fs, h, sg)) (fx_and (fx_le (-2147483648) l) (fx_le u 2147483647))) (fx_and (Nat.beq x.1 0) (Nat.beq y.1 0))) r0) st
noncomputable def fx_sub (M : ev_M) (pc' : Nat) : Option ev_K := fx_fN pc' fun pc' => some fun lv st bc bs fs h sg K => List.rec false (fun y r0 _ => List.rec false (fun x r _ => Bool.rec false (fx_fI (x.2.1 - y.2.2) fun l => fx_fI (x.2.2 - y.2.1) fun u => Bool.rec (K ((M, pc', lv, ev_tI :: r, bc, bs) :: fs, h, sg)) (K ((M, pc', lv, (0, l, u) :: r, bc, bs) :: fs, h, sg)) (fx_and (fx_le (-2147483648) l) (fx_le u 2147483647))) (fx_and (Nat.beq x.1 0) (Nat.beq y.1 0))) r0) st
theorem fx_add_ok {M : ev_M} {pc : Nat} {E : ev_E} (hat : ev_at M pc = some E) (hi : E.1 = .iadd) (hl : E.2.1 = 1) : fx_ok G PG fin M pc (fx_add M (pc + 1)) := by
  intro F hF lv st bc bs fs h sg K hK
  unfold fx_add at hF
  rw [fx_fN_eq] at hF
  cases hF
  dsimp only at hK
  cases st with
  | nil => cases hK
  | cons y r0 =>
    cases r0 with
    | nil => cases hK
    | cons x r =>
      obtain ⟨t2, l2, h2⟩ := y
      obtain ⟨t1, l1, h1⟩ := x
      dsimp only at hK
      cases ht : fx_and (Nat.beq t1 0) (Nat.beq t2 0) with
      | false => rw [ht] at hK; cases hK
      | true =>
        rw [ht] at hK
        dsimp only at hK
        rw [fx_and_eq, fx_beq, fx_beq] at ht
        rw [fx_fI_eq, fx_fI_eq, fx_and_eq, fx_le_eq, fx_le_eq] at hK
        refine fx_pure_ok (lv' := lv) (st' := ev_add l1 h1 l2 h2 :: r) hat ?_ ?_
        · rw [hi, hl]
          simp only [ev_pure, ev_op2, ht, if_true]
        · rw [hl]
          unfold ev_add
          by_cases hq : -2147483648 ≤ l1 + l2 ∧ h1 + h2 ≤ 2147483647
          · rw [if_pos hq]
            have : (decide (-2147483648 ≤ l1 + l2) && decide (h1 + h2 ≤ 2147483647)) = true := by simp [hq]
            rw [this] at hK
            exact hK
          · rw [if_neg hq]
            have : (decide (-2147483648 ≤ l1 + l2) && decide (h1 + h2 ≤ 2147483647)) = false := by
              rw [Bool.eq_false_iff]; intro e; rw [Bool.and_eq_true, decide_eq_true_eq, decide_eq_true_eq] at e; exact hq e
            rw [this] at hK
            exact hK
theorem fx_sub_ok {M : ev_M} {pc : Nat} {E : ev_E} (hat : ev_at M pc = some E) (hi : E.1 = .isub) (hl : E.2.1 = 1) : fx_ok G PG fin M pc (fx_sub M (pc + 1)) := by
  intro F hF lv st bc bs fs h sg K hK
  unfold fx_sub at hF
  rw [fx_fN_eq] at hF
  cases hF
  dsimp only at hK
  cases st with
  | nil => cases hK
  | cons y r0 =>
    cases r0 with
    | nil => cases hK
    | cons x r =>
      obtain ⟨t2, l2, h2⟩ := y
      obtain ⟨t1, l1, h1⟩ := x
      dsimp only at hK
      cases ht : fx_and (Nat.beq t1 0) (Nat.beq t2 0) with
      | false => rw [ht] at hK; cases hK
      | true =>
        rw [ht] at hK
        dsimp only at hK
        rw [fx_and_eq, fx_beq, fx_beq] at ht
        rw [fx_fI_eq, fx_fI_eq, fx_and_eq, fx_le_eq, fx_le_eq] at hK
        refine fx_pure_ok (lv' := lv) (st' := ev_sub l1 h1 l2 h2 :: r) hat ?_ ?_
        · rw [hi, hl]
          simp only [ev_pure, ev_op2, ht, if_true]
        · rw [hl]
          unfold ev_sub
          by_cases hq : -2147483648 ≤ l1 - h2 ∧ h1 - l2 ≤ 2147483647
          · rw [if_pos hq]
            have : (decide (-2147483648 ≤ l1 - h2) && decide (h1 - l2 ≤ 2147483647)) = true := by simp [hq]
            rw [this] at hK
            exact hK
          · rw [if_neg hq]
            have : (decide (-2147483648 ≤ l1 - h2) && decide (h1 - l2 ≤ 2147483647)) = false := by
              rw [Bool.eq_false_iff]; intro e; rw [Bool.and_eq_true, decide_eq_true_eq, decide_eq_true_eq] at e; exact hq e
            rw [this] at hK
            exact hK
/-- a value of one slot into a local -/
noncomputable def fx_st (M : ev_M) (pc' i : Nat) (ok : Nat → Bool) : Option ev_K := fx_fN pc' fun pc' => fx_fN i fun i => some fun lv st bc bs fs h sg K => List.rec false (fun a r _ => Bool.rec false (fx_flt i lv fun lv => K ((M, pc', (i, a) :: lv, r, bc, bs) :: fs, h, sg)) (ok a.1)) st
theorem fx_st_ok {M : ev_M} {pc i : Nat} {E : ev_E} {ok : Nat → Bool} (hat : ev_at M pc = some E) (hp : ∀ lv a r, ok a.1 = true → ev_pure (ev_mL M) E.1 lv (a :: r) = some (E.2.1, ev_put1 lv i a, r)) : fx_ok G PG fin M pc (fx_st M (pc + E.2.1) i ok) := by
  intro F hF lv st bc bs fs h sg K hK
  unfold fx_st at hF
  rw [fx_fN_eq, fx_fN_eq] at hF
  cases hF
  dsimp only at hK
  cases st with
  | nil => cases hK
  | cons a r =>
    dsimp only at hK
    cases ho : ok a.1 with
    | false => rw [ho] at hK; cases hK
    | true =>
      rw [ho] at hK
      dsimp only at hK
      rw [fx_flt_eq] at hK
      exact fx_pure_ok hat (hp lv a r ho) hK
noncomputable def fx_inc (M : ev_M) (pc' i : Nat) (n : Int) : Option ev_K := fx_fN pc' fun pc' => fx_fN i fun i => fx_fI n fun n => some fun lv st bc bs fs h sg K => Option.rec false (fun a => Bool.rec false (fx_fI (a.2.1 + n) fun l => fx_fI (a.2.2 + n) fun u => Bool.rec (fx_flt i lv fun lv => K ((M, pc', (i, ev_tI) :: lv, st, bc, bs) :: fs, h, sg)) (fx_flt i lv fun lv => K ((M, pc', (i, (0, l, u)) :: lv, st, bc, bs) :: fs, h, sg)) (fx_and (fx_le (-2147483648) l) (fx_le u 2147483647))) (Nat.beq a.1 0)) (fx_look lv i)
theorem fx_inc_ok {M : ev_M} {pc i : Nat} {E : ev_E} {n : Int} (hat : ev_at M pc = some E) (hi : E.1 = .iinc i n) (hl : E.2.1 = 3) (hn : i < ev_mL M) : fx_ok G PG fin M pc (fx_inc M (pc + 3) i (Int32.ofInt n).toInt) := by
  intro F hF lv st bc bs fs h sg K hK
  unfold fx_inc at hF
  rw [fx_fN_eq, fx_fN_eq, fx_fI_eq] at hF
  cases hF
  dsimp only at hK
  rw [fx_look_eq] at hK
  cases hlk : ev_look lv i with
  | none => rw [hlk] at hK; cases hK
  | some a =>
    rw [hlk] at hK
    obtain ⟨t, l1, h1⟩ := a
    dsimp only at hK
    cases ht : Nat.beq t 0 with
    | false => rw [ht] at hK; cases hK
    | true =>
      rw [ht] at hK
      dsimp only at hK
      rw [fx_beq] at ht
      rw [fx_fI_eq, fx_fI_eq, fx_and_eq, fx_le_eq, fx_le_eq, fx_flt_eq, fx_flt_eq] at hK
      refine fx_pure_ok (lv' := ev_put1 lv i (ev_add l1 h1 (Int32.ofInt n).toInt (Int32.ofInt n).toInt)) (st' := st) hat ?_ ?_
      · rw [hi, hl]
        simp only [ev_pure, ev_inc, hlk, ht, hn, decide_true, Bool.and_self, if_true]
      · rw [hl]
        unfold ev_add ev_put1
        by_cases hq : -2147483648 ≤ l1 + (Int32.ofInt n).toInt ∧ h1 + (Int32.ofInt n).toInt ≤ 2147483647
        · rw [if_pos hq]
          have : (decide (-2147483648 ≤ l1 + (Int32.ofInt n).toInt) && decide (h1 + (Int32.ofInt n).toInt ≤ 2147483647)) = true := by rw [Bool.and_eq_true, decide_eq_true_eq, decide_eq_true_eq]; exact hq
          rw [this] at hK
          exact hK
        · rw [if_neg hq]
          have : (decide (-2147483648 ≤ l1 + (Int32.ofInt n).toInt) && decide (h1 + (Int32.ofInt n).toInt ≤ 2147483647)) = false := by
            rw [Bool.eq_false_iff]; intro e; rw [Bool.and_eq_true, decide_eq_true_eq, decide_eq_true_eq] at e; exact hq e
          rw [this] at hK
          exact hK
noncomputable def fx_cgk (c : ev_C) (j : Nat) (k : ev_A → Bool) : Bool := Option.rec (k c.2.2.1) (fun a => k a) (fx_look c.2.2.2 j)
theorem fx_cgk_eq (c : ev_C) (j : Nat) (k : ev_A → Bool) : fx_cgk c j k = k (ev_cg c j) := by
  unfold fx_cgk ev_cg
  rw [fx_look_eq]
  cases ev_look c.2.2.2 j <;> rfl
noncomputable def fx_get (M : ev_M) (pc' u v : Nat) : Option ev_K := fx_fN pc' fun pc' => fx_fN u fun u => fx_fN v fun v => some fun lv st bc bs fs h sg K => List.rec false (fun a r _ => Bool.rec false (Option.rec false (fun c => Bool.rec false (fx_cgk c v fun x => K ((M, pc', lv, x :: r, bc, bs) :: fs, h, sg)) (Nat.beq c.1 u)) (fx_hg h (fx_tn a.2.1))) (Nat.beq a.1 2)) st
theorem fx_get_ok {M : ev_M} {pc idx : Nat} {E : ev_E} (hat : ev_at M pc = some E) (hi : E.1 = .getfield idx) (hl : E.2.1 = 3) : fx_ok G PG fin M pc (fx_get M (pc + 3) E.2.2.1 E.2.2.2.1) := by
  intro F hF lv st bc bs fs h sg K hK
  unfold fx_get at hF
  rw [fx_fN_eq, fx_fN_eq, fx_fN_eq] at hF
  cases hF
  dsimp only at hK
  cases st with
  | nil => cases hK
  | cons a r =>
    obtain ⟨t, z, z'⟩ := a
    dsimp only at hK
    cases ht : Nat.beq t 2 with
    | false => rw [ht] at hK; cases hK
    | true =>
      rw [ht] at hK
      dsimp only at hK
      rw [fx_beq] at ht
      rw [fx_hg_eq, fx_tn_eq] at hK
      cases hc : ev_hg h z.toNat with
      | none => rw [hc] at hK; cases hK
      | some c =>
        rw [hc] at hK
        dsimp only at hK
        cases hu : Nat.beq c.1 E.2.2.1 with
        | false => rw [hu] at hK; cases hK
        | true =>
          rw [hu] at hK
          dsimp only at hK
          rw [fx_cgk_eq] at hK
          rw [fx_beq] at hu
          refine fx_hp_ok (q := (h, sg, ev_cg c E.2.2.2.1 :: r, bc, bs)) hat (by rw [hi]; rfl) (by rw [hi]; rfl) ?_ ?_
          · unfold ev_hp
            rw [hi]
            dsimp only
            rw [hl]
            simp only [ev_hget, ht, hc, hu, beq_self_eq_true, if_true]
          · rw [hl]; exact hK
end FX2
