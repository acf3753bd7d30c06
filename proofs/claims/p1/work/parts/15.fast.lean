/-! the same machine for the kernel: raw recursors, an instruction's handler is a closed term (so it is worked out once) -/
def ev_nk (G : ev_G) (PG : List ev_M) (fin : Option ev_A → ev_Q → Bool) (S : ev_S) (K : ev_S → Bool) : Bool := match ev_next G PG fin S with
  | none => false
  | some L => L.all K
abbrev ev_K : Type := List (Nat × ev_A) → List ev_A → Nat → Nat → List ev_F → ev_Q → List ev_A → (ev_S → Bool) → Bool
noncomputable def fx_nth {α : Type} (l : List α) : Nat → Option α := List.rec (fun _ => none) (fun a _ ih n => Nat.rec (some a) (fun m _ => ih m) n) l
theorem fx_nth_eq {α : Type} : ∀ (l : List α) (n : Nat), fx_nth l n = ev_nth l n
  | [], _ => rfl
  | a :: l, 0 => rfl
  | a :: l, n + 1 => fx_nth_eq l n
theorem fx_beq (a b : Nat) : Nat.beq a b = (a == b) := by
  rw [Bool.eq_iff_iff, Nat.beq_eq, beq_iff_eq]
noncomputable def fx_look (l : List (Nat × ev_A)) (i : Nat) : Option ev_A := List.rec none (fun q _ ih => Bool.rec ih (some q.2) (Nat.beq q.1 i)) l
theorem fx_look_eq : ∀ (l : List (Nat × ev_A)) (i : Nat), fx_look l i = ev_look l i
  | [], _ => rfl
  | q :: l, i => by
    have ih := fx_look_eq l i
    show (Bool.rec (fx_look l i) (some q.2) (Nat.beq q.1 i) : Option ev_A) = _
    unfold ev_look
    cases h : Nat.beq q.1 i with
    | true =>
      have : (q.1 == i) = true := by rw [← fx_beq]; exact h
      rw [this]; rfl
    | false =>
      have : (q.1 == i) = false := by rw [← fx_beq]; exact h
      rw [this]; exact ih
noncomputable def fx_hg (h : ev_Q) (i : Nat) : Option ev_C := Option.rec none (fun l => fx_nth l (i % 16)) (fx_nth h.2 (i / 16))
theorem fx_hg_eq (h : ev_Q) (i : Nat) : fx_hg h i = ev_hg h i := by
  unfold fx_hg ev_hg
  rw [fx_nth_eq]
  cases ev_nth h.2 (i / 16) with
  | none => rfl
  | some l => exact fx_nth_eq l _
noncomputable def fx_le (a b : Int) : Bool := Int.rec (fun n => Int.rec (fun m => Nat.ble n m) (fun _ => false) b) (fun n => Int.rec (fun _ => true) (fun m => Nat.ble m n) b) a
theorem fx_le_eq (a b : Int) : fx_le a b = decide (a ≤ b) := by
  cases a with
  | ofNat n => cases b with
    | ofNat m =>
      show Nat.ble n m = _
      rw [Bool.eq_iff_iff, Nat.ble_eq, decide_eq_true_eq]
      exact (Int.ofNat_le).symm
    | negSucc m =>
      show false = _
      symm
      rw [decide_eq_false_iff_not]
      have h1 : Int.ofNat n = (n : Int) := rfl
      omega
  | negSucc n => cases b with
    | ofNat m =>
      show true = _
      symm
      rw [decide_eq_true_eq]
      have h1 : Int.ofNat m = (m : Int) := rfl
      omega
    | negSucc m =>
      show Nat.ble m n = _
      rw [Bool.eq_iff_iff, Nat.ble_eq, decide_eq_true_eq]
      omega
noncomputable def fx_eq (a b : Int) : Bool := Int.rec (fun n => Int.rec (fun m => Nat.beq n m) (fun _ => false) b) (fun n => Int.rec (fun _ => false) (fun m => Nat.beq n m) b) a
theorem fx_eq_eq (a b : Int) : fx_eq a b = decide (a = b) := by
  cases a with
  | ofNat n => cases b with
    | ofNat m =>
      show Nat.beq n m = _
      rw [Bool.eq_iff_iff, Nat.beq_eq, decide_eq_true_eq]
      constructor
      · intro h; rw [h]
      · intro h; exact Int.ofNat.inj h
    | negSucc m => rfl
  | negSucc n => cases b with
    | ofNat m => rfl
    | negSucc m =>
      show Nat.beq n m = _
      rw [Bool.eq_iff_iff, Nat.beq_eq, decide_eq_true_eq]
      constructor
      · intro h; rw [h]
      · intro h; exact Int.negSucc.inj h
noncomputable def fx_and (a b : Bool) : Bool := Bool.rec false b a
noncomputable def fx_not (a : Bool) : Bool := Bool.rec true false a
theorem fx_and_eq (a b : Bool) : fx_and a b = (a && b) := by cases a <;> rfl
theorem fx_not_eq (a : Bool) : fx_not a = !a := by cases a <;> rfl
/-- both ways of a branch, as far as they may be -/
noncomputable def fx_two (t f x y : Bool) : Bool := Bool.rec (Bool.rec true y f) (Bool.rec false (Bool.rec true y f) x) t
theorem fx_two_ok {t f x y : Bool} (h : fx_two t f x y = true) : (t = true → x = true) ∧ (f = true → y = true) := by
  cases t <;> cases f <;> cases x <;> cases y <;> first | exact absurd h (by decide) | decide
noncomputable def fx_fN {α : Type} (n : Nat) (k : Nat → α) : α := Nat.rec (k 0) (fun m _ => k (Nat.succ m)) n
theorem fx_fN_eq {α : Type} (n : Nat) (k : Nat → α) : fx_fN n k = k n := by cases n <;> rfl
noncomputable def fx_fI {α : Type} (z : Int) (k : Int → α) : α := Int.rec (fun n => fx_fN n (fun n => k (Int.ofNat n))) (fun n => fx_fN n (fun n => k (Int.negSucc n))) z
theorem fx_fI_eq {α : Type} (z : Int) (k : Int → α) : fx_fI z k = k z := by
  cases z with
  | ofNat n => exact fx_fN_eq n (fun n => k (Int.ofNat n))
  | negSucc n => exact fx_fN_eq n (fun n => k (Int.negSucc n))
noncomputable def fx_tn (z : Int) : Nat := Int.rec (fun n => n) (fun _ => 0) z
theorem fx_tn_eq (z : Int) : fx_tn z = z.toNat := by cases z <;> rfl
section FX
variable (G : ev_G) (PG : List ev_M) (fin : Option ev_A → ev_Q → Bool)
def fx_slow (M : ev_M) (pc : Nat) : Option ev_K := some (fun lv st bc bs fs h sg K => ev_nk G PG fin ((M, pc, lv, st, bc, bs) :: fs, h, sg) K)
/-- what a handler must be -/
def fx_ok (M : ev_M) (pc : Nat) (o : Option ev_K) : Prop := ∀ F, o = some F → ∀ lv st bc bs fs h sg K, F lv st bc bs fs h sg K = true → ev_nk G PG fin ((M, pc, lv, st, bc, bs) :: fs, h, sg) K = true
theorem fx_slow_ok (M : ev_M) (pc : Nat) : fx_ok G PG fin M pc (fx_slow G PG fin M pc) := by
  intro F hF lv st bc bs fs h sg K hK
  cases hF
  exact hK
variable {G PG fin}
theorem fx_pure_ok {M : ev_M} {pc : Nat} {E : ev_E} {lv lv' : List (Nat × ev_A)} {st st' : List ev_A} {bc bs : Nat} {fs : List ev_F} {h : ev_Q} {sg : List ev_A} {K : ev_S → Bool} (hat : ev_at M pc = some E) (hp : ev_pure (ev_mL M) E.1 lv st = some (E.2.1, lv', st')) (hK : K ((M, pc + E.2.1, lv', st', bc, bs) :: fs, h, sg) = true) : ev_nk G PG fin ((M, pc, lv, st, bc, bs) :: fs, h, sg) K = true := by
  unfold ev_nk ev_next
  dsimp only
  rw [hat]
  dsimp only
  rw [hp]
  simp [hK]
theorem fx_br_ok {M : ev_M} {pc : Nat} {E : ev_E} {lv : List (Nat × ev_A)} {st : List ev_A} {bc bs : Nat} {fs : List ev_F} {h : ev_Q} {sg : List ev_A} {K : ev_S → Bool} {L : List (Nat × List ev_A)} (hat : ev_at M pc = some E) (hp : ev_pure (ev_mL M) E.1 lv st = none) (hb : ev_br pc E.2.1 E.1 st = some L) (hK : ∀ q ∈ L, K ((M, q.1, lv, q.2, bc, bs) :: fs, h, sg) = true) : ev_nk G PG fin ((M, pc, lv, st, bc, bs) :: fs, h, sg) K = true := by
  unfold ev_nk ev_next
  dsimp only
  rw [hat]
  dsimp only
  rw [hp]
  dsimp only
  rw [hb]
  dsimp only
  rw [List.all_eq_true]
  intro x hx
  obtain ⟨q, h1, rfl⟩ := List.mem_map.mp hx
  exact hK q h1
theorem fx_hp_ok {M : ev_M} {pc : Nat} {E : ev_E} {lv : List (Nat × ev_A)} {st : List ev_A} {bc bs : Nat} {fs : List ev_F} {h : ev_Q} {sg : List ev_A} {K : ev_S → Bool} {q : ev_Q × List ev_A × List ev_A × Nat × Nat} (hat : ev_at M pc = some E) (hp : ev_pure (ev_mL M) E.1 lv st = none) (hb : ev_br pc E.2.1 E.1 st = none) (hh : ev_hp G M E h sg st bc bs = some [q]) (hK : K ((M, pc + E.2.1, lv, q.2.2.1, q.2.2.2.1, q.2.2.2.2) :: fs, q.1, q.2.1) = true) : ev_nk G PG fin ((M, pc, lv, st, bc, bs) :: fs, h, sg) K = true := by
  unfold ev_nk ev_next
  dsimp only
  rw [hat]
  dsimp only
  rw [hp]
  dsimp only
  rw [hb]
  dsimp only
  rw [hh]
  simp [hK]
/-- a constant -/
noncomputable def fx_const (M : ev_M) (pc' : Nat) (z : Int) : Option ev_K := fx_fN pc' fun pc' => fx_fI z fun z => some fun lv st bc bs fs h sg K => K ((M, pc', lv, (0, z, z) :: st, bc, bs) :: fs, h, sg)
theorem fx_const_ok {M : ev_M} {pc : Nat} {E : ev_E} {z : Int} (hat : ev_at M pc = some E) (hp : ∀ lv st, ev_pure (ev_mL M) E.1 lv st = some (E.2.1, lv, (0, z, z) :: st)) : fx_ok G PG fin M pc (fx_const M (pc + E.2.1) z) := by
  intro F hF lv st bc bs fs h sg K hK
  unfold fx_const at hF
  rw [fx_fN_eq, fx_fI_eq] at hF
  cases hF
  exact fx_pure_ok hat (hp lv st) hK
/-- a local: ok says which tags may be -/
noncomputable def fx_ld (M : ev_M) (pc' i : Nat) (ok : Nat → Bool) : Option ev_K := fx_fN pc' fun pc' => fx_fN i fun i => some fun lv st bc bs fs h sg K => Option.rec false (fun a => Bool.rec false (K ((M, pc', lv, a :: st, bc, bs) :: fs, h, sg)) (ok a.1)) (fx_look lv i)
theorem fx_ld_ok {M : ev_M} {pc i : Nat} {E : ev_E} {ok : Nat → Bool} (hat : ev_at M pc = some E) (hp : ∀ lv st a, ev_look lv i = some a → ok a.1 = true → ev_pure (ev_mL M) E.1 lv st = some (E.2.1, lv, a :: st)) : fx_ok G PG fin M pc (fx_ld M (pc + E.2.1) i ok) := by
  intro F hF lv st bc bs fs h sg K hK
  unfold fx_ld at hF
  rw [fx_fN_eq, fx_fN_eq] at hF
  cases hF
  dsimp only at hK
  rw [fx_look_eq] at hK
  cases hl : ev_look lv i with
  | none => rw [hl] at hK; cases hK
  | some a =>
    rw [hl] at hK
    dsimp only at hK
    cases ho : ok a.1 with
    | false => rw [ho] at hK; cases hK
    | true =>
      rw [ho] at hK
      exact fx_pure_ok hat (hp lv st a hl ho) hK
noncomputable def fx_goto (M : ev_M) (pc' : Nat) : Option ev_K := fx_fN pc' fun pc' => some fun lv st bc bs fs h sg K => K ((M, pc', lv, st, bc, bs) :: fs, h, sg)
/-- may a comparison hold, may it fail -/
noncomputable def fx_rT (cd : ClassFile.Cond) (l1 h1 l2 h2 : Int) : Bool := ClassFile.Cond.rec (fx_and (fx_le l1 h2) (fx_le l2 h1)) (fx_not (fx_and (fx_and (fx_eq l1 h1) (fx_eq l2 h2)) (fx_eq l1 l2))) (fx_not (fx_le h2 l1)) (fx_le l2 h1) (fx_not (fx_le h1 l2)) (fx_le l1 h2) cd
noncomputable def fx_rF (cd : ClassFile.Cond) (l1 h1 l2 h2 : Int) : Bool := ClassFile.Cond.rec (fx_not (fx_and (fx_and (fx_eq l1 h1) (fx_eq l2 h2)) (fx_eq l1 l2))) (fx_and (fx_le l1 h2) (fx_le l2 h1)) (fx_le l2 h1) (fx_not (fx_le h2 l1)) (fx_le l1 h2) (fx_not (fx_le h1 l2)) cd
theorem fx_nle (a b : Int) : (!decide (a ≤ b)) = decide (b < a) := by
  by_cases h : a ≤ b
  · simp [h, Int.not_lt.mpr h]
  · simp [h, Int.not_le.mp h]
theorem fx_rel_eq (cd : ClassFile.Cond) (l1 h1 l2 h2 : Int) : (fx_rT cd l1 h1 l2 h2, fx_rF cd l1 h1 l2 h2) = ev_rel cd l1 h1 l2 h2 := by
  cases cd <;> simp only [fx_rT, fx_rF, ev_rel, fx_and_eq, fx_not_eq, fx_le_eq, fx_eq_eq, fx_nle]
noncomputable def fx_b1 (M : ev_M) (pcT pcF : Nat) (cd : ClassFile.Cond) : Option ev_K := fx_fN pcT fun pcT => fx_fN pcF fun pcF => some fun lv st bc bs fs h sg K => List.rec false (fun a r _ => Bool.rec false (fx_two (fx_rT cd a.2.1 a.2.2 0 0) (fx_rF cd a.2.1 a.2.2 0 0) (K ((M, pcT, lv, r, bc, bs) :: fs, h, sg)) (K ((M, pcF, lv, r, bc, bs) :: fs, h, sg))) (Nat.beq a.1 0)) st
noncomputable def fx_b2 (M : ev_M) (pcT pcF : Nat) (cd : ClassFile.Cond) : Option ev_K := fx_fN pcT fun pcT => fx_fN pcF fun pcF => some fun lv st bc bs fs h sg K => List.rec false (fun y r0 _ => List.rec false (fun x r _ => Bool.rec false (fx_two (fx_rT cd x.2.1 x.2.2 y.2.1 y.2.2) (fx_rF cd x.2.1 x.2.2 y.2.1 y.2.2) (K ((M, pcT, lv, r, bc, bs) :: fs, h, sg)) (K ((M, pcF, lv, r, bc, bs) :: fs, h, sg))) (fx_and (Nat.beq x.1 0) (Nat.beq y.1 0))) r0) st
theorem fx_two_mem {pc : Nat} {off : Int} {q : Bool × Bool} {r : List ev_A} (h0 : 0 ≤ (pc : Int) + off) : ∃ L, ev_two pc off q r = some L ∧ ∀ x ∈ L, (q.1 = true ∧ x = (((pc : Int) + off).toNat, r)) ∨ (q.2 = true ∧ x = (pc + 3, r)) := by
  unfold ev_two
  rw [if_pos h0]
  refine ⟨_, rfl, fun x hx => ?_⟩
  obtain ⟨a, b⟩ := q
  cases a <;> cases b <;> simp at hx ⊢
  · exact hx
  · exact hx
  · exact hx
theorem fx_b1_ok {M : ev_M} {pc : Nat} {E : ev_E} {cd : ClassFile.Cond} {off : Int} (hat : ev_at M pc = some E) (hi : E.1 = .ifCond cd off) (hl : E.2.1 = 3) (h0 : 0 ≤ (pc : Int) + off) : fx_ok G PG fin M pc (fx_b1 M ((pc : Int) + off).toNat (pc + 3) cd) := by
  intro F hF lv st bc bs fs h sg K hK
  unfold fx_b1 at hF
  rw [fx_fN_eq, fx_fN_eq] at hF
  cases hF
  dsimp only at hK
  cases st with
  | nil => cases hK
  | cons a r =>
    obtain ⟨t, l1, h1⟩ := a
    dsimp only at hK
    cases ht : Nat.beq t 0 with
    | false => rw [ht] at hK; cases hK
    | true =>
      rw [ht] at hK
      dsimp only at hK
      obtain ⟨k1, k2⟩ := fx_two_ok hK
      have hr := fx_rel_eq cd l1 h1 0 0
      obtain ⟨L, hL, hm⟩ := fx_two_mem (pc := pc) (off := off) (q := ev_rel cd l1 h1 0 0) (r := r) h0
      refine fx_br_ok (L := L) hat (by rw [hi]; rfl) ?_ ?_
      · rw [hi, hl]
        have ht' : (t == 0) = true := by rw [← fx_beq]; exact ht
        simp only [ev_br, ev_b1, ht', if_true]
        exact hL
      · intro x hx
        rcases hm x hx with ⟨q1, rfl⟩ | ⟨q1, rfl⟩
        · exact k1 (by rw [← hr] at q1; exact q1)
        · exact k2 (by rw [← hr] at q1; exact q1)
theorem fx_b2_ok {M : ev_M} {pc : Nat} {E : ev_E} {cd : ClassFile.Cond} {off : Int} (hat : ev_at M pc = some E) (hi : E.1 = .if_icmp cd off) (hl : E.2.1 = 3) (h0 : 0 ≤ (pc : Int) + off) : fx_ok G PG fin M pc (fx_b2 M ((pc : Int) + off).toNat (pc + 3) cd) := by
  intro F hF lv st bc bs fs h sg K hK
  unfold fx_b2 at hF
  rw [fx_fN_eq, fx_fN_eq] at hF
  cases hF
  dsimp only at hK
  cases st with
  | nil => cases hK
  | cons y r0 =>
    cases r0 with
    | nil => cases hK
    | cons x r =>
      obtain ⟨t2, l2, h2⟩ := y
      obtain ⟨t1, l1, h1⟩ := x
      dsimp only at hK
      cases ht : fx_and (Nat.beq t1 0) (Nat.beq t2 0) with
      | false => rw [ht] at hK; cases hK
      | true =>
        rw [ht] at hK
        dsimp only at hK
        rw [fx_and_eq] at ht
        obtain ⟨k1, k2⟩ := fx_two_ok hK
        have hr := fx_rel_eq cd l1 h1 l2 h2
        obtain ⟨L, hL, hm⟩ := fx_two_mem (pc := pc) (off := off) (q := ev_rel cd l1 h1 l2 h2) (r := r) h0
        refine fx_br_ok (L := L) hat (by rw [hi]; rfl) ?_ ?_
        · rw [hi, hl]
          have ht' : (t1 == 0 && t2 == 0) = true := by rw [← fx_beq, ← fx_beq]; exact ht
          simp only [ev_br, ev_b2, ht', if_true]
          exact hL
        · intro q hx
          rcases hm q hx with ⟨q1, rfl⟩ | ⟨q1, rfl⟩
          · exact k1 (by rw [← hr] at q1; exact q1)
          · exact k2 (by rw [← hr] at q1; exact q1)
theorem fx_goto_ok {M : ev_M} {pc : Nat} {E : ev_E} {off : Int} (hat : ev_at M pc = some E) (hi : E.1 = .goto off) (hl : E.2.1 = 3) (h0 : 0 ≤ (pc : Int) + off) : fx_ok G PG fin M pc (fx_goto M ((pc : Int) + off).toNat) := by
  intro F hF lv st bc bs fs h sg K hK
  unfold fx_goto at hF
  rw [fx_fN_eq] at hF
  cases hF
  refine fx_br_ok (L := [(((pc : Int) + off).toNat, st)]) hat (by rw [hi]; rfl) ?_ ?_
  · rw [hi, hl]
    simp only [ev_br]
    rw [if_pos (by simp [h0])]
  · intro x hx
    rw [List.mem_singleton.mp hx]
    exact hK
end FX
