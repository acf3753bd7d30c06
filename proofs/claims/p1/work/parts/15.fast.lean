/-! the same machine, cut into small pieces: the kernel runs it faster -/
def ev_f5 (PG : List ev_M) (f : ev_F) (fs : List ev_F) (h : List ev_C) (sg : List ev_A) (E : ev_E) : Option (List ev_S) := match E.1 with
  | .invokevirtual _ => ev_cl PG 1 E f.1 f.2.1 f.2.2.1 f.2.2.2.1 f.2.2.2.2.1 f.2.2.2.2.2 fs h sg
  | .invokestatic _ => ev_cl PG 0 E f.1 f.2.1 f.2.2.1 f.2.2.2.1 f.2.2.2.2.1 f.2.2.2.2.2 fs h sg
  | .invokespecial _ => ev_cl PG 2 E f.1 f.2.1 f.2.2.1 f.2.2.2.1 f.2.2.2.2.1 f.2.2.2.2.2 fs h sg
  | _ => none
def ev_f4 (PG : List ev_M) (fin : Option ev_A → List ev_C → Bool) (f : ev_F) (fs : List ev_F) (h : List ev_C) (sg : List ev_A) (E : ev_E) (r : Option (Option ev_A)) : Option (List ev_S) := match r with
  | some a => if E.2.1 == 1 then ev_back fin a fs h sg else none
  | none => ev_f5 PG f fs h sg E
def ev_w3 (f : ev_F) (fs : List ev_F) (E : ev_E) (q : List ev_C × List ev_A × List ev_A × Nat × Nat) : ev_S := ((f.1, f.2.1 + E.2.1, f.2.2.1, q.2.2.1, q.2.2.2.1, q.2.2.2.2) :: fs, q.1, q.2.1)
def ev_f3 (PG : List ev_M) (fin : Option ev_A → List ev_C → Bool) (f : ev_F) (fs : List ev_F) (h : List ev_C) (sg : List ev_A) (E : ev_E) (r : ev_H) : Option (List ev_S) := match r with
  | some L => some (L.map (ev_w3 f fs E))
  | none => ev_f4 PG fin f fs h sg E (ev_rok E f.1 f.2.2.2.1)
def ev_w2 (f : ev_F) (fs : List ev_F) (h : List ev_C) (sg : List ev_A) (q : Nat × List ev_A) : ev_S := ((f.1, q.1, f.2.2.1, q.2, f.2.2.2.2.1, f.2.2.2.2.2) :: fs, h, sg)
def ev_f2 (G : ev_G) (PG : List ev_M) (fin : Option ev_A → List ev_C → Bool) (f : ev_F) (fs : List ev_F) (h : List ev_C) (sg : List ev_A) (E : ev_E) (r : ev_T) : Option (List ev_S) := match r with
  | some L => some (L.map (ev_w2 f fs h sg))
  | none => ev_f3 PG fin f fs h sg E (ev_hp G f.1 E h sg f.2.2.2.1 f.2.2.2.2.1 f.2.2.2.2.2)
def ev_f1 (G : ev_G) (PG : List ev_M) (fin : Option ev_A → List ev_C → Bool) (f : ev_F) (fs : List ev_F) (h : List ev_C) (sg : List ev_A) (E : ev_E) (r : ev_Z) : Option (List ev_S) := match r with
  | some q => if q.1 == E.2.1 then some [((f.1, f.2.1 + q.1, q.2.1, q.2.2, f.2.2.2.2.1, f.2.2.2.2.2) :: fs, h, sg)] else none
  | none => ev_f2 G PG fin f fs h sg E (ev_br f.2.1 E.2.1 E.1 f.2.2.2.1)
def ev_f0 (G : ev_G) (PG : List ev_M) (fin : Option ev_A → List ev_C → Bool) (f : ev_F) (fs : List ev_F) (h : List ev_C) (sg : List ev_A) (oE : Option ev_E) : Option (List ev_S) := match oE with
  | some E => ev_f1 G PG fin f fs h sg E (ev_pure (ev_mL f.1) E.1 f.2.2.1 f.2.2.2.1)
  | none => none
def ev_fn (G : ev_G) (PG : List ev_M) (fin : Option ev_A → List ev_C → Bool) (fs0 : List ev_F) (h : List ev_C) (sg : List ev_A) : Option (List ev_S) := match fs0 with
  | f :: fs => ev_f0 G PG fin f fs h sg (ev_at f.1 f.2.1)
  | [] => none
theorem ev_fn_eq (G : ev_G) (PG : List ev_M) (fin : Option ev_A → List ev_C → Bool) (fs0 : List ev_F) (h : List ev_C) (sg : List ev_A) : ev_fn G PG fin fs0 h sg = ev_next G PG fin (fs0, h, sg) := by
  cases fs0 with
  | nil => rfl
  | cons f fs =>
    obtain ⟨M, pc, lv, st, bc, bs⟩ := f
    unfold ev_fn ev_next
    dsimp only
    cases ev_at M pc with
    | none => rfl
    | some E =>
      unfold ev_f0
      dsimp only
      cases ev_pure (ev_mL M) E.1 lv st with
      | some q => rfl
      | none =>
        unfold ev_f1
        dsimp only
        cases ev_br pc E.2.1 E.1 st with
        | some L => rfl
        | none =>
          unfold ev_f2
          dsimp only
          cases ev_hp G M E h sg st bc bs with
          | some L => rfl
          | none =>
            unfold ev_f3
            dsimp only
            cases ev_rok E M st with
            | some a => rfl
            | none => rfl
