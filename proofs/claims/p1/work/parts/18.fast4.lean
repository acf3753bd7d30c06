section FX4
variable (G : ev_G) (PG : List ev_M) (fin : Option ev_A → ev_Q → Bool)
def fx_t0 (t : Nat) : Bool := Nat.beq t 0
def fx_t1 (t : Nat) : Bool := Nat.beq t 1
def fx_tA (t : Nat) : Bool := Nat.ble 2 t
noncomputable def fx_rI (a : ev_A) : Bool := Nat.beq a.1 0
noncomputable def fx_rZ (a : ev_A) : Bool := fx_and (Nat.beq a.1 0) (fx_and (fx_le 0 a.2.1) (fx_le a.2.2 1))
/-- the handler of an instruction -/
noncomputable def fx_sel (M : ev_M) (pc : Nat) (E : ev_E) : Option ev_K := match E.1 with
  | .iconst n => if E.2.1 = 1 then fx_const M (pc + E.2.1) (Int32.ofInt n).toInt else fx_slow G PG fin M pc
  | .bipush n => if E.2.1 = 2 then fx_const M (pc + E.2.1) (Int8.ofInt n).toInt32.toInt else fx_slow G PG fin M pc
  | .sipush n => if E.2.1 = 3 then fx_const M (pc + E.2.1) (Int16.ofInt n).toInt32.toInt else fx_slow G PG fin M pc
  | .iload_n k => if E.2.1 = 1 then fx_ld M (pc + E.2.1) (k : Nat) fx_t0 else fx_slow G PG fin M pc
  | .iload i => if E.2.1 = 2 then fx_ld M (pc + E.2.1) i fx_t0 else fx_slow G PG fin M pc
  | .lload_n k => if E.2.1 = 1 then fx_ld M (pc + E.2.1) (k : Nat) fx_t1 else fx_slow G PG fin M pc
  | .lload i => if E.2.1 = 2 then fx_ld M (pc + E.2.1) i fx_t1 else fx_slow G PG fin M pc
  | .aload_n k => if E.2.1 = 1 then fx_ld M (pc + E.2.1) (k : Nat) fx_tA else fx_slow G PG fin M pc
  | .aload i => if E.2.1 = 2 then fx_ld M (pc + E.2.1) i fx_tA else fx_slow G PG fin M pc
  | .istore_n k => if E.2.1 = 1 ∧ (k : Nat) < ev_mL M then fx_st M (pc + E.2.1) (k : Nat) fx_t0 else fx_slow G PG fin M pc
  | .istore i => if E.2.1 = 2 ∧ i < ev_mL M then fx_st M (pc + E.2.1) i fx_t0 else fx_slow G PG fin M pc
  | .astore_n k => if E.2.1 = 1 ∧ (k : Nat) < ev_mL M then fx_st M (pc + E.2.1) (k : Nat) fx_tA else fx_slow G PG fin M pc
  | .astore i => if E.2.1 = 2 ∧ i < ev_mL M then fx_st M (pc + E.2.1) i fx_tA else fx_slow G PG fin M pc
  | .iinc i n => if E.2.1 = 3 ∧ i < ev_mL M then fx_inc M (pc + 3) i (Int32.ofInt n).toInt else fx_slow G PG fin M pc
  | .iadd => if E.2.1 = 1 then fx_add M (pc + 1) else fx_slow G PG fin M pc
  | .isub => if E.2.1 = 1 then fx_sub M (pc + 1) else fx_slow G PG fin M pc
  | .goto off => if E.2.1 = 3 ∧ 0 ≤ (pc : Int) + off then fx_goto M ((pc : Int) + off).toNat else fx_slow G PG fin M pc
  | .ifCond cd off => if E.2.1 = 3 ∧ 0 ≤ (pc : Int) + off then fx_b1 M ((pc : Int) + off).toNat (pc + 3) cd else fx_slow G PG fin M pc
  | .if_icmp cd off => if E.2.1 = 3 ∧ 0 ≤ (pc : Int) + off then fx_b2 M ((pc : Int) + off).toNat (pc + 3) cd else fx_slow G PG fin M pc
  | .getfield _ => if E.2.1 = 3 then fx_get M (pc + 3) E.2.2.1 E.2.2.2.1 else fx_slow G PG fin M pc
  | .arraylength => if E.2.1 = 1 then fx_len G PG fin M pc (pc + 1) else fx_slow G PG fin M pc
  | .iaload => if E.2.1 = 1 ∧ ev_nth G.2.1 0 = some .int then fx_ald G PG fin M pc (pc + 1) else fx_slow G PG fin M pc
  | .ireturn => if E.2.1 = 1 ∧ ev_mR M = some .int then fx_ret fin fx_rI else if E.2.1 = 1 ∧ ev_mR M = some .boolean then fx_ret fin fx_rZ else fx_slow G PG fin M pc
  | .invokevirtual _ => (match ev_nth PG E.2.2.1 with
    | some M' => fx_cv M M' (pc + 3) E.2.2.2.1 (ev_mP M') (ev_mY M') (ev_mS M') (ev_mL M') (E.2.1 == 3 && ev_mK M' == 1 && decide (ev_mF M' + 1 ≤ ev_mF M) && decide (8 + (ev_mL M' + 11) + ev_mO M' ≤ ev_mO M))
    | none => none)
  | _ => fx_slow G PG fin M pc
noncomputable def fx_h (M : ev_M) (pc : Nat) : Option ev_K := match ev_at M pc with
  | some E => fx_sel G PG fin M pc E
  | none => none
noncomputable def fx_step (S : ev_S) (K : ev_S → Bool) : Bool := Prod.rec (fun frs q => Prod.rec (fun h sg => List.rec false (fun f fs _ => Prod.rec (fun M r1 => Prod.rec (fun pc r2 => Prod.rec (fun lv r3 => Prod.rec (fun st r4 => Prod.rec (fun bc bs => Option.rec false (fun F => F lv st bc bs fs h sg K) (fx_h G PG fin M pc)) r4) r3) r2) r1) f) frs) q) S
noncomputable def fx_run (stop : ev_S → Bool) (n : Nat) : ev_S → Bool := Nat.rec (fun _ => false) (fun _ ih S => Bool.rec (fx_step G PG fin S ih) true (stop S)) n
variable {G PG fin}
theorem fx_sel_ok {M : ev_M} {pc : Nat} {E : ev_E} (hat : ev_at M pc = some E) : fx_ok G PG fin M pc (fx_sel G PG fin M pc E) := by
  have hs := fx_slow_ok G PG fin M pc
  have hA : ∀ {a : ev_A}, fx_tA a.1 = true → (a.1 == 0 || a.1 == 1) = false := by
    intro a h
    have : 2 ≤ a.1 := by simpa [fx_tA, Nat.ble_eq] using h
    rw [Bool.or_eq_false_iff]
    exact ⟨by simp; omega, by simp; omega⟩
  have h0 : ∀ {a : ev_A}, fx_t0 a.1 = true → (a.1 == 0) = true := fun h => by rw [← fx_beq]; exact h
  have h1 : ∀ {a : ev_A}, fx_t1 a.1 = true → (a.1 == 1) = true := fun h => by rw [← fx_beq]; exact h
  unfold fx_sel
  split
  · rename_i n hi
    split
    · rename_i hl; exact fx_const_ok hat (fun lv st => by rw [hi, hl]; rfl)
    · exact hs
  · rename_i n hi
    split
    · rename_i hl; exact fx_const_ok hat (fun lv st => by rw [hi, hl]; rfl)
    · exact hs
  · rename_i n hi
    split
    · rename_i hl; exact fx_const_ok hat (fun lv st => by rw [hi, hl]; rfl)
    · exact hs
  · rename_i k hi
    split
    · rename_i hl; exact fx_ld_ok hat (fun lv st a q1 q2 => by rw [hi, hl]; simp only [ev_pure, ev_ldI, q1, h0 q2, if_true])
    · exact hs
  · rename_i k hi
    split
    · rename_i hl; exact fx_ld_ok hat (fun lv st a q1 q2 => by rw [hi, hl]; simp only [ev_pure, ev_ldI, q1, h0 q2, if_true])
    · exact hs
  · rename_i k hi
    split
    · rename_i hl; exact fx_ld_ok hat (fun lv st a q1 q2 => by rw [hi, hl]; simp only [ev_pure, ev_ldL, q1, h1 q2, if_true])
    · exact hs
  · rename_i k hi
    split
    · rename_i hl; exact fx_ld_ok hat (fun lv st a q1 q2 => by rw [hi, hl]; simp only [ev_pure, ev_ldL, q1, h1 q2, if_true])
    · exact hs
  · rename_i k hi
    split
    · rename_i hl; exact fx_ld_ok hat (fun lv st a q1 q2 => by rw [hi, hl]; simp only [ev_pure, ev_ldA, q1, hA q2, Bool.false_eq_true, if_false])
    · exact hs
  · rename_i k hi
    split
    · rename_i hl; exact fx_ld_ok hat (fun lv st a q1 q2 => by rw [hi, hl]; simp only [ev_pure, ev_ldA, q1, hA q2, Bool.false_eq_true, if_false])
    · exact hs
  · rename_i k hi
    split
    · rename_i hl; exact fx_st_ok hat (fun lv a r q => by rw [hi, hl.1]; simp only [ev_pure, ev_stI, h0 q, hl.2, decide_true, Bool.and_self, if_true])
    · exact hs
  · rename_i k hi
    split
    · rename_i hl; exact fx_st_ok hat (fun lv a r q => by rw [hi, hl.1]; simp only [ev_pure, ev_stI, h0 q, hl.2, decide_true, Bool.and_self, if_true])
    · exact hs
  · rename_i k hi
    split
    · rename_i hl; exact fx_st_ok hat (fun lv a r q => by rw [hi, hl.1]; simp only [ev_pure, ev_stA, hA q, hl.2, decide_true, Bool.not_false, Bool.and_self, if_true])
    · exact hs
  · rename_i k hi
    split
    · rename_i hl; exact fx_st_ok hat (fun lv a r q => by rw [hi, hl.1]; simp only [ev_pure, ev_stA, hA q, hl.2, decide_true, Bool.not_false, Bool.and_self, if_true])
    · exact hs
  · rename_i i n hi
    split
    · rename_i hl; exact fx_inc_ok hat hi hl.1 hl.2
    · exact hs
  · rename_i hi
    split
    · rename_i hl; exact fx_add_ok hat hi hl
    · exact hs
  · rename_i hi
    split
    · rename_i hl; exact fx_sub_ok hat hi hl
    · exact hs
  · rename_i off hi
    split
    · rename_i hl; exact fx_goto_ok hat hi hl.1 hl.2
    · exact hs
  · rename_i cd off hi
    split
    · rename_i hl; exact fx_b1_ok hat hi hl.1 hl.2
    · exact hs
  · rename_i cd off hi
    split
    · rename_i hl; exact fx_b2_ok hat hi hl.1 hl.2
    · exact hs
  · rename_i idx hi
    split
    · rename_i hl; exact fx_get_ok hat hi hl
    · exact hs
  · rename_i hi
    split
    · rename_i hl; exact fx_len_ok hat hi hl
    · exact hs
  · rename_i hi
    split
    · rename_i hl; exact fx_ald_ok hat hi hl.1 hl.2
    · exact hs
  · rename_i hi
    have e1 : ∀ lv st, ev_pure (ev_mL M) E.1 lv st = none := fun lv st => by rw [hi]; rfl
    have e2 : ∀ st, ev_br pc E.2.1 E.1 st = none := fun st => by rw [hi]; rfl
    have e3 : ∀ h sg st bc bs, ev_hp G M E h sg st bc bs = none := fun h sg st bc bs => by unfold ev_hp; rw [hi]
    split
    · rename_i hl
      refine fx_ret_ok hat hl.1 e1 e2 e3 (fun a q => ?_)
      have q1 : (a.1 == 0) = true := by rw [← fx_beq]; exact q
      unfold ev_rok
      rw [hi, hl.2]
      simp only [ev_fs, ev_fit, q1]
      simp
    · split
      · rename_i hl
        refine fx_ret_ok hat hl.1 e1 e2 e3 (fun a q => ?_)
        unfold fx_rZ at q
        rw [fx_and_eq, fx_and_eq, fx_le_eq, fx_le_eq, fx_beq] at q
        simp only [Bool.and_eq_true, decide_eq_true_eq] at q
        unfold ev_rok
        rw [hi, hl.2]
        simp only [ev_fs, ev_fit, q.1, q.2.1, q.2.2]
        simp
      · exact hs
  · rename_i idx hi
    split
    · rename_i M' hM'
      exact fx_cv_ok hat hi hM' rfl
    · intro F hF; cases hF
  · exact hs
theorem fx_run_ok {stop : ev_S → Bool} : ∀ (n : Nat) (S : ev_S), fx_run G PG fin stop n S = true → ev_run G PG fin stop n S = true
  | 0, S, h => by cases h
  | n + 1, S, h => by
    have h : (Bool.rec (fx_step G PG fin S (fx_run G PG fin stop n)) true (stop S) : Bool) = true := h
    unfold ev_run
    cases hs : stop S with
    | true => rfl
    | false =>
      rw [hs] at h
      have h : fx_step G PG fin S (fx_run G PG fin stop n) = true := h
      obtain ⟨frs, hh, sg⟩ := S
      cases frs with
      | nil => cases h
      | cons f fs =>
        obtain ⟨M, pc, lv, st, bc, bs⟩ := f
        have h : (Option.rec false (fun F => F lv st bc bs fs hh sg (fx_run G PG fin stop n)) (fx_h G PG fin M pc) : Bool) = true := h
        cases hF : fx_h G PG fin M pc with
        | none => rw [hF] at h; cases h
        | some F =>
          rw [hF] at h
          have h : F lv st bc bs fs hh sg (fx_run G PG fin stop n) = true := h
          unfold fx_h at hF
          cases hat : ev_at M pc with
          | none => rw [hat] at hF; cases hF
          | some E =>
            rw [hat] at hF
            have q := fx_sel_ok (G := G) (PG := PG) (fin := fin) hat F hF lv st bc bs fs hh sg _ h
            unfold ev_nk at q
            simp only [Bool.false_eq_true, if_false]
            split at q
            · cases q
            · rename_i L hL
              rw [hL]
              rw [List.all_eq_true] at q ⊢
              exact fun x hx => fx_run_ok n x (q x hx)
end FX4
