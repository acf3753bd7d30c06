section FX3
variable (G : ev_G) (PG : List ev_M) (fin : Option ev_A → ev_Q → Bool)
/-- an int back to the caller -/
noncomputable def fx_ret (ok : ev_A → Bool) : Option ev_K := some fun _ st _ _ fs h sg K => List.rec false (fun a r _ => List.rec (Bool.rec false (List.rec (fin (some a) h) (fun f2 fs2 _ => Prod.rec (fun M2 r1 => Prod.rec (fun pc2 r2 => Prod.rec (fun lv2 r3 => Prod.rec (fun st2 r4 => Prod.rec (fun bc2 bs2 => K ((M2, pc2, lv2, a :: st2, bc2, bs2) :: fs2, h, sg)) r4) r3) r2) r1) f2) fs) (ok a)) (fun _ _ _ => false) r) st
variable {G PG fin}
theorem fx_ret_ok {M : ev_M} {pc : Nat} {E : ev_E} {ok : ev_A → Bool} (hat : ev_at M pc = some E) (hl : E.2.1 = 1) (hp : ∀ lv st, ev_pure (ev_mL M) E.1 lv st = none) (hb : ∀ st, ev_br pc E.2.1 E.1 st = none) (hh : ∀ h sg st bc bs, ev_hp G M E h sg st bc bs = none) (hr : ∀ a, ok a = true → ev_rok E M [a] = some (some a)) : fx_ok G PG fin M pc (fx_ret fin ok) := by
  intro F hF lv st bc bs fs h sg K hK
  cases hF
  cases st with
  | nil => cases hK
  | cons a r =>
    cases r with
    | cons a2 r2 => cases hK
    | nil =>
      dsimp only at hK
      cases ho : ok a with
      | false => rw [ho] at hK; cases hK
      | true =>
        rw [ho] at hK
        dsimp only at hK
        unfold ev_nk ev_next
        dsimp only
        rw [hat]
        dsimp only
        rw [hp]
        dsimp only
        rw [hb]
        dsimp only
        rw [hh]
        dsimp only
        rw [hr a ho]
        dsimp only
        rw [hl]
        cases fs with
        | nil =>
          have hK : fin (some a) h = true := hK
          simp [ev_back, hK]
        | cons f2 fs2 =>
          obtain ⟨M2, pc2, lv2, st2, bc2, bs2⟩ := f2
          have hK : K ((M2, pc2, lv2, a :: st2, bc2, bs2) :: fs2, h, sg) = true := hK
          simp [ev_back, hK]
variable (G PG fin)
/-- an element at a known place of an array of ints -/
noncomputable def fx_ald (M : ev_M) (pc pc' : Nat) : Option ev_K := fx_fN pc' fun pc' => some fun lv st bc bs fs h sg K => List.rec false (fun x r0 _ => List.rec false (fun y r _ => Bool.rec (ev_nk G PG fin ((M, pc, lv, st, bc, bs) :: fs, h, sg) K) (Option.rec false (fun c => Bool.rec false (fx_cgk c (fx_tn x.2.1) fun v => K ((M, pc', lv, v :: r, bc, bs) :: fs, h, sg)) (fx_and (fx_and (Nat.beq c.1 100) (Nat.ble (Nat.succ (fx_tn x.2.1)) c.2.1)) (fx_and (fx_and (Nat.beq x.1 0) (fx_eq x.2.1 x.2.2)) (fx_le 0 x.2.1)))) (fx_hg h (fx_tn y.2.1))) (Nat.beq y.1 2)) r0) st
noncomputable def fx_len (M : ev_M) (pc pc' : Nat) : Option ev_K := fx_fN pc' fun pc' => some fun lv st bc bs fs h sg K => List.rec false (fun y r _ => Bool.rec (ev_nk G PG fin ((M, pc, lv, st, bc, bs) :: fs, h, sg) K) (Option.rec false (fun c => Bool.rec false (K ((M, pc', lv, (0, Int.ofNat c.2.1, Int.ofNat c.2.1) :: r, bc, bs) :: fs, h, sg)) (fx_and (Nat.ble 100 c.1) (Nat.ble c.2.1 60000))) (fx_hg h (fx_tn y.2.1))) (Nat.beq y.1 2)) st
variable {G PG fin}
theorem fx_len_ok {M : ev_M} {pc : Nat} {E : ev_E} (hat : ev_at M pc = some E) (hi : E.1 = .arraylength) (hl : E.2.1 = 1) : fx_ok G PG fin M pc (fx_len G PG fin M pc (pc + 1)) := by
  intro F hF lv st bc bs fs h sg K hK
  unfold fx_len at hF
  rw [fx_fN_eq] at hF
  cases hF
  dsimp only at hK
  cases st with
  | nil => cases hK
  | cons y r =>
    obtain ⟨t, z, z'⟩ := y
    dsimp only at hK
    cases ht : Nat.beq t 2 with
    | false => rw [ht] at hK; exact hK
    | true =>
      rw [ht] at hK
      dsimp only at hK
      rw [fx_beq] at ht
      rw [fx_hg_eq, fx_tn_eq] at hK
      cases hc : ev_hg h z.toNat with
      | none => rw [hc] at hK; cases hK
      | some c =>
        rw [hc] at hK
        dsimp only at hK
        cases hu : fx_and (Nat.ble 100 c.1) (Nat.ble c.2.1 60000) with
        | false => rw [hu] at hK; cases hK
        | true =>
          rw [hu] at hK
          dsimp only at hK
          rw [fx_and_eq, Bool.and_eq_true, Nat.ble_eq, Nat.ble_eq] at hu
          refine fx_hp_ok (q := (h, sg, ev_I c.2.1 :: r, bc, bs)) hat (by rw [hi]; rfl) (by rw [hi]; rfl) ?_ ?_
          · unfold ev_hp
            rw [hi]
            dsimp only
            rw [hl]
            simp only [ev_hlen, ht, hc, hu, and_self, beq_self_eq_true, if_true]
          · rw [hl]; exact hK
theorem fx_ald_ok {M : ev_M} {pc : Nat} {E : ev_E} (hat : ev_at M pc = some E) (hi : E.1 = .iaload) (hl : E.2.1 = 1) (hG : ev_nth G.2.1 0 = some .int) : fx_ok G PG fin M pc (fx_ald G PG fin M pc (pc + 1)) := by
  intro F hF lv st bc bs fs h sg K hK
  unfold fx_ald at hF
  rw [fx_fN_eq] at hF
  cases hF
  dsimp only at hK
  cases st with
  | nil => cases hK
  | cons x r0 =>
    cases r0 with
    | nil => cases hK
    | cons y r =>
      obtain ⟨tx, l1, h1⟩ := x
      obtain ⟨t, z, z'⟩ := y
      dsimp only at hK
      cases ht : Nat.beq t 2 with
      | false => rw [ht] at hK; exact hK
      | true =>
        rw [ht] at hK
        dsimp only at hK
        rw [fx_beq] at ht
        rw [fx_hg_eq, fx_tn_eq z] at hK
        cases hc : ev_hg h z.toNat with
        | none => rw [hc] at hK; cases hK
        | some c =>
          rw [hc] at hK
          dsimp only at hK
          cases hu : fx_and (fx_and (Nat.beq c.1 100) (Nat.ble (Nat.succ (fx_tn l1)) c.2.1)) (fx_and (fx_and (Nat.beq tx 0) (fx_eq l1 h1)) (fx_le 0 l1)) with
          | false => rw [hu] at hK; cases hK
          | true =>
            rw [hu] at hK
            dsimp only at hK
            rw [fx_cgk_eq, fx_tn_eq] at hK
            rw [fx_and_eq, fx_and_eq, fx_and_eq, fx_and_eq, fx_beq, fx_beq, fx_eq_eq, fx_le_eq, fx_tn_eq] at hu
            simp only [Bool.and_eq_true, beq_iff_eq, decide_eq_true_eq, Nat.ble_eq] at hu
            obtain ⟨⟨u1, u2⟩, ⟨u3, u4⟩, u5⟩ := hu
            subst u3
            subst u4
            have hidx : ev_idx (0, l1, l1) = some l1.toNat := by simp [ev_idx, u5]
            have hald : ev_hald G ev_tyI h sg ((0, l1, l1) :: (t, z, z') :: r) bc bs = some [(h, sg, ev_cg c l1.toNat :: r, bc, bs)] := by
              unfold ev_hald
              dsimp only
              rw [hidx]
              dsimp only
              rw [ht]
              simp only [if_true]
              rw [hc]
              dsimp only
              rw [u1, hG]
              rw [if_pos ⟨Nat.le_refl _, u2, rfl⟩]
            refine fx_hp_ok (q := (h, sg, ev_cg c l1.toNat :: r, bc, bs)) hat (by rw [hi]; rfl) (by rw [hi]; rfl) ?_ ?_
            · unfold ev_hp
              rw [hi]
              dsimp only
              rw [hl]
              simp only [beq_self_eq_true, if_true]
              rw [hald]
              rfl
            · rw [hl]; exact hK
/-- a method of an object is called -/
noncomputable def fx_cv (M M' : ev_M) (pc' v P Y S Lm : Nat) (big : Bool) : Option ev_K := fx_fN pc' fun pc' => fx_fN v fun v => fx_fN P fun P => fx_fN Y fun Y => fx_fN S fun S => fx_fN Lm fun Lm => some fun lv st bc bs fs h sg K => fx_tk (Nat.succ P) st [] fun as r => List.rec false (fun a _ _ => Bool.rec false (Option.rec false (fun c => Bool.rec false (Bool.rec false (fx_args as 0 fun lv0 => fx_fN (bc - Y) fun bc1 => fx_fN (bs - S) fun bs1 => K ((M', 0, lv0, [], Y, S) :: (M, pc', lv, r, bc1, bs1) :: fs, h, sg)) (fx_and (fx_and (Nat.ble (fx_sz as) Lm) (Nat.ble (fx_sz r) 8)) (fx_and (Nat.ble Y bc) (Nat.ble S bs)))) (Nat.beq c.1 v)) (fx_hg h (fx_tn a.2.1))) (fx_and big (Nat.beq a.1 2))) as
theorem fx_cv_ok {M M' : ev_M} {pc idx : Nat} {E : ev_E} {big : Bool} (hat : ev_at M pc = some E) (hi : E.1 = .invokevirtual idx) (hM : ev_nth PG E.2.2.1 = some M') (hbig : big = (E.2.1 == 3 && ev_mK M' == 1 && decide (ev_mF M' + 1 ≤ ev_mF M) && decide (8 + (ev_mL M' + 11) + ev_mO M' ≤ ev_mO M))) : fx_ok G PG fin M pc (fx_cv M M' (pc + 3) E.2.2.2.1 (ev_mP M') (ev_mY M') (ev_mS M') (ev_mL M') big) := by
  intro F hF lv st bc bs fs h sg K hK
  unfold fx_cv at hF
  rw [fx_fN_eq, fx_fN_eq, fx_fN_eq, fx_fN_eq, fx_fN_eq, fx_fN_eq] at hF
  cases hF
  obtain ⟨hlen, hK⟩ := fx_tk_ok _ _ _ _ hK
  rw [List.append_nil] at hK
  have hlen2 : (st.take (ev_mP M' + 1)).reverse.length = ev_mP M' + 1 := by
    rw [List.length_reverse, List.length_take]; omega
  generalize has : (st.take (ev_mP M' + 1)).reverse = as at hK hlen2
  generalize hrr : st.drop (ev_mP M' + 1) = r at hK
  have hrr' : List.drop (ev_mP M').succ st = r := hrr
  try rw [hrr'] at hK
  cases as with
  | nil => cases hK
  | cons a as' =>
    obtain ⟨t, z, z'⟩ := a
    dsimp only at hK
    cases ht : fx_and big (Nat.beq t 2) with
    | false => rw [ht] at hK; cases hK
    | true =>
      rw [ht] at hK
      dsimp only at hK
      rw [fx_and_eq, Bool.and_eq_true, fx_beq] at ht
      rw [fx_hg_eq, fx_tn_eq] at hK
      cases hc : ev_hg h z.toNat with
      | none => rw [hc] at hK; cases hK
      | some c =>
        rw [hc] at hK
        dsimp only at hK
        cases hv : Nat.beq c.1 E.2.2.2.1 with
        | false => rw [hv] at hK; cases hK
        | true =>
          rw [hv] at hK
          dsimp only at hK
          rw [fx_beq] at hv
          cases hu : fx_and (fx_and (Nat.ble (fx_sz ((t, z, z') :: as')) (ev_mL M')) (Nat.ble (fx_sz r) 8)) (fx_and (Nat.ble (ev_mY M') bc) (Nat.ble (ev_mS M') bs)) with
          | false => rw [hu] at hK; cases hK
          | true =>
            rw [hu] at hK
            dsimp only at hK
            rw [fx_args_eq, fx_fN_eq, fx_fN_eq] at hK
            rw [fx_and_eq, fx_and_eq, fx_and_eq, fx_sz_eq, fx_sz_eq] at hu
            simp only [Bool.and_eq_true, Nat.ble_eq] at hu
            obtain ⟨⟨u1, u2⟩, u3, u4⟩ := hu
            obtain ⟨hb1, ht⟩ := ht
            rw [hbig] at hb1
            simp only [Bool.and_eq_true, decide_eq_true_eq, beq_iff_eq] at hb1
            obtain ⟨⟨⟨b1, b2⟩, b3⟩, b4⟩ := hb1
            have hok : ev_cok 1 E M M' h ((t, z, z') :: as') r bc bs = true := by
              unfold ev_cok
              simp only [ev_recv, hc, hv, ht, b1, b2, b3, b4, u1, u2, u3, u4, hlen2, Bool.and_self, decide_true, beq_self_eq_true, Bool.and_true]
              simp
            unfold ev_nk ev_next
            dsimp only
            rw [hat]
            dsimp only
            rw [hi]
            have e1 : ev_pure (ev_mL M) (.invokevirtual idx) lv st = none := rfl
            have e2 : ev_br pc E.2.1 (.invokevirtual idx) st = none := rfl
            have e3 : ev_hp G M E h sg st bc bs = none := by unfold ev_hp; rw [hi]
            have e4 : ev_rok E M st = none := by unfold ev_rok; rw [hi]
            rw [e1]
            dsimp only
            rw [e2]
            dsimp only
            rw [e3]
            dsimp only
            rw [e4]
            dsimp only
            unfold ev_cl
            rw [hM]
            have e5 : (if ((1 : Nat) == 0) = true then ev_mP M' else ev_mP M' + 1) = ev_mP M' + 1 := rfl
            dsimp only
            rw [e5, has, hrr, hok]
            simp only [if_true]
            rw [if_pos (by omega)]
            simp [hK]
end FX3
