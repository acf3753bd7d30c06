/-! methods that are functions of numbers -/
def pg_JJ (f : Int64 → Int64 → Int64) (st : List cx_V) (k : List cx_V → Prop) : Prop := match st with
  | .inr (.inl b) :: .inr (.inl a) :: r => cx_sz r ≤ 8 ∧ k (.inr (.inl (f a b)) :: r)
  | _ => False
theorem pok_JJ {Y : cx_Y} {u : Nat} {M' : ev_M} {f : Int64 → Int64 → Int64} (hu9 : u < 900) (hu : ev_pg[u]? = some M') (hP : ev_mP M' = 2) (hL : 4 ≤ ev_mL M') (hY0 : ev_mY M' = 0) (hS0 : ev_mS M' = 0) (hc : ∀ a b (h : cx_Q) (K : Option cx_V → cx_Q → Prop), K (some (.inr (.inl (f a b)))) h → cw Y M' K 0 (cx_ent (ev_mL M') [.inr (.inl a), .inr (.inl b)]) [] h 0 0) : cx_pok (ev_TT.flatten.filter goodWord) (ev_TT.flatten.filter ev_isN) ev_AO0 ev_G0 ev_TY0 ra0 ev_pg Y.1 Y.2.1 Y.2.2.1 Y.2.2.2.1 Y.2.2.2.2.1 Y.2.2.2.2.2.1 Y.2.2.2.2.2.2 u (pg_JJ f) := by
  refine ⟨hu9, fun st k hf => ?_⟩
  unfold pg_JJ at hf
  split at hf
  · rename_i b a r
    refine ⟨M', .inr (.inl (f a b)), hu, ?_, ?_, ?_, hY0, hS0, ?_, ?_⟩
    · rw [hP]; rfl
    · rw [hP]; exact hL
    · rw [hP]; exact hf.1
    · rw [hP]; exact hf.2
    · intro h K hK
      rw [hP]
      exact (hc _ _ h K hK).2
  · exact hf.elim
def pg_J (f : Int64 → Int64) (st : List cx_V) (k : List cx_V → Prop) : Prop := match st with
  | .inr (.inl a) :: r => cx_sz r ≤ 8 ∧ k (.inr (.inl (f a)) :: r)
  | _ => False
theorem pok_J {Y : cx_Y} {u : Nat} {M' : ev_M} {f : Int64 → Int64} (hu9 : u < 900) (hu : ev_pg[u]? = some M') (hP : ev_mP M' = 1) (hL : 2 ≤ ev_mL M') (hY0 : ev_mY M' = 0) (hS0 : ev_mS M' = 0) (hc : ∀ a (h : cx_Q) (K : Option cx_V → cx_Q → Prop), K (some (.inr (.inl (f a)))) h → cw Y M' K 0 (cx_ent (ev_mL M') [.inr (.inl a)]) [] h 0 0) : cx_pok (ev_TT.flatten.filter goodWord) (ev_TT.flatten.filter ev_isN) ev_AO0 ev_G0 ev_TY0 ra0 ev_pg Y.1 Y.2.1 Y.2.2.1 Y.2.2.2.1 Y.2.2.2.2.1 Y.2.2.2.2.2.1 Y.2.2.2.2.2.2 u (pg_J f) := by
  refine ⟨hu9, fun st k hf => ?_⟩
  unfold pg_J at hf
  split at hf
  · rename_i a r
    refine ⟨M', .inr (.inl (f a)), hu, ?_, ?_, ?_, hY0, hS0, ?_, ?_⟩
    · rw [hP]; rfl
    · rw [hP]; exact hL
    · rw [hP]; exact hf.1
    · rw [hP]; exact hf.2
    · intro h K hK
      rw [hP]
      exact (hc _ h K hK).2
  · exact hf.elim
def pg_IJJ (f : Int → Int64 → Int64 → Int64) (st : List cx_V) (k : List cx_V → Prop) : Prop := match st with
  | .inr (.inl b) :: .inr (.inl a) :: .inl m :: r => cx_sz r ≤ 8 ∧ k (.inr (.inl (f m a b)) :: r)
  | _ => False
theorem pok_IJJ {Y : cx_Y} {u : Nat} {M' : ev_M} {f : Int → Int64 → Int64 → Int64} (hu9 : u < 900) (hu : ev_pg[u]? = some M') (hP : ev_mP M' = 3) (hL : 5 ≤ ev_mL M') (hY0 : ev_mY M' = 0) (hS0 : ev_mS M' = 0) (hc : ∀ m a b (h : cx_Q) (K : Option cx_V → cx_Q → Prop), K (some (.inr (.inl (f m a b)))) h → cw Y M' K 0 (cx_ent (ev_mL M') [.inl m, .inr (.inl a), .inr (.inl b)]) [] h 0 0) : cx_pok (ev_TT.flatten.filter goodWord) (ev_TT.flatten.filter ev_isN) ev_AO0 ev_G0 ev_TY0 ra0 ev_pg Y.1 Y.2.1 Y.2.2.1 Y.2.2.2.1 Y.2.2.2.2.1 Y.2.2.2.2.2.1 Y.2.2.2.2.2.2 u (pg_IJJ f) := by
  refine ⟨hu9, fun st k hf => ?_⟩
  unfold pg_IJJ at hf
  split at hf
  · rename_i b a m r
    refine ⟨M', .inr (.inl (f m a b)), hu, ?_, ?_, ?_, hY0, hS0, ?_, ?_⟩
    · rw [hP]; rfl
    · rw [hP]; exact hL
    · rw [hP]; exact hf.1
    · rw [hP]; exact hf.2
    · intro h K hK
      rw [hP]
      exact (hc _ _ _ h K hK).2
  · exact hf.elim
def pg_JJJJ (f : Int64 → Int64 → Int64 → Int64 → Int64) (st : List cx_V) (k : List cx_V → Prop) : Prop := match st with
  | .inr (.inl d) :: .inr (.inl c) :: .inr (.inl b) :: .inr (.inl a) :: r => cx_sz r ≤ 8 ∧ k (.inr (.inl (f a b c d)) :: r)
  | _ => False
theorem pok_JJJJ {Y : cx_Y} {u : Nat} {M' : ev_M} {f : Int64 → Int64 → Int64 → Int64 → Int64} (hu9 : u < 900) (hu : ev_pg[u]? = some M') (hP : ev_mP M' = 4) (hL : 8 ≤ ev_mL M') (hY0 : ev_mY M' = 0) (hS0 : ev_mS M' = 0) (hc : ∀ a b c d (h : cx_Q) (K : Option cx_V → cx_Q → Prop), K (some (.inr (.inl (f a b c d)))) h → cw Y M' K 0 (cx_ent (ev_mL M') [.inr (.inl a), .inr (.inl b), .inr (.inl c), .inr (.inl d)]) [] h 0 0) : cx_pok (ev_TT.flatten.filter goodWord) (ev_TT.flatten.filter ev_isN) ev_AO0 ev_G0 ev_TY0 ra0 ev_pg Y.1 Y.2.1 Y.2.2.1 Y.2.2.2.1 Y.2.2.2.2.1 Y.2.2.2.2.2.1 Y.2.2.2.2.2.2 u (pg_JJJJ f) := by
  refine ⟨hu9, fun st k hf => ?_⟩
  unfold pg_JJJJ at hf
  split at hf
  · rename_i d c b a r
    refine ⟨M', .inr (.inl (f a b c d)), hu, ?_, ?_, ?_, hY0, hS0, ?_, ?_⟩
    · rw [hP]; rfl
    · rw [hP]; exact hL
    · rw [hP]; exact hf.1
    · rw [hP]; exact hf.2
    · intro h K hK
      rw [hP]
      exact (hc _ _ _ _ h K hK).2
  · exact hf.elim
def pf1 : cx_Pf := fun u => match u with
  | 82 => some (pg_JJ f_mix)
  | 76 => some (pg_IJJ f_key)
  | 106 => some (pg_JJ f_times)
  | 107 => some (pg_JJ f_timesQ)
  | 88 => some (pg_JJ f_power)
  | 55 => some (pg_JJ f_common)
  | 83 => some (pg_J f_modQ)
  | 46 => some (pg_J f_asSecret)
  | 103 => some (pg_JJJJ f_sum)
  | _ => none
theorem pf1_ok {Y : cx_Y} (hY : cY Y) : cPf pf1 Y := by
  intro u f hf
  unfold pf1 at hf
  split at hf
  · cases hf
    exact pok_JJ (by decide) (M' := mi_X11_mix) rfl rfl (Nat.le_of_ble_eq_true rfl) rfl rfl (fun a b h K hK => c_X11_mix hY hK)
  · cases hf
    exact pok_IJJ (by decide) (M' := mi_X11_key) rfl rfl (Nat.le_of_ble_eq_true rfl) rfl rfl (fun m a b h K hK => c_X11_key hY hK)
  · cases hf
    exact pok_JJ (by decide) (M' := mi_X11_times) rfl rfl (Nat.le_of_ble_eq_true rfl) rfl rfl (fun a b h K hK => c_X11_times hY hK)
  · cases hf
    exact pok_JJ (by decide) (M' := mi_X11_timesQ) rfl rfl (Nat.le_of_ble_eq_true rfl) rfl rfl (fun a b h K hK => c_X11_timesQ hY hK)
  · cases hf
    exact pok_JJ (by decide) (M' := mi_X11_power) rfl rfl (Nat.le_of_ble_eq_true rfl) rfl rfl (fun a b h K hK => c_X11_power hY hK)
  · cases hf
    exact pok_JJ (by decide) (M' := mi_X11_common) rfl rfl (Nat.le_of_ble_eq_true rfl) rfl rfl (fun a b h K hK => c_X11_common hY hK)
  · cases hf
    exact pok_J (by decide) (M' := mi_X11_modQ) rfl rfl (Nat.le_of_ble_eq_true rfl) rfl rfl (fun a h K hK => c_X11_modQ hY hK)
  · cases hf
    exact pok_J (by decide) (M' := mi_X11_asSecret) rfl rfl (Nat.le_of_ble_eq_true rfl) rfl rfl (fun a h K hK => c_X11_asSecret hY hK)
  · cases hf
    exact pok_JJJJ (by decide) (M' := mi_X11_sumOf) rfl rfl (Nat.le_of_ble_eq_true rfl) rfl rfl (fun a b c d h K hK => c_X11_sumOf hY hK)
  · cases hf
theorem wf_X11_mix {ra : cx_A} {mF mO : Nat} {ty : Option FieldType} {J : cx_J} {C : cx_Cl} {P : Option cx_V → cx_Q → Prop} {len w : Nat} {z : Int} {l : List ev_E} {pc : Nat} {lv : cx_L} {r : List cx_V} {h : cx_Q} {bc bs n : Nat} {a : Int64} {b : Int64} : cx_wp ra pf1 mF mO ty J C P ((.invokestatic n, len, 82, w, z) :: l) pc lv (.inr (.inl b) :: .inr (.inl a) :: r) h bc bs = (cx_sz r ≤ 8 ∧ cx_wp ra pf1 mF mO ty J C P l (pc + len) lv (.inr (.inl (f_mix a b)) :: r) h bc bs) := by
  rw [wp_stat (by decide) (by decide)]
  rfl
theorem wf_X11_key {ra : cx_A} {mF mO : Nat} {ty : Option FieldType} {J : cx_J} {C : cx_Cl} {P : Option cx_V → cx_Q → Prop} {len w : Nat} {z : Int} {l : List ev_E} {pc : Nat} {lv : cx_L} {r : List cx_V} {h : cx_Q} {bc bs n : Nat} {m : Int} {a : Int64} {b : Int64} : cx_wp ra pf1 mF mO ty J C P ((.invokestatic n, len, 76, w, z) :: l) pc lv (.inr (.inl b) :: .inr (.inl a) :: .inl m :: r) h bc bs = (cx_sz r ≤ 8 ∧ cx_wp ra pf1 mF mO ty J C P l (pc + len) lv (.inr (.inl (f_key m a b)) :: r) h bc bs) := by
  rw [wp_stat (by decide) (by decide)]
  rfl
theorem wf_X11_times {ra : cx_A} {mF mO : Nat} {ty : Option FieldType} {J : cx_J} {C : cx_Cl} {P : Option cx_V → cx_Q → Prop} {len w : Nat} {z : Int} {l : List ev_E} {pc : Nat} {lv : cx_L} {r : List cx_V} {h : cx_Q} {bc bs n : Nat} {a : Int64} {b : Int64} : cx_wp ra pf1 mF mO ty J C P ((.invokestatic n, len, 106, w, z) :: l) pc lv (.inr (.inl b) :: .inr (.inl a) :: r) h bc bs = (cx_sz r ≤ 8 ∧ cx_wp ra pf1 mF mO ty J C P l (pc + len) lv (.inr (.inl (f_times a b)) :: r) h bc bs) := by
  rw [wp_stat (by decide) (by decide)]
  rfl
theorem wf_X11_timesQ {ra : cx_A} {mF mO : Nat} {ty : Option FieldType} {J : cx_J} {C : cx_Cl} {P : Option cx_V → cx_Q → Prop} {len w : Nat} {z : Int} {l : List ev_E} {pc : Nat} {lv : cx_L} {r : List cx_V} {h : cx_Q} {bc bs n : Nat} {a : Int64} {b : Int64} : cx_wp ra pf1 mF mO ty J C P ((.invokestatic n, len, 107, w, z) :: l) pc lv (.inr (.inl b) :: .inr (.inl a) :: r) h bc bs = (cx_sz r ≤ 8 ∧ cx_wp ra pf1 mF mO ty J C P l (pc + len) lv (.inr (.inl (f_timesQ a b)) :: r) h bc bs) := by
  rw [wp_stat (by decide) (by decide)]
  rfl
theorem wf_X11_power {ra : cx_A} {mF mO : Nat} {ty : Option FieldType} {J : cx_J} {C : cx_Cl} {P : Option cx_V → cx_Q → Prop} {len w : Nat} {z : Int} {l : List ev_E} {pc : Nat} {lv : cx_L} {r : List cx_V} {h : cx_Q} {bc bs n : Nat} {a : Int64} {b : Int64} : cx_wp ra pf1 mF mO ty J C P ((.invokestatic n, len, 88, w, z) :: l) pc lv (.inr (.inl b) :: .inr (.inl a) :: r) h bc bs = (cx_sz r ≤ 8 ∧ cx_wp ra pf1 mF mO ty J C P l (pc + len) lv (.inr (.inl (f_power a b)) :: r) h bc bs) := by
  rw [wp_stat (by decide) (by decide)]
  rfl
theorem wf_X11_common {ra : cx_A} {mF mO : Nat} {ty : Option FieldType} {J : cx_J} {C : cx_Cl} {P : Option cx_V → cx_Q → Prop} {len w : Nat} {z : Int} {l : List ev_E} {pc : Nat} {lv : cx_L} {r : List cx_V} {h : cx_Q} {bc bs n : Nat} {a : Int64} {b : Int64} : cx_wp ra pf1 mF mO ty J C P ((.invokestatic n, len, 55, w, z) :: l) pc lv (.inr (.inl b) :: .inr (.inl a) :: r) h bc bs = (cx_sz r ≤ 8 ∧ cx_wp ra pf1 mF mO ty J C P l (pc + len) lv (.inr (.inl (f_common a b)) :: r) h bc bs) := by
  rw [wp_stat (by decide) (by decide)]
  rfl
theorem wf_X11_modQ {ra : cx_A} {mF mO : Nat} {ty : Option FieldType} {J : cx_J} {C : cx_Cl} {P : Option cx_V → cx_Q → Prop} {len w : Nat} {z : Int} {l : List ev_E} {pc : Nat} {lv : cx_L} {r : List cx_V} {h : cx_Q} {bc bs n : Nat} {a : Int64} : cx_wp ra pf1 mF mO ty J C P ((.invokestatic n, len, 83, w, z) :: l) pc lv (.inr (.inl a) :: r) h bc bs = (cx_sz r ≤ 8 ∧ cx_wp ra pf1 mF mO ty J C P l (pc + len) lv (.inr (.inl (f_modQ a)) :: r) h bc bs) := by
  rw [wp_stat (by decide) (by decide)]
  rfl
theorem wf_X11_asSecret {ra : cx_A} {mF mO : Nat} {ty : Option FieldType} {J : cx_J} {C : cx_Cl} {P : Option cx_V → cx_Q → Prop} {len w : Nat} {z : Int} {l : List ev_E} {pc : Nat} {lv : cx_L} {r : List cx_V} {h : cx_Q} {bc bs n : Nat} {a : Int64} : cx_wp ra pf1 mF mO ty J C P ((.invokestatic n, len, 46, w, z) :: l) pc lv (.inr (.inl a) :: r) h bc bs = (cx_sz r ≤ 8 ∧ cx_wp ra pf1 mF mO ty J C P l (pc + len) lv (.inr (.inl (f_asSecret a)) :: r) h bc bs) := by
  rw [wp_stat (by decide) (by decide)]
  rfl
theorem wf_X11_sumOf {ra : cx_A} {mF mO : Nat} {ty : Option FieldType} {J : cx_J} {C : cx_Cl} {P : Option cx_V → cx_Q → Prop} {len w : Nat} {z : Int} {l : List ev_E} {pc : Nat} {lv : cx_L} {r : List cx_V} {h : cx_Q} {bc bs n : Nat} {a : Int64} {b : Int64} {c : Int64} {d : Int64} : cx_wp ra pf1 mF mO ty J C P ((.invokestatic n, len, 103, w, z) :: l) pc lv (.inr (.inl d) :: .inr (.inl c) :: .inr (.inl b) :: .inr (.inl a) :: r) h bc bs = (cx_sz r ≤ 8 ∧ cx_wp ra pf1 mF mO ty J C P l (pc + len) lv (.inr (.inl (f_sum a b c d)) :: r) h bc bs) := by
  rw [wp_stat (by decide) (by decide)]
  rfl
