/-! methods of the class that are functions of numbers -/
def pg_JI (f : Int64 → Int) (st : List cx_V) (k : List cx_V → Prop) : Prop := match st with
  | .inr (.inl a) :: r => cx_sz r ≤ 8 ∧ k (.inl (f a) :: r)
  | _ => False
theorem pok_JI {Y : cx_Y} {u : Nat} {M' : ev_M} {f : Int64 → Int} (hu9 : u < 900) (hu : ev_pg[u]? = some M') (hP : ev_mP M' = 1) (hL : 2 ≤ ev_mL M') (hY0 : ev_mY M' = 0) (hS0 : ev_mS M' = 0) (hc : ∀ a (h : cx_Q) (K : Option cx_V → cx_Q → Prop), K (some (.inl (f a))) h → cw Y M' K 0 (cx_ent (ev_mL M') [.inr (.inl a)]) [] h 0 0) : cx_pok (ev_TT.flatten.filter goodWord) (ev_TT.flatten.filter ev_isN) ev_AO0 ev_G0 ev_TY0 ra0 ev_pg Y.1 Y.2.1 Y.2.2.1 Y.2.2.2.1 Y.2.2.2.2.1 Y.2.2.2.2.2.1 Y.2.2.2.2.2.2 u (pg_JI f) := by
  refine ⟨hu9, fun st k hf => ?_⟩
  unfold pg_JI at hf
  split at hf
  · rename_i a r
    refine ⟨M', .inl (f a), hu, ?_, ?_, ?_, hY0, hS0, ?_, ?_⟩
    · rw [hP]; rfl
    · rw [hP]; exact hL
    · rw [hP]; exact hf.1
    · rw [hP]; exact hf.2
    · intro h K hK
      rw [hP]
      exact (hc _ h K hK).2
  · exact hf.elim
def pg_JmI (f : Int64 → Int → Int) (st : List cx_V) (k : List cx_V → Prop) : Prop := match st with
  | .inl m :: .inr (.inl a) :: r => cx_sz r ≤ 8 ∧ k (.inl (f a m) :: r)
  | _ => False
theorem pok_JmI {Y : cx_Y} {u : Nat} {M' : ev_M} {f : Int64 → Int → Int} (hu9 : u < 900) (hu : ev_pg[u]? = some M') (hP : ev_mP M' = 2) (hL : 3 ≤ ev_mL M') (hY0 : ev_mY M' = 0) (hS0 : ev_mS M' = 0) (hc : ∀ a m (h : cx_Q) (K : Option cx_V → cx_Q → Prop), K (some (.inl (f a m))) h → cw Y M' K 0 (cx_ent (ev_mL M') [.inr (.inl a), .inl m]) [] h 0 0) : cx_pok (ev_TT.flatten.filter goodWord) (ev_TT.flatten.filter ev_isN) ev_AO0 ev_G0 ev_TY0 ra0 ev_pg Y.1 Y.2.1 Y.2.2.1 Y.2.2.2.1 Y.2.2.2.2.1 Y.2.2.2.2.2.1 Y.2.2.2.2.2.2 u (pg_JmI f) := by
  refine ⟨hu9, fun st k hf => ?_⟩
  unfold pg_JmI at hf
  split at hf
  · rename_i m a r
    refine ⟨M', .inl (f a m), hu, ?_, ?_, ?_, hY0, hS0, ?_, ?_⟩
    · rw [hP]; rfl
    · rw [hP]; exact hL
    · rw [hP]; exact hf.1
    · rw [hP]; exact hf.2
    · intro h K hK
      rw [hP]
      exact (hc _ _ h K hK).2
  · exact hf.elim
def pg_JJJJI (f : Int64 → Int64 → Int64 → Int64 → Int) (st : List cx_V) (k : List cx_V → Prop) : Prop := match st with
  | .inr (.inl d) :: .inr (.inl c) :: .inr (.inl b) :: .inr (.inl a) :: r => cx_sz r ≤ 8 ∧ k (.inl (f a b c d) :: r)
  | _ => False
theorem pok_JJJJI {Y : cx_Y} {u : Nat} {M' : ev_M} {f : Int64 → Int64 → Int64 → Int64 → Int} (hu9 : u < 900) (hu : ev_pg[u]? = some M') (hP : ev_mP M' = 4) (hL : 8 ≤ ev_mL M') (hY0 : ev_mY M' = 0) (hS0 : ev_mS M' = 0) (hc : ∀ a b c d (h : cx_Q) (K : Option cx_V → cx_Q → Prop), K (some (.inl (f a b c d))) h → cw Y M' K 0 (cx_ent (ev_mL M') [.inr (.inl a), .inr (.inl b), .inr (.inl c), .inr (.inl d)]) [] h 0 0) : cx_pok (ev_TT.flatten.filter goodWord) (ev_TT.flatten.filter ev_isN) ev_AO0 ev_G0 ev_TY0 ra0 ev_pg Y.1 Y.2.1 Y.2.2.1 Y.2.2.2.1 Y.2.2.2.2.1 Y.2.2.2.2.2.1 Y.2.2.2.2.2.2 u (pg_JJJJI f) := by
  refine ⟨hu9, fun st k hf => ?_⟩
  unfold pg_JJJJI at hf
  split at hf
  · rename_i d c b a r
    refine ⟨M', .inl (f a b c d), hu, ?_, ?_, ?_, hY0, hS0, ?_, ?_⟩
    · rw [hP]; rfl
    · rw [hP]; exact hL
    · rw [hP]; exact hf.1
    · rw [hP]; exact hf.2
    · intro h K hK
      rw [hP]
      exact (hc _ _ _ _ h K hK).2
  · exact hf.elim
def pf2 : cx_Pf := fun u => match u with
  | 125 => some (pg_JJ f_mix)
  | 123 => some (pg_IJJ f_key)
  | 135 => some (pg_JJ g_times)
  | 136 => some (pg_JJ g_timesQ)
  | 127 => some (pg_JJ g_power)
  | 128 => some (pg_JJ g_rest)
  | 132 => some (pg_J g_secretOf)
  | 131 => some (pg_JJ g_sealSum)
  | 133 => some (pg_JJJJ f_sum)
  | 124 => some (pg_J g_letterKey)
  | 126 => some (pg_J g_nextOf)
  | 122 => some (pg_JI g_isOpen)
  | 137 => some (pg_JmI g_veil)
  | 129 => some (pg_JJJJI g_sealRight)
  | _ => none
theorem pf2_ok {Y : cx_Y} (hY : cY Y) : cPf pf2 Y := by
  intro u f hf
  unfold pf2 at hf
  split at hf
  · cases hf
    exact pok_JJ (by decide) (M' := mi_X3_mix) rfl rfl (Nat.le_of_ble_eq_true rfl) rfl rfl (fun a b h K hK => c_X3_mix hY hK)
  · cases hf
    exact pok_IJJ (by decide) (M' := mi_X3_key) rfl rfl (Nat.le_of_ble_eq_true rfl) rfl rfl (fun m a b h K hK => c_X3_key hY hK)
  · cases hf
    exact pok_JJ (by decide) (M' := mi_X3_times) rfl rfl (Nat.le_of_ble_eq_true rfl) rfl rfl (fun a b h K hK => c_X3_times hY hK)
  · cases hf
    exact pok_JJ (by decide) (M' := mi_X3_timesModuloQ) rfl rfl (Nat.le_of_ble_eq_true rfl) rfl rfl (fun a b h K hK => c_X3_timesModuloQ hY hK)
  · cases hf
    exact pok_JJ (by decide) (M' := mi_X3_power) rfl rfl (Nat.le_of_ble_eq_true rfl) rfl rfl (fun a b h K hK => c_X3_power hY hK)
  · cases hf
    exact pok_JJ (by decide) (M' := mi_X3_rest) rfl rfl (Nat.le_of_ble_eq_true rfl) rfl rfl (fun a b h K hK => c_X3_rest hY hK)
  · cases hf
    exact pok_J (by decide) (M' := mi_X3_secretOf) rfl rfl (Nat.le_of_ble_eq_true rfl) rfl rfl (fun a h K hK => c_X3_secretOf hY hK)
  · cases hf
    exact pok_JJ (by decide) (M' := mi_X3_sealSum) rfl rfl (Nat.le_of_ble_eq_true rfl) rfl rfl (fun a b h K hK => c_X3_sealSum hY hK)
  · cases hf
    exact pok_JJJJ (by decide) (M' := mi_X3_sum) rfl rfl (Nat.le_of_ble_eq_true rfl) rfl rfl (fun a b c d h K hK => c_X3_sum hY hK)
  · cases hf
    exact pok_J (by decide) (M' := mi_X3_letterKey) rfl rfl (Nat.le_of_ble_eq_true rfl) rfl rfl (fun a h K hK => c_X3_letterKey hY hK)
  · cases hf
    exact pok_J (by decide) (M' := mi_X3_nextOf) rfl rfl (Nat.le_of_ble_eq_true rfl) rfl rfl (fun a h K hK => c_X3_nextOf hY hK)
  · cases hf
    exact pok_JI (by decide) (M' := mi_X3_isOpen) rfl rfl (Nat.le_of_ble_eq_true rfl) rfl rfl (fun a h K hK => c_X3_isOpen hY hK)
  · cases hf
    exact pok_JmI (by decide) (M' := mi_X3_veil) rfl rfl (Nat.le_of_ble_eq_true rfl) rfl rfl (fun a m h K hK => c_X3_veil hY hK)
  · cases hf
    exact pok_JJJJI (by decide) (M' := mi_X3_sealIsRight) rfl rfl (Nat.le_of_ble_eq_true rfl) rfl rfl (fun a b c d h K hK => c_X3_sealIsRight hY hK)
  · cases hf
theorem wf_X3_mix {ra : cx_A} {mF mO : Nat} {ty : Option FieldType} {J : cx_J} {C : cx_Cl} {P : Option cx_V → cx_Q → Prop} {len w : Nat} {z : Int} {l : List ev_E} {pc : Nat} {lv : cx_L} {r : List cx_V} {h : cx_Q} {bc bs n : Nat} {a : Int64} {b : Int64} : cx_wp ra pf2 mF mO ty J C P ((.invokestatic n, len, 125, w, z) :: l) pc lv (.inr (.inl b) :: .inr (.inl a) :: r) h bc bs = (cx_sz r ≤ 8 ∧ cx_wp ra pf2 mF mO ty J C P l (pc + len) lv (.inr (.inl (f_mix a b)) :: r) h bc bs) := by
  rw [wp_stat (by decide) (by decide)]
  rfl
theorem wf_X3_key {ra : cx_A} {mF mO : Nat} {ty : Option FieldType} {J : cx_J} {C : cx_Cl} {P : Option cx_V → cx_Q → Prop} {len w : Nat} {z : Int} {l : List ev_E} {pc : Nat} {lv : cx_L} {r : List cx_V} {h : cx_Q} {bc bs n : Nat} {m : Int} {a : Int64} {b : Int64} : cx_wp ra pf2 mF mO ty J C P ((.invokestatic n, len, 123, w, z) :: l) pc lv (.inr (.inl b) :: .inr (.inl a) :: .inl m :: r) h bc bs = (cx_sz r ≤ 8 ∧ cx_wp ra pf2 mF mO ty J C P l (pc + len) lv (.inr (.inl (f_key m a b)) :: r) h bc bs) := by
  rw [wp_stat (by decide) (by decide)]
  rfl
theorem wf_X3_times {ra : cx_A} {mF mO : Nat} {ty : Option FieldType} {J : cx_J} {C : cx_Cl} {P : Option cx_V → cx_Q → Prop} {len w : Nat} {z : Int} {l : List ev_E} {pc : Nat} {lv : cx_L} {r : List cx_V} {h : cx_Q} {bc bs n : Nat} {a : Int64} {b : Int64} : cx_wp ra pf2 mF mO ty J C P ((.invokestatic n, len, 135, w, z) :: l) pc lv (.inr (.inl b) :: .inr (.inl a) :: r) h bc bs = (cx_sz r ≤ 8 ∧ cx_wp ra pf2 mF mO ty J C P l (pc + len) lv (.inr (.inl (g_times a b)) :: r) h bc bs) := by
  rw [wp_stat (by decide) (by decide)]
  rfl
theorem wf_X3_timesModuloQ {ra : cx_A} {mF mO : Nat} {ty : Option FieldType} {J : cx_J} {C : cx_Cl} {P : Option cx_V → cx_Q → Prop} {len w : Nat} {z : Int} {l : List ev_E} {pc : Nat} {lv : cx_L} {r : List cx_V} {h : cx_Q} {bc bs n : Nat} {a : Int64} {b : Int64} : cx_wp ra pf2 mF mO ty J C P ((.invokestatic n, len, 136, w, z) :: l) pc lv (.inr (.inl b) :: .inr (.inl a) :: r) h bc bs = (cx_sz r ≤ 8 ∧ cx_wp ra pf2 mF mO ty J C P l (pc + len) lv (.inr (.inl (g_timesQ a b)) :: r) h bc bs) := by
  rw [wp_stat (by decide) (by decide)]
  rfl
theorem wf_X3_power {ra : cx_A} {mF mO : Nat} {ty : Option FieldType} {J : cx_J} {C : cx_Cl} {P : Option cx_V → cx_Q → Prop} {len w : Nat} {z : Int} {l : List ev_E} {pc : Nat} {lv : cx_L} {r : List cx_V} {h : cx_Q} {bc bs n : Nat} {a : Int64} {b : Int64} : cx_wp ra pf2 mF mO ty J C P ((.invokestatic n, len, 127, w, z) :: l) pc lv (.inr (.inl b) :: .inr (.inl a) :: r) h bc bs = (cx_sz r ≤ 8 ∧ cx_wp ra pf2 mF mO ty J C P l (pc + len) lv (.inr (.inl (g_power a b)) :: r) h bc bs) := by
  rw [wp_stat (by decide) (by decide)]
  rfl
theorem wf_X3_rest {ra : cx_A} {mF mO : Nat} {ty : Option FieldType} {J : cx_J} {C : cx_Cl} {P : Option cx_V → cx_Q → Prop} {len w : Nat} {z : Int} {l : List ev_E} {pc : Nat} {lv : cx_L} {r : List cx_V} {h : cx_Q} {bc bs n : Nat} {a : Int64} {b : Int64} : cx_wp ra pf2 mF mO ty J C P ((.invokestatic n, len, 128, w, z) :: l) pc lv (.inr (.inl b) :: .inr (.inl a) :: r) h bc bs = (cx_sz r ≤ 8 ∧ cx_wp ra pf2 mF mO ty J C P l (pc + len) lv (.inr (.inl (g_rest a b)) :: r) h bc bs) := by
  rw [wp_stat (by decide) (by decide)]
  rfl
theorem wf_X3_secretOf {ra : cx_A} {mF mO : Nat} {ty : Option FieldType} {J : cx_J} {C : cx_Cl} {P : Option cx_V → cx_Q → Prop} {len w : Nat} {z : Int} {l : List ev_E} {pc : Nat} {lv : cx_L} {r : List cx_V} {h : cx_Q} {bc bs n : Nat} {a : Int64} : cx_wp ra pf2 mF mO ty J C P ((.invokestatic n, len, 132, w, z) :: l) pc lv (.inr (.inl a) :: r) h bc bs = (cx_sz r ≤ 8 ∧ cx_wp ra pf2 mF mO ty J C P l (pc + len) lv (.inr (.inl (g_secretOf a)) :: r) h bc bs) := by
  rw [wp_stat (by decide) (by decide)]
  rfl
theorem wf_X3_sealSum {ra : cx_A} {mF mO : Nat} {ty : Option FieldType} {J : cx_J} {C : cx_Cl} {P : Option cx_V → cx_Q → Prop} {len w : Nat} {z : Int} {l : List ev_E} {pc : Nat} {lv : cx_L} {r : List cx_V} {h : cx_Q} {bc bs n : Nat} {a : Int64} {b : Int64} : cx_wp ra pf2 mF mO ty J C P ((.invokestatic n, len, 131, w, z) :: l) pc lv (.inr (.inl b) :: .inr (.inl a) :: r) h bc bs = (cx_sz r ≤ 8 ∧ cx_wp ra pf2 mF mO ty J C P l (pc + len) lv (.inr (.inl (g_sealSum a b)) :: r) h bc bs) := by
  rw [wp_stat (by decide) (by decide)]
  rfl
theorem wf_X3_sum {ra : cx_A} {mF mO : Nat} {ty : Option FieldType} {J : cx_J} {C : cx_Cl} {P : Option cx_V → cx_Q → Prop} {len w : Nat} {z : Int} {l : List ev_E} {pc : Nat} {lv : cx_L} {r : List cx_V} {h : cx_Q} {bc bs n : Nat} {a : Int64} {b : Int64} {c : Int64} {d : Int64} : cx_wp ra pf2 mF mO ty J C P ((.invokestatic n, len, 133, w, z) :: l) pc lv (.inr (.inl d) :: .inr (.inl c) :: .inr (.inl b) :: .inr (.inl a) :: r) h bc bs = (cx_sz r ≤ 8 ∧ cx_wp ra pf2 mF mO ty J C P l (pc + len) lv (.inr (.inl (f_sum a b c d)) :: r) h bc bs) := by
  rw [wp_stat (by decide) (by decide)]
  rfl
theorem wf_X3_letterKey {ra : cx_A} {mF mO : Nat} {ty : Option FieldType} {J : cx_J} {C : cx_Cl} {P : Option cx_V → cx_Q → Prop} {len w : Nat} {z : Int} {l : List ev_E} {pc : Nat} {lv : cx_L} {r : List cx_V} {h : cx_Q} {bc bs n : Nat} {a : Int64} : cx_wp ra pf2 mF mO ty J C P ((.invokestatic n, len, 124, w, z) :: l) pc lv (.inr (.inl a) :: r) h bc bs = (cx_sz r ≤ 8 ∧ cx_wp ra pf2 mF mO ty J C P l (pc + len) lv (.inr (.inl (g_letterKey a)) :: r) h bc bs) := by
  rw [wp_stat (by decide) (by decide)]
  rfl
theorem wf_X3_nextOf {ra : cx_A} {mF mO : Nat} {ty : Option FieldType} {J : cx_J} {C : cx_Cl} {P : Option cx_V → cx_Q → Prop} {len w : Nat} {z : Int} {l : List ev_E} {pc : Nat} {lv : cx_L} {r : List cx_V} {h : cx_Q} {bc bs n : Nat} {a : Int64} : cx_wp ra pf2 mF mO ty J C P ((.invokestatic n, len, 126, w, z) :: l) pc lv (.inr (.inl a) :: r) h bc bs = (cx_sz r ≤ 8 ∧ cx_wp ra pf2 mF mO ty J C P l (pc + len) lv (.inr (.inl (g_nextOf a)) :: r) h bc bs) := by
  rw [wp_stat (by decide) (by decide)]
  rfl
theorem wf_X3_isOpen {ra : cx_A} {mF mO : Nat} {ty : Option FieldType} {J : cx_J} {C : cx_Cl} {P : Option cx_V → cx_Q → Prop} {len w : Nat} {z : Int} {l : List ev_E} {pc : Nat} {lv : cx_L} {r : List cx_V} {h : cx_Q} {bc bs n : Nat} {a : Int64} : cx_wp ra pf2 mF mO ty J C P ((.invokestatic n, len, 122, w, z) :: l) pc lv (.inr (.inl a) :: r) h bc bs = (cx_sz r ≤ 8 ∧ cx_wp ra pf2 mF mO ty J C P l (pc + len) lv (.inl (g_isOpen a) :: r) h bc bs) := by
  rw [wp_stat (by decide) (by decide)]
  rfl
theorem wf_X3_veil {ra : cx_A} {mF mO : Nat} {ty : Option FieldType} {J : cx_J} {C : cx_Cl} {P : Option cx_V → cx_Q → Prop} {len w : Nat} {z : Int} {l : List ev_E} {pc : Nat} {lv : cx_L} {r : List cx_V} {h : cx_Q} {bc bs n : Nat} {a : Int64} {m : Int} : cx_wp ra pf2 mF mO ty J C P ((.invokestatic n, len, 137, w, z) :: l) pc lv (.inl m :: .inr (.inl a) :: r) h bc bs = (cx_sz r ≤ 8 ∧ cx_wp ra pf2 mF mO ty J C P l (pc + len) lv (.inl (g_veil a m) :: r) h bc bs) := by
  rw [wp_stat (by decide) (by decide)]
  rfl
theorem wf_X3_sealIsRight {ra : cx_A} {mF mO : Nat} {ty : Option FieldType} {J : cx_J} {C : cx_Cl} {P : Option cx_V → cx_Q → Prop} {len w : Nat} {z : Int} {l : List ev_E} {pc : Nat} {lv : cx_L} {r : List cx_V} {h : cx_Q} {bc bs n : Nat} {a : Int64} {b : Int64} {c : Int64} {d : Int64} : cx_wp ra pf2 mF mO ty J C P ((.invokestatic n, len, 129, w, z) :: l) pc lv (.inr (.inl d) :: .inr (.inl c) :: .inr (.inl b) :: .inr (.inl a) :: r) h bc bs = (cx_sz r ≤ 8 ∧ cx_wp ra pf2 mF mO ty J C P l (pc + len) lv (.inl (g_sealRight a b c d) :: r) h bc bs) := by
  rw [wp_stat (by decide) (by decide)]
  rfl
