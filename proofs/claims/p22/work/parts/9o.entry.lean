theorem ev_TT_in : ∀ w ∈ ev_TT.flatten, w ∈ lw_tbl := by
  intro w hw
  obtain ⟨l, h1, h2⟩ := List.mem_flatten.mp hw
  have h1 : l ∈ [k2_sels lw_privs, tables_1_1, tables_1_2, tables_1_3, tables_1_4, tables_1_5, tables_1_6, tables_1_7] := h1
  show w ∈ k2_sels lw_privs ++ (tables_1_1 ++ (tables_1_2 ++ (tables_1_3 ++ (tables_1_4 ++ (tables_1_5 ++ (tables_1_6 ++ (tables_1_7)))))))
  simp only [List.mem_cons, List.not_mem_nil, or_false] at h1
  simp only [List.mem_append]
  rcases h1 with rfl | rfl | rfl | rfl | rfl | rfl | rfl | rfl <;> simp [h2]
set_option maxRecDepth 100000 in
theorem ev_insW0 : Cond.instantiable RX0 16 ∈ ev_TT.flatten.filter goodWord := ev_inps [1025] (ws := [.instantiable RX0 16]) (by decide +kernel) (by decide +kernel) _ (List.mem_singleton.mpr rfl)
set_option maxRecDepth 100000 in
theorem ev_insW1 : Cond.instantiable RX1 5 ∈ ev_TT.flatten.filter goodWord := ev_inps [3006] (ws := [.instantiable RX1 5]) (by decide +kernel) (by decide +kernel) _ (List.mem_singleton.mpr rfl)
set_option maxRecDepth 100000 in
theorem ev_insW2 : Cond.instantiable RX2 4 ∈ ev_TT.flatten.filter goodWord := ev_inps [3151] (ws := [.instantiable RX2 4]) (by decide +kernel) (by decide +kernel) _ (List.mem_singleton.mpr rfl)
set_option maxRecDepth 100000 in
theorem ev_insW3 : Cond.instantiable RX4 8 ∈ ev_TT.flatten.filter goodWord := ev_inps [1093] (ws := [.instantiable RX4 8]) (by decide +kernel) (by decide +kernel) _ (List.mem_singleton.mpr rfl)
set_option maxRecDepth 100000 in
theorem ev_insW4 : Cond.instantiable RX5 17 ∈ ev_TT.flatten.filter goodWord := ev_inps [1165] (ws := [.instantiable RX5 17]) (by decide +kernel) (by decide +kernel) _ (List.mem_singleton.mpr rfl)
set_option maxRecDepth 100000 in
theorem ev_insW5 : Cond.instantiable RX6 2 ∈ ev_TT.flatten.filter goodWord := ev_inps [1173] (ws := [.instantiable RX6 2]) (by decide +kernel) (by decide +kernel) _ (List.mem_singleton.mpr rfl)
set_option maxRecDepth 100000 in
theorem ev_insW6 : Cond.instantiable RX7 4 ∈ ev_TT.flatten.filter goodWord := ev_inps [2105] (ws := [.instantiable RX7 4]) (by decide +kernel) (by decide +kernel) _ (List.mem_singleton.mpr rfl)
set_option maxRecDepth 100000 in
theorem ev_insW7 : Cond.instantiable RX8 20 ∈ ev_TT.flatten.filter goodWord := ev_inps [3000] (ws := [.instantiable RX8 20]) (by decide +kernel) (by decide +kernel) _ (List.mem_singleton.mpr rfl)
set_option maxRecDepth 100000 in
theorem ev_insW8 : Cond.instantiable RX9 7 ∈ ev_TT.flatten.filter goodWord := ev_inps [1126] (ws := [.instantiable RX9 7]) (by decide +kernel) (by decide +kernel) _ (List.mem_singleton.mpr rfl)
set_option maxRecDepth 100000 in
theorem ev_insW9 : Cond.instantiable RX10 15 ∈ ev_TT.flatten.filter goodWord := ev_inps [1015] (ws := [.instantiable RX10 15]) (by decide +kernel) (by decide +kernel) _ (List.mem_singleton.mpr rfl)
set_option maxRecDepth 100000 in
theorem ev_insW10 : Cond.instantiable RX11 87 ∈ ev_TT.flatten.filter goodWord := ev_inps [4221] (ws := [.instantiable RX11 87]) (by decide +kernel) (by decide +kernel) _ (List.mem_singleton.mpr rfl)
theorem ev_ins0 : ∀ (ci : Nat) (C : String) (T : u_T) (N : Nat), ev_cl0[ci]? = some (C, T, N) → Cond.instantiable C N ∈ ev_TT.flatten.filter goodWord := by
  intro ci C T N h
  match ci, h with
  | 0, h =>
    have h : some (RX0, TX0, 16) = some (C, T, N) := h
    cases h
    exact ev_insW0
  | 1, h =>
    have h : some (RX1, TX1, 5) = some (C, T, N) := h
    cases h
    exact ev_insW1
  | 2, h =>
    have h : some (RX2, TX2, 4) = some (C, T, N) := h
    cases h
    exact ev_insW2
  | 3, h =>
    have h : some (RX4, TX4, 8) = some (C, T, N) := h
    cases h
    exact ev_insW3
  | 4, h =>
    have h : some (RX5, TX5, 17) = some (C, T, N) := h
    cases h
    exact ev_insW4
  | 5, h =>
    have h : some (RX6, TX6, 2) = some (C, T, N) := h
    cases h
    exact ev_insW5
  | 6, h =>
    have h : some (RX7, TX7, 4) = some (C, T, N) := h
    cases h
    exact ev_insW6
  | 7, h =>
    have h : some (RX8, TX8, 20) = some (C, T, N) := h
    cases h
    exact ev_insW7
  | 8, h =>
    have h : some (RX9, TX9, 7) = some (C, T, N) := h
    cases h
    exact ev_insW8
  | 9, h =>
    have h : some (RX10, TX10, 15) = some (C, T, N) := h
    cases h
    exact ev_insW9
  | 10, h =>
    have h : some (RX11, TX11, 87) = some (C, T, N) := h
    cases h
    exact ev_insW10
  | j + 11, h => exact absurd h (by simp [ev_cl0])
theorem ev_poss {ws : List Cond} (ps : List Nat) (hp : ws = ps.filterMap ev_pos) : ∀ w ∈ ws, w ∈ ev_TT.flatten := by
  intro w hw
  rw [hp] at hw
  obtain ⟨i, -, hi⟩ := List.mem_filterMap.mp hw
  unfold ev_pos at hi
  split at hi
  · rename_i l hl
    rw [ev_nth_eq] at hi hl
    exact List.mem_flatten.mpr ⟨l, List.mem_of_getElem? hl, List.mem_of_getElem? hi⟩
  · cases hi
set_option maxRecDepth 100000 in
theorem ev_aoW : ∀ w ∈ ev_AO0.map (fun n => Cond.arrayOver (.object n)), w ∈ ev_TT.flatten := ev_poss [1023, 1128, 1164, 1172, 1179, 3012] (by decide +kernel)
set_option maxRecDepth 100000 in
theorem ev_acW : ∀ w ∈ [Cond.arrayClass .int, Cond.arrayClass .long, Cond.arrayClass .boolean], w ∈ ev_TT.flatten := ev_poss [1091, 1124, 1156] (by decide +kernel)
theorem ev_prim {s : State} {args : Array Value} {ty : FieldType} (h : (Cond.arrayClass ty).before args s = true) (hty : ∀ n, ty ≠ .object n) : ∃ cA, ArrOfT s cA ty ∧ va_RA s cA ty := by
  obtain ⟨c, k, comp, h1, h2, h3⟩ := Cond.arrayClass_spec h
  refine ⟨c, fun n z => ⟨fun k h => (by cases h), k, h2, comp, h3⟩, ?_⟩
  cases ty with
  | object n => exact absurd rfl (hty n)
  | _ => exact h1
theorem ev_objs {s : State} {n : String} (h : va_AO n s) : ∃ cA, ArrOfT s cA (.object n) ∧ va_RA s cA (.object n) := by
  obtain ⟨comp, c, k, h1, h2, h3, h4, h5⟩ := Cond.arrayOver_spec h
  exact ⟨c, fun n z => ⟨fun k h => (by cases h), k, h3, comp, h4⟩, k, comp, h3, h4, h1, h5⟩
theorem ev_exK {s : State} {args : Array Value} (hts : ∀ w ∈ ev_TT.flatten, w.before args s = true) : ∃ (D : va_G) (tys : List (ClassId × FieldType)), tys.map Prod.snd = ev_G0.2.1 ∧ ev_Kw D ev_G0.1 tys (ev_TT.flatten.filter ev_isN) ev_AO0 s := by
  have hts' : ∀ w ∈ ev_TT.flatten.filter goodWord, w.before args s = true := fun w hw => hts w (List.mem_filter.mp hw).1
  have hAO : ∀ n ∈ ev_AO0, va_AO n s := fun n hn => va_AO.of (hts _ (ev_aoW _ (List.mem_map.mpr ⟨n, hn, rfl⟩)))
  have hcl : ∀ ci : Nat, ∃ (r : ClassId × (Nat → Nat)), ∀ q, ev_cl0[ci]? = some q → u_Kn s q.1 q.2.1 q.2.2 r.1 r.2 := by
    intro ci
    cases h : ev_cl0[ci]? with
    | none => exact ⟨(0, fun _ => 0), fun q e => by cases e⟩
    | some q =>
      obtain ⟨C, T, N⟩ := q
      obtain ⟨cC, iS, hk⟩ := u_known (C := C) (T := T) (N := N) hts' (ev_fx0.2.2.2.1 ci C T N h).1 (hts' _ (ev_ins0 ci C T N h))
      exact ⟨(cC, iS), fun q e => by cases e; exact hk⟩
  have hty : ∀ ty ∈ ev_tl0, ∃ cA, ArrOfT s cA ty ∧ va_RA s cA ty := by
    show ∀ ty ∈ ([.int, .long, .boolean, .object "RatchetPost$Letter", .object "RatchetPost$Secret", .object "RatchetPost$Person", .object "RatchetPost$Row", .object "RatchetPost$Session", .object "RatchetPost$Turn"] : List FieldType), _
    exact List.forall_mem_cons.mpr ⟨ev_prim (hts _ (ev_acW _ (by simp))) (fun n h => by cases h), List.forall_mem_cons.mpr ⟨ev_prim (hts _ (ev_acW _ (by simp))) (fun n h => by cases h), List.forall_mem_cons.mpr ⟨ev_prim (hts _ (ev_acW _ (by simp))) (fun n h => by cases h), List.forall_mem_cons.mpr ⟨ev_objs (hAO _ (by simp [ev_AO0])), List.forall_mem_cons.mpr ⟨ev_objs (hAO _ (by simp [ev_AO0])), List.forall_mem_cons.mpr ⟨ev_objs (hAO _ (by simp [ev_AO0])), List.forall_mem_cons.mpr ⟨ev_objs (hAO _ (by simp [ev_AO0])), List.forall_mem_cons.mpr ⟨ev_objs (hAO _ (by simp [ev_AO0])), List.forall_mem_cons.mpr ⟨ev_objs (hAO _ (by simp [ev_AO0])), fun _ h => absurd h List.not_mem_nil⟩⟩⟩⟩⟩⟩⟩⟩⟩
  have hty2 : ∀ ty : FieldType, ∃ cA : ClassId, ty ∈ ev_tl0 → ArrOfT s cA ty ∧ va_RA s cA ty := by
    intro ty
    by_cases h : ty ∈ ev_tl0
    · obtain ⟨cA, hc⟩ := hty ty h
      exact ⟨cA, fun _ => hc⟩
    · exact ⟨0, fun q => absurd q h⟩
  refine ⟨(fun ci => (Classical.choose (hcl ci)).1, fun ci => (Classical.choose (hcl ci)).2), ev_tl0.map (fun ty => (Classical.choose (hty2 ty), ty)), ?_, ⟨fun ci q hq => Classical.choose_spec (hcl ci) q hq, fun k q hq => ?_⟩, fun w hw => ?_, hAO⟩
  · show _ = ev_tl0
    rw [List.map_map]
    exact List.map_id _
  · obtain ⟨ty, h1, rfl⟩ := List.mem_map.mp (List.mem_of_getElem? hq)
    exact Classical.choose_spec (hty2 ty) h1
  · have hb := hts w (List.mem_filter.mp hw).1
    rcases ev_tn_form w hw with ⟨a, i, x, n, d, hh, rfl⟩ | ⟨a, i, x, hh, rfl⟩
    · exact va_Nw.of rfl hb
    · exact va_Nw.of rfl hb
