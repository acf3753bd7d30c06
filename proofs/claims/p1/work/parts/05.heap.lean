/-! cells: which sort (a class's number, or 100 and an array's), how many places, what all hold that aren't listed, the list -/
abbrev ev_C : Type := Nat × Nat × ev_A × List (Nat × ev_A)
def ev_cg (c : ev_C) (j : Nat) : ev_A := match ev_look c.2.2.2 j with
  | some a => a
  | none => c.2.2.1
def ev_up : List (Nat × ev_A) → Nat → ev_A → List (Nat × ev_A)
  | [], j, a => [(j, a)]
  | q :: r, j, a => if q.1 == j then (j, a) :: r else q :: ev_up r j a
theorem ev_up_look : ∀ (l : List (Nat × ev_A)) (j : Nat) (a : ev_A) (i : Nat), ev_look (ev_up l j a) i = if i = j then some a else ev_look l i
  | [], j, a, i => by
    by_cases h : i = j
    · subst h; simp [ev_up, ev_look]
    · simp [ev_up, ev_look, h, Ne.symm h]
  | q :: r, j, a, i => by
    have ih := ev_up_look r j a i
    unfold ev_up
    by_cases hq : q.1 = j
    · subst hq
      by_cases h : i = q.1
      · subst h; simp [ev_look]
      · simp [ev_look, h, Ne.symm h]
    · have hq' : (q.1 == j) = false := by simpa using hq
      rw [hq']
      simp only [ev_look, Bool.false_eq_true, if_false]
      by_cases h : q.1 = i
      · subst h
        simp [hq]
      · have h' : (q.1 == i) = false := by simpa using h
        rw [h']
        simp only [Bool.false_eq_true, if_false]
        exact ih
def ev_cs (c : ev_C) (j : Nat) (a : ev_A) : ev_C := (c.1, c.2.1, c.2.2.1, ev_up c.2.2.2 j a)
theorem ev_cg_cs (c : ev_C) (j : Nat) (a : ev_A) (i : Nat) : ev_cg (ev_cs c j a) i = if i = j then a else ev_cg c i := by
  unfold ev_cg ev_cs
  rw [ev_up_look]
  by_cases h : i = j
  · simp [h]
  · simp [h]
/-! lists by place -/
def ev_nth {α : Type} : List α → Nat → Option α
  | [], _ => none
  | a :: _, 0 => some a
  | _ :: l, n + 1 => ev_nth l n
theorem ev_nth_eq {α : Type} : ∀ (l : List α) (i : Nat), ev_nth l i = l[i]?
  | [], _ => by simp [ev_nth]
  | a :: l, 0 => by simp [ev_nth]
  | a :: l, n + 1 => by simp [ev_nth, ev_nth_eq l n]
/-! the list of cells, in rows of sixteen, with its length -/
abbrev ev_Q : Type := Nat × List (List ev_C)
def ev_md {α : Type} (f : α → α) : List α → Nat → List α
  | [], _ => []
  | a :: l, 0 => f a :: l
  | a :: l, n + 1 => a :: ev_md f l n
theorem ev_md_nth {α : Type} (f : α → α) : ∀ (l : List α) (i j : Nat), ev_nth (ev_md f l i) j = if j = i then (ev_nth l j).map f else ev_nth l j
  | [], i, j => by simp [ev_md, ev_nth]
  | a :: l, 0, 0 => by simp [ev_md, ev_nth]
  | a :: l, 0, j + 1 => by simp [ev_md, ev_nth]
  | a :: l, i + 1, 0 => by simp [ev_md, ev_nth]
  | a :: l, i + 1, j + 1 => by
    have := ev_md_nth f l i j
    simp only [ev_md, ev_nth]
    rw [this]
    by_cases h : j = i
    · simp [h]
    · simp [h]
def ev_hg (h : ev_Q) (i : Nat) : Option ev_C := match ev_nth h.2 (i / 16) with
  | some l => ev_nth l (i % 16)
  | none => none
def ev_hs (h : ev_Q) (i : Nat) (c : ev_C) : ev_Q := (h.1, ev_md (fun l => ev_md (fun _ => c) l (i % 16)) h.2 (i / 16))
theorem ev_hg_hs (h : ev_Q) (i : Nat) (c : ev_C) (j : Nat) : ev_hg (ev_hs h i c) j = if j = i then (ev_hg h i).map (fun _ => c) else ev_hg h j := by
  unfold ev_hg ev_hs
  dsimp only
  rw [ev_md_nth]
  by_cases h1 : j / 16 = i / 16
  · rw [if_pos h1, h1]
    cases h2 : ev_nth h.2 (i / 16) with
    | none => simp
    | some l =>
      simp only [Option.map_some]
      rw [ev_md_nth]
      by_cases h3 : j % 16 = i % 16
      · have : j = i := by omega
        subst this
        simp
      · have : ¬ j = i := fun e => h3 (by rw [e])
        simp [h3, this]
  · have : ¬ j = i := fun e => h1 (by rw [e])
    rw [if_neg h1, if_neg this]
/-- a cell more: into the last row, or into a new one -/
def ev_ha (h : ev_Q) (c : ev_C) : Option ev_Q := if h.1 % 16 = 0 then (if h.2.length = h.1 / 16 then some (h.1 + 1, h.2 ++ [[c]]) else none) else match ev_nth h.2 (h.1 / 16) with
  | some l => if l.length = h.1 % 16 then some (h.1 + 1, ev_md (fun l => l ++ [c]) h.2 (h.1 / 16)) else none
  | none => none
theorem ev_nth_app {α : Type} (l : List α) (a : α) (j : Nat) : ev_nth (l ++ [a]) j = if j = l.length then some a else ev_nth l j := by
  rw [ev_nth_eq, ev_nth_eq]
  by_cases h : j = l.length
  · subst h; simp
  · rw [if_neg h]
    by_cases h2 : j < l.length
    · rw [List.getElem?_append_left h2]
    · rw [List.getElem?_append_right (by omega), List.getElem?_eq_none (by simp; omega), List.getElem?_eq_none (by omega)]
theorem ev_ha_ok {h h' : ev_Q} {c : ev_C} (q : ev_ha h c = some h') : h'.1 = h.1 + 1 ∧ ∀ j, ev_hg h' j = if j = h.1 then some c else ev_hg h j := by
  unfold ev_ha at q
  split at q
  · rename_i h0
    split at q
    · rename_i hl
      cases q
      refine ⟨rfl, fun j => ?_⟩
      unfold ev_hg
      dsimp only
      rw [ev_nth_app]
      by_cases h1 : j / 16 = h.2.length
      · rw [if_pos h1]
        by_cases h2 : j = h.1
        · subst h2; simp [h0, ev_nth]
        · have h3 : ¬ j % 16 = 0 := by omega
          rw [if_neg h2]
          have h4 : ev_nth h.2 (j / 16) = none := by rw [ev_nth_eq]; exact List.getElem?_eq_none (by omega)
          rw [h4]
          obtain ⟨k, hk⟩ : ∃ k, j % 16 = k + 1 := ⟨j % 16 - 1, by omega⟩
          simp [hk, ev_nth]
      · rw [if_neg h1, if_neg (by intro e; subst e; exact h1 (by omega))]
    · cases q
  · rename_i h0
    split at q
    · rename_i l hl
      split at q
      · rename_i hn
        cases q
        refine ⟨rfl, fun j => ?_⟩
        unfold ev_hg
        dsimp only
        rw [ev_md_nth]
        by_cases h1 : j / 16 = h.1 / 16
        · rw [if_pos h1, h1, hl]
          simp only [Option.map_some]
          rw [ev_nth_app]
          by_cases h2 : j = h.1
          · subst h2; simp [hn]
          · have h3 : ¬ j % 16 = l.length := by rw [hn]; omega
            rw [if_neg h3, if_neg h2]
        · rw [if_neg h1, if_neg (by intro e; subst e; exact h1 rfl)]
      · cases q
    · cases q
def ev_ce (D : va_G) (cl : List vw_C) (tys : List (ClassId × FieldType)) (B b q : Nat) (c : ev_C) (H : Heap) : Prop :=
  (∃ (r : vw_C) (V : Nat → Value), cl[c.1]? = some r ∧ t_OB q (D.1 c.1) r.2.2 (D.2 c.1) H V ∧ ∀ j, j < r.2.2 → ev_g B b (V j) (ev_cg c j)) ∨
  (∃ (t : Nat) (cA : ClassId) (ty : FieldType) (f : Nat → Value), c.1 = 100 + t ∧ tys[t]? = some (cA, ty) ∧ H[q]? = some (arrV cA c.2.1 f) ∧ ∀ j, j < c.2.1 → ev_g B b (f j) (ev_cg c j))
theorem ev_ce.kept {D : va_G} {cl : List vw_C} {tys : List (ClassId × FieldType)} {B b q : Nat} {c : ev_C} {H H1 : Heap} (h : ev_ce D cl tys B b q c H) (hq : H1[q]? = H[q]?) : ev_ce D cl tys B b q c H1 := by
  rcases h with ⟨r, V, h1, h2, h3⟩ | ⟨t, cA, ty, f, h1, h2, h3, h4⟩
  · exact Or.inl ⟨r, V, h1, h2.kept hq, h3⟩
  · exact Or.inr ⟨t, cA, ty, f, h1, h2, by rw [hq]; exact h3, h4⟩
def ev_R (D : va_G) (cl : List vw_C) (tys : List (ClassId × FieldType)) (B b : Nat) (h : ev_Q) (H : Heap) : Prop :=
  H.size = B + h.1 ∧ ∀ (i : Nat) (c : ev_C), ev_hg h i = some c → ev_ce D cl tys B b (B + i) c H
theorem ev_R.set {D : va_G} {cl : List vw_C} {tys : List (ClassId × FieldType)} {B b i : Nat} {h : ev_Q} {c' : ev_C} {H H1 : Heap} (hR : ev_R D cl tys B b h H) (hz : H1.size = H.size) (ho : ∀ q, q ≠ B + i → H1[q]? = H[q]?) (hc : ev_ce D cl tys B b (B + i) c' H1) : ev_R D cl tys B b (ev_hs h i c') H1 := by
  refine ⟨by rw [hz, hR.1]; rfl, fun j c hj => ?_⟩
  rw [ev_hg_hs] at hj
  by_cases e : j = i
  · subst e
    rw [if_pos rfl] at hj
    cases h2 : ev_hg h j with
    | none => rw [h2] at hj; cases hj
    | some c2 => rw [h2] at hj; cases hj; exact hc
  · rw [if_neg e] at hj
    exact (hR.2 j c hj).kept (ho _ (by omega))
theorem ev_ce.lt {D : va_G} {cl : List vw_C} {tys : List (ClassId × FieldType)} {B b q : Nat} {c : ev_C} {H : Heap} (h : ev_ce D cl tys B b q c H) : q < H.size := by
  rcases h with ⟨r, V, h1, ⟨cell, h2, -⟩, h3⟩ | ⟨t, cA, ty, f, h1, h2, h3, h4⟩
  · exact (Array.getElem?_eq_some_iff.mp h2).1
  · exact (Array.getElem?_eq_some_iff.mp h3).1
theorem ev_R.push {D : va_G} {cl : List vw_C} {tys : List (ClassId × FieldType)} {B b : Nat} {h h' : ev_Q} {c' : ev_C} {H H1 : Heap} (hR : ev_R D cl tys B b h H) (hh : ev_ha h c' = some h') (hz : H1.size = H.size + 1) (ho : ∀ q, q < H.size → H1[q]? = H[q]?) (hc : ev_ce D cl tys B b (B + h.1) c' H1) : ev_R D cl tys B b h' H1 := by
  obtain ⟨a1, a2⟩ := ev_ha_ok hh
  refine ⟨by rw [hz, hR.1, a1]; rfl, fun j c hj => ?_⟩
  rw [a2] at hj
  by_cases e : j = h.1
  · subst e
    rw [if_pos rfl] at hj
    cases hj
    exact hc
  · rw [if_neg e] at hj
    have := hR.2 j c hj
    exact this.kept (ho _ this.lt)
/-- what stands below B is as it was, and what was written stands from B on -/
def ev_Lo (B : Nat) (H0 H : Heap) (locs : List Loc) : Prop := (∀ q : Nat, q < B → H[q]? = H0[q]?) ∧ ∀ q ∈ locs, B ≤ q.base
theorem ev_Lo.put {B : Nat} {H0 H H1 : Heap} {locs : List Loc} {i k : Nat} (h : ev_Lo B H0 H locs) (ho : ∀ q, q ≠ B + i → H1[q]? = H[q]?) : ev_Lo B H0 H1 (locs ++ [⟨B + i, k⟩]) := by
  refine ⟨fun q hq => by rw [ho q (by omega)]; exact h.1 q hq, fun q hq => ?_⟩
  rcases List.mem_append.mp hq with h1 | h1
  · exact h.2 q h1
  · rw [List.mem_singleton.mp h1]; exact Nat.le_add_right _ _
theorem ev_Lo.push {B : Nat} {H0 H H1 : Heap} {locs : List Loc} {n : Nat} (h : ev_Lo B H0 H locs) (hs : H.size = B + n) (ho : ∀ q, q < H.size → H1[q]? = H[q]?) : ev_Lo B H0 H1 locs :=
  ⟨fun q hq => by rw [ho q (by omega)]; exact h.1 q hq, h.2⟩
/-- a field's sort: 0 int, 1 long, 2 boolean, 3 a reference -/
def ev_fs (ty : FieldType) : Nat := match ty with
  | .int => 0
  | .long => 1
  | .boolean => 2
  | .object _ => 3
  | .array _ => 3
  | _ => 9
def ev_fit (z : Nat) (a : ev_A) : Bool := match z with
  | 0 => a.1 == 0
  | 1 => a.1 == 1
  | 2 => a.1 == 0 && decide (0 ≤ a.2.1) && decide (a.2.2 ≤ 1)
  | 3 => !(a.1 == 0 || a.1 == 1)
  | _ => false
theorem ev_01 {x : Int32} (h1 : 0 ≤ x.toInt) (h2 : x.toInt ≤ 1) : x = 0 ∨ x = 1 := by
  have : x.toInt = 0 ∨ x.toInt = 1 := by omega
  rcases this with h | h
  · exact Or.inl (Int32.toInt_inj.mp (by rw [h]; rfl))
  · exact Or.inr (Int32.toInt_inj.mp (by rw [h]; rfl))
theorem ev_fit_ok {B b : Nat} {v : Value} {a : ev_A} {ty : FieldType} (hv : ev_g B b v a) (hf : ev_fit (ev_fs ty) a = true) : narrow ty v = v ∧ fits ty v = true := by
  cases ty with
  | int =>
    obtain ⟨x, rfl, -⟩ := ev_isI hv hf
    exact ⟨rfl, rfl⟩
  | long =>
    obtain ⟨x, rfl, -⟩ := ev_isL hv hf
    exact ⟨rfl, rfl⟩
  | boolean =>
    simp only [ev_fs, ev_fit, Bool.and_eq_true, decide_eq_true_eq] at hf
    obtain ⟨x, rfl, h1, h2⟩ := ev_isI hv hf.1.1
    rcases ev_01 (x := x) (by omega) (by omega) with rfl | rfl
    · exact ⟨by decide, by decide⟩
    · exact ⟨by decide, by decide⟩
  | object n =>
    rcases ev_isA hv (by simpa [ev_fs, ev_fit] using hf) with rfl | ⟨q, rfl⟩
    · exact ⟨rfl, rfl⟩
    · exact ⟨rfl, rfl⟩
  | array t =>
    rcases ev_isA hv (by simpa [ev_fs, ev_fit] using hf) with rfl | ⟨q, rfl⟩
    · exact ⟨rfl, rfl⟩
    · exact ⟨rfl, rfl⟩
  | _ => exact absurd hf (by simp [ev_fs, ev_fit])
section EVH
variable {p : Program} {l : Launch} {e : Env} {R : Room} {s : State} {m : MethodId} {args : Array Value} {below : List Frame} {meth : Method} {c : Code} {H : Heap} {locs : List Loc} {cells slots : Nat} {Q : State → Prop}
variable {cc : ByteArray} {pc : Nat} {ls : Array Slot} {B b : Nat} {rest : List Value} {D : va_G} {cl : List vw_C} {tys : List (ClassId × FieldType)} {Ts : List Cond} {own C : String} {T : u_T} {N ci index k i : Nat} {h h' : ev_Q} {cell : ev_C} {H0 : Heap}
theorem ev_obj (hR : ev_R D cl tys B b h H) (hcl : cl.length ≤ 100) (hc : cl[ci]? = some (C, T, N)) (hi : ev_hg h i = some cell) (hci : cell.1 = ci) :
    ∃ V : Nat → Value, t_OB (B + i) (D.1 ci) N (D.2 ci) H V ∧ ∀ j, j < N → ev_g B b (V j) (ev_cg cell j) := by
  subst hci
  rcases hR.2 i cell hi with ⟨r, V, h1, h2, h3⟩ | ⟨t, cA, ty, f, h1, -⟩
  · have hr : r = (C, T, N) := Option.some.inj (h1.symm.trans hc)
    subst hr
    exact ⟨V, h2, h3⟩
  · exfalso
    have : cell.1 < cl.length := (List.getElem?_eq_some_iff.mp hc).1
    omega
theorem ev_arr {t : Nat} (hR : ev_R D cl tys B b h H) (hcl : cl.length ≤ 100) (hi : ev_hg h i = some cell) (hct : cell.1 = 100 + t) :
    ∃ (cA : ClassId) (ty : FieldType) (f : Nat → Value), tys[t]? = some (cA, ty) ∧ H[B + i]? = some (arrV cA cell.2.1 f) ∧ ∀ j, j < cell.2.1 → ev_g B b (f j) (ev_cg cell j) := by
  rcases hR.2 i cell hi with ⟨r, V, h1, h2, h3⟩ | ⟨t', cA, ty, f, h1, h2, h3, h4⟩
  · exfalso
    have : cell.1 < cl.length := (List.getElem?_eq_some_iff.mp h1).1
    omega
  · have : t' = t := by omega
    subst this
    exact ⟨cA, ty, f, h2, h3, h4⟩
/-- a field is read -/
theorem ev_r_get (hx : p.tables.exec = Jvm.exec) (hb : c.code = cc) (hts : ∀ w ∈ Ts, w.before args s = true) (hin : ∀ w ∈ u_ws C T N, w ∈ Ts) (hown : s.vm.findClass own = some m.cls) (hK : va_K D cl tys s) (hR : ev_R D cl tys B b h H) (hcl : cl.length ≤ 100) (hc : cl[ci]? = some (C, T, N)) (hk : k < N) (hdec : (T k).1 = C)
    (hlink : (Cond.fieldLink own index C (T k).2.1 (T k).2.2.1).before args s = true ∨ ∃ host, (Cond.fieldLinkNest own index C (T k).2.1 (T k).2.2.1 host).before args s = true) (hi : ev_hg h i = some cell) (hci : cell.1 = ci) (hdg : decode cc pc = .ok (.getfield index, 3))
    (kk : ∀ v : Value, ev_g B b v (ev_cg cell k) → W p l e R s m args below meth c H locs cells slots Q (F0 m (pc + 3) ls (v :: rest))) : W p l e R s m args below meth c H locs cells slots Q (F0 m pc ls (.ref (B + i) :: rest)) := by
  obtain ⟨V, ⟨cell', q1, q2, q3, q4⟩, hV⟩ := ev_obj hR hcl hc hi hci
  obtain ⟨hS, hfc, kC, hkC, hkind⟩ := hK.1 ci _ hc
  obtain ⟨cf, kf, fi, f, hf, hsl⟩ := hS k hk
  have hst := (u_facts hfc hkC (u_lays hts hin hk) hf).1
  rw [hdec] at hf
  rcases hlink with hl | ⟨host, hl⟩
  · exact W.getf hx hb hown hl hf hst q1 (by rw [q3]; exact fun h => by cases h) (v := V k) (by rw [hsl]; exact q4 k hk) rfl rfl hdg (kk _ (hV k hk))
  · exact va_Wgetf hx hb hown hl hf hst q1 (by rw [q3]; exact fun h => by cases h) (v := V k) (by rw [hsl]; exact q4 k hk) rfl rfl hdg (kk _ (hV k hk))
/-- a field is written -/
theorem ev_r_put {ty0 : Nat → FieldType} {v : Value} {a : ev_A} (hx : p.tables.exec = Jvm.exec) (hb : c.code = cc) (hts : ∀ w ∈ Ts, w.before args s = true) (hin : ∀ w ∈ u_ws C T N, w ∈ Ts) (hty : ∀ k, k < N → parseFieldDescriptor (T k).2.2.1 = some (ty0 k)) (hnm : ∀ a, a < N → ∀ b, b < N → a ≠ b → (T a).2.1 ≠ (T b).2.1) (hown : s.vm.findClass own = some m.cls) (hK : va_K D cl tys s) (hR : ev_R D cl tys B b h H) (hL : ev_Lo B H0 H locs) (hcl : cl.length ≤ 100) (hc : cl[ci]? = some (C, T, N)) (hk : k < N) (hdec : (T k).1 = C)
    (hlink : (Cond.fieldLink own index C (T k).2.1 (T k).2.2.1).before args s = true ∨ (∃ host, (Cond.fieldLinkNest own index C (T k).2.1 (T k).2.2.1 host).before args s = true) ∧ (T k).2.2.2 = false) (hfin : (T k).2.2.2 = true → C = own ∧ meth.name = "<init>") (hv : ev_g B b v a) (hfit : ev_fit (ev_fs (ty0 k)) a = true) (hi : ev_hg h i = some cell) (hci : cell.1 = ci) (hdg : decode cc pc = .ok (.putfield index, 3))
    (kk : ∀ (H1 : Heap) (locs1 : List Loc), ev_R D cl tys B b (ev_hs h i (ev_cs cell k a)) H1 → ev_Lo B H0 H1 locs1 → W p l e R s m args below meth c H1 locs1 cells slots Q (F0 m (pc + 3) ls rest)) : W p l e R s m args below meth c H locs cells slots Q (F0 m pc ls (v :: .ref (B + i) :: rest)) := by
  have hap := va_apart (own := own) hts hin ty0 hty hnm hK hc
  obtain ⟨V, ⟨cell', q1, q2, q3, q4⟩, hV⟩ := ev_obj hR hcl hc hi hci
  obtain ⟨hS, hfc, kC, hkC, hkind⟩ := hK.1 ci _ hc
  obtain ⟨cf, kf, fi, f, hf, hsl⟩ := hS k hk
  have hst := (u_facts hfc hkC (u_lays hts hin hk) hf).1
  have hlay := hts _ (hin _ (u_in_lay hk))
  obtain ⟨hn, hft⟩ := ev_fit_ok hv hfit
  have hfr : s.fieldFound? C (T k).2.1 (T k).2.2.1 = some (cf, kf, fi, f) := by rw [← hdec]; exact hf
  have fin : ∀ H' : Heap, H'[B + i]? = some (cell'.setSlot f.slot v) → H'.size = H.size → (∀ q, q ≠ B + i → H'[q]? = H[q]?) → W p l e R s m args below meth c H' (locs ++ [⟨B + i, f.slot⟩]) cells slots Q (F0 m (pc + 3) ls rest) := by
    intro H' e1 e2 e3
    rw [hsl] at e1
    refine kk H' _ (hR.set e2 e3 (Or.inl ⟨(C, T, N), updV V k v, by show cl[cell.1]? = _; rw [hci]; exact hc, ?_, fun j hj => ?_⟩)) (hL.put e3)
    · show t_OB (B + i) (D.1 cell.1) N (D.2 cell.1) H' (updV V k v)
      rw [hci]
      exact ⟨_, e1, q2, q3, t_set q4 hap hk v⟩
    · rw [ev_cg_cs]
      unfold updV
      by_cases hj2 : j = k
      · rw [if_pos hj2, if_pos hj2]; exact hv
      · rw [if_neg hj2, if_neg hj2]; exact hV j hj
  have hlt : f.slot < cell'.slots.size := by rw [hsl]; exact k2_hasslot (q4 k hk)
  by_cases hfl : (T k).2.2.2 = true
  · obtain ⟨hCo, hini⟩ := hfin hfl
    unfold u_lay at hlay
    rw [if_pos hfl] at hlay
    have hcf : m.cls = cf := by
      obtain ⟨_, _, c', _, _, _, -, -, hf', -, -, -, hown2, -⟩ := Cond.laysFinal_spec hlay
      have e1 : c' = cf := by have := hf.symm.trans hf'; simp at this; exact this.1.symm
      rw [hdec, hCo] at hown2
      rw [← e1]; exact Option.some.inj (hown.symm.trans hown2)
    have h6 := u_fits hfc hkC hkind (Or.inr hlay) hf (hty k hk) hn hft
    rcases hlink with hl | ⟨-, hl⟩
    · exact W.putFinK hx hb hown hl hfr hst hcf hini (by rw [q2]; exact h6) q1 q3 hlt rfl rfl hdg fin
    · rw [hfl] at hl; cases hl
  · unfold u_lay at hlay
    rw [if_neg hfl] at hlay
    have h6 := u_store hfc hkC hkind hlay hf (hty k hk) hn hft
    rcases hlink with hl | ⟨⟨host, hl⟩, -⟩
    · exact W.putK hx hb (f := f) ⟨hown, hl, ⟨_, _, _, hfr⟩, hst⟩ (by rw [q2]; exact h6) q1 q3 hlt rfl rfl hdg fin
    · exact va_WputK hx hb (f := f) hown hl hfr hst (by rw [q2]; exact h6) q1 q3 hlt rfl rfl hdg fin
/-- what a new cell of a field's type holds -/
def ev_df (ty : FieldType) : ev_A := match ev_fs ty with
  | 0 => (0, 0, 0)
  | 1 => (1, 0, 0)
  | 2 => (0, 0, 0)
  | _ => (3, 0, 0)
theorem ev_df_ok {B b : Nat} {ty : FieldType} (h : ev_fs ty < 4) : ev_g B b (defaultValue ty) (ev_df ty) := by
  cases ty with
  | int => exact ⟨0, rfl, by decide, by decide⟩
  | long => exact ⟨0, rfl, by decide, by decide⟩
  | boolean => exact ⟨0, rfl, by decide, by decide⟩
  | object n => rfl
  | array t => rfl
  | _ => exact absurd h (by simp [ev_fs])
/-- an object is made -/
theorem ev_r_new {ty0 : Nat → FieldType} (hx : p.tables.exec = Jvm.exec) (hb : c.code = cc) (hts : ∀ w ∈ Ts, w.before args s = true) (hin : ∀ w ∈ u_ws C T N, w ∈ Ts) (hty : ∀ k, k < N → parseFieldDescriptor (T k).2.2.1 = some (ty0 k)) (hown : s.vm.findClass own = some m.cls) (hcl : (Cond.classLink own index C).before args s = true) (hinst : (Cond.instantiable C N).before args s = true) (hini : (Cond.initialized C).before args s = true)
    (hK : va_K D cl tys s) (hR : ev_R D cl tys B b h H) (hL : ev_Lo B H0 H locs) (hc : cl[ci]? = some (C, T, N)) (hh : ev_ha h cell = some h') (hcell : cell.1 = ci ∧ ∀ j, j < N → ev_fs (ty0 j) < 4 ∧ ev_cg cell j = ev_df (ty0 j)) (hcells : cells + 1 ≤ R.cells) (hslots : slots + N ≤ R.slots) (hdg : decode cc pc = .ok (.new index, 3))
    (kk : ∀ (H1 : Heap), ev_R D cl tys B b h' H1 → ev_Lo B H0 H1 locs → W p l e R s m args below meth c H1 locs (cells + 1) (slots + N) Q (F0 m (pc + 3) ls (.ref (B + h.1) :: rest))) : W p l e R s m args below meth c H locs cells slots Q (F0 m pc ls rest) := by
  have hKn := hK.1 ci _ hc
  refine W.newcK hx hb hown hcl hinst hini rfl hdg hcells hslots hKn.2.1 hR.1 fun H1 kC hkC e1 z1 o1 => ?_
  refine kk H1 (hR.push hh (by rw [z1, hR.1]) (fun q hq => o1 q (by rw [← hR.1]; exact hq)) (Or.inl ⟨(C, T, N), fun j => defaultValue (ty0 j), by show cl[cell.1]? = _; rw [hcell.1]; exact hc, ?_, fun j hj => ?_⟩)) (hL.push hR.1 (fun q hq => o1 q (by rw [← hR.1]; exact hq)))
  · rw [hcell.1]
    exact u_born ty0 hts hin hKn hkC e1 hty
  · obtain ⟨g1, g2⟩ := hcell.2 j hj
    rw [g2]
    exact ev_df_ok g1
/-- an array of numbers is made -/
theorem ev_r_newa {t : Nat} {cA : ClassId} {atype : ArrayType} {n : Int32} {M : Nat} (hx : p.tables.exec = Jvm.exec) (hb : c.code = cc) (harr : (Cond.arrayClass (newarray.typeOf atype)).before args s = true) (hK : va_K D cl tys s) (hR : ev_R D cl tys B b h H) (hL : ev_Lo B H0 H locs) (ht : tys[t]? = some (cA, newarray.typeOf atype)) (hprim : ev_fs (newarray.typeOf atype) < 3) (hh : ev_ha h cell = some h') (hcell : cell = (100 + t, M, ev_df (newarray.typeOf atype), []))
    (hn : ¬ n < 0) (hN : n.toNatClampNeg = M) (hM : M ≤ 60000) (hcells : cells + 1 ≤ R.cells) (hslots : slots + M ≤ R.slots) (hdg : decode cc pc = .ok (.newarray atype, 2))
    (kk : ∀ (H1 : Heap), ev_R D cl tys B b h' H1 → ev_Lo B H0 H1 locs → W p l e R s m args below meth c H1 locs (cells + 1) (slots + M) Q (F0 m (pc + 2) ls (.ref (B + h.1) :: rest))) : W p l e R s m args below meth c H locs cells slots Q (F0 m pc ls (.int n :: rest)) := by
  have hby : M * componentBytes (newarray.typeOf atype) ≤ 536870912 := by
    have : componentBytes (newarray.typeOf atype) ≤ 8 := by cases atype <;> decide
    calc M * componentBytes (newarray.typeOf atype) ≤ 60000 * 8 := Nat.mul_le_mul hM this
      _ ≤ 536870912 := by decide
  have hnm : s.vm.findClass ("[" ++ (newarray.typeOf atype).toString) = some cA := by
    have h2 := (hK.2 t _ ht).2
    cases atype <;> exact h2
  refine va_newaK hx hb harr rfl hdg rfl hn hN hby hcells hslots hR.1 fun H1 cA' e1 z1 o1 hAr hNm => ?_
  have hA : cA' = cA := Option.some.inj (hNm.symm.trans hnm)
  subst hA
  subst hcell
  refine kk H1 (hR.push hh (by rw [z1, hR.1]) (fun q hq => o1 q (by rw [← hR.1]; exact hq)) (Or.inr ⟨t, cA', _, _, rfl, ht, e1, fun j hj => ?_⟩)) (hL.push hR.1 (fun q hq => o1 q (by rw [← hR.1]; exact hq)))
  exact ev_df_ok (by omega)
/-- an array of references is made -/
theorem ev_r_anew {t : Nat} {cA : ClassId} {n : Int32} {M : Nat} {E : String} (hx : p.tables.exec = Jvm.exec) (hb : c.code = cc) (hown : s.vm.findClass own = some m.cls) (hclink : (Cond.classLink own index E).before args s = true) (hover : va_AO E s) (hK : va_K D cl tys s) (hR : ev_R D cl tys B b h H) (hL : ev_Lo B H0 H locs) (ht : tys[t]? = some (cA, .object E)) (hh : ev_ha h cell = some h') (hcell : cell = (100 + t, M, (3, 0, 0), []))
    (hn : ¬ n < 0) (hN : n.toNatClampNeg = M) (hM : M ≤ 60000) (hcells : cells + 1 ≤ R.cells) (hslots : slots + M ≤ R.slots) (hdg : decode cc pc = .ok (.anewarray index, 3))
    (kk : ∀ (H1 : Heap), ev_R D cl tys B b h' H1 → ev_Lo B H0 H1 locs → W p l e R s m args below meth c H1 locs (cells + 1) (slots + M) Q (F0 m (pc + 3) ls (.ref (B + h.1) :: rest))) : W p l e R s m args below meth c H locs cells slots Q (F0 m pc ls (.int n :: rest)) := by
  obtain ⟨kA0, comp0, -, -, -, hnm⟩ := (hK.2 t _ ht).2
  subst hN
  refine W.anew hx hb hown hclink (va_AO.use hover) rfl hdg rfl hn (by omega) hcells hslots fun cA' kA comp f1 f2 f3 f4 => ?_
  have hA : cA' = cA := Option.some.inj (f1.symm.trans hnm)
  subst hA
  subst hcell
  generalize hH1 : H.push ({ cls := cA', slots := Array.replicate n.toNatClampNeg .null, vm := .none } : Cell) = H1
  have z1 : H1.size = H.size + 1 := by rw [← hH1, Array.size_push]
  have e1 : H1[H.size]? = some (arrV cA' n.toNatClampNeg (fun _ => .null)) := by rw [← hH1, Array.getElem?_push_size, ← arrV_new]
  have o1 : ∀ q, q < H.size → H1[q]? = H[q]? := fun q hq => by rw [← hH1, Array.getElem?_push, if_neg (Nat.ne_of_lt hq)]
  rw [hR.1] at e1
  have kk2 := kk H1 (hR.push hh z1 o1 (Or.inr ⟨t, cA', _, _, rfl, ht, e1, fun j hj => rfl⟩)) (hL.push hR.1 o1)
  rw [← hR.1] at kk2
  exact kk2
end EVH
