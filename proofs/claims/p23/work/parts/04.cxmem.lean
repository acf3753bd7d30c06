/-! the memory: how many cells; their sorts (below 98 a class's number; 98 the script; 99 none of ours; from 100 on an array by its role), their lengths; ints, longs, references by address and place -/
abbrev cx_Q : Type := Nat × (Nat → Nat) × (Nat → Int) × (Nat → Int → Int) × (Nat → Int → Int64) × (Nat → Int → Option Nat)
def cq_s (h : cx_Q) : Nat → Nat := h.2.1
def cq_z (h : cx_Q) : Nat → Int := h.2.2.1
def cq_I (h : cx_Q) : Nat → Int → Int := h.2.2.2.1
def cq_J (h : cx_Q) : Nat → Int → Int64 := h.2.2.2.2.1
def cq_A (h : cx_Q) : Nat → Int → Option Nat := h.2.2.2.2.2
def cx_u1 {α : Type} (f : Nat → α) (i : Nat) (v : α) : Nat → α := fun q => if q = i then v else f q
def cx_u2 {α : Type} (f : Nat → Int → α) (i : Nat) (j : Int) (v : α) : Nat → Int → α := fun q r => if q = i ∧ r = j then v else f q r
def cq_sI (h : cx_Q) (i : Nat) (j : Int) (x : Int) : cx_Q := (h.1, cq_s h, cq_z h, cx_u2 (cq_I h) i j x, cq_J h, cq_A h)
def cq_sJ (h : cx_Q) (i : Nat) (j : Int) (x : Int64) : cx_Q := (h.1, cq_s h, cq_z h, cq_I h, cx_u2 (cq_J h) i j x, cq_A h)
def cq_sA (h : cx_Q) (i : Nat) (j : Int) (x : Option Nat) : cx_Q := (h.1, cq_s h, cq_z h, cq_I h, cq_J h, cx_u2 (cq_A h) i j x)
/-- a cell more, of this sort and length, with nothing in it -/
def cq_nw (h : cx_Q) (t : Nat) (n : Int) : cx_Q := (h.1 + 1, cx_u1 (cq_s h) h.1 t, cx_u1 (cq_z h) h.1 n, cx_u1 (cq_I h) h.1 (fun _ => 0), cx_u1 (cq_J h) h.1 (fun _ => 0), cx_u1 (cq_A h) h.1 (fun _ => none))
/-- what stands at a place of this kind: 1 a long, 3 a reference, else an int -/
def cx_rd (k : Nat) (h : cx_Q) (i : Nat) (j : Int) : cx_V := match k with
  | 1 => .inr (.inl (cq_J h i j))
  | 3 => .inr (.inr (cq_A h i j))
  | _ => .inl (cq_I h i j)
/-- h' is h with this value at this place -/
def cq_put (k : Nat) (h : cx_Q) (i : Nat) (j : Int) (a : cx_V) (h' : cx_Q) : Prop := match k with
  | 0 => ∃ n : Int, a = .inl n ∧ h' = cq_sI h i j n
  | 1 => ∃ y : Int64, a = .inr (.inl y) ∧ h' = cq_sJ h i j y
  | 2 => ∃ n : Int, a = .inl n ∧ (n = 0 ∨ n = 1) ∧ h' = cq_sI h i j n
  | 3 => ∃ r : Option Nat, a = .inr (.inr r) ∧ h' = cq_sA h i j r
  | _ => False
theorem cq_put_all {k : Nat} {h h' : cx_Q} {i : Nat} {j : Int} {a : cx_V} (q : cq_put k h i j a h') : h'.1 = h.1 ∧ cq_s h' = cq_s h ∧ cq_z h' = cq_z h ∧ cx_rd k h' i j = a ∧ (∀ k' i' r, ¬ (i' = i ∧ r = j) → cx_rd k' h' i' r = cx_rd k' h i' r) ∧ (k = 2 → cq_I h' i j = 0 ∨ cq_I h' i j = 1) ∧ (∀ i' r, ¬ (i' = i ∧ r = j) → cq_I h' i' r = cq_I h i' r) := by
  unfold cq_put at q
  split at q
  · obtain ⟨n, rfl, rfl⟩ := q
    refine ⟨rfl, rfl, rfl, by simp [cx_rd, cq_sI, cq_I, cx_u2], fun k' i' r hi => ?_, fun q => absurd q (by decide), fun i' r hi => ?_⟩
    · unfold cx_rd; split <;> simp [cq_sI, cq_I, cq_J, cq_A, cx_u2, hi]
    · simp [cq_sI, cq_I, cx_u2, hi]
  · obtain ⟨n, rfl, rfl⟩ := q
    refine ⟨rfl, rfl, rfl, by simp [cx_rd, cq_sJ, cq_J, cx_u2], fun k' i' r hi => ?_, fun q => absurd q (by decide), fun i' r hi => rfl⟩
    unfold cx_rd; split <;> simp [cq_sJ, cq_I, cq_J, cq_A, cx_u2, hi]
  · obtain ⟨n, rfl, hn, rfl⟩ := q
    refine ⟨rfl, rfl, rfl, by simp [cx_rd, cq_sI, cq_I, cx_u2], fun k' i' r hi => ?_, fun _ => by simpa [cq_sI, cq_I, cx_u2] using hn, fun i' r hi => ?_⟩
    · unfold cx_rd; split <;> simp [cq_sI, cq_I, cq_J, cq_A, cx_u2, hi]
    · simp [cq_sI, cq_I, cx_u2, hi]
  · obtain ⟨n, rfl, rfl⟩ := q
    refine ⟨rfl, rfl, rfl, by simp [cx_rd, cq_sA, cq_A, cx_u2], fun k' i' r hi => ?_, fun q => absurd q (by decide), fun i' r hi => rfl⟩
    unfold cx_rd; split <;> simp [cq_sA, cq_I, cq_J, cq_A, cx_u2, hi]
  · exact q.elim
theorem cx_01 {x : Int32} (h : x.toInt = 0 ∨ x.toInt = 1) : x = 0 ∨ x = 1 := by
  rcases h with h | h
  · exact Or.inl (Int32.toInt_inj.mp (by rw [h]; rfl))
  · exact Or.inr (Int32.toInt_inj.mp (by rw [h]; rfl))
theorem cq_put_fit {ty : FieldType} {h h' : cx_Q} {i : Nat} {j : Int} {a : cx_V} {v : Value} (q : cq_put (ev_fs ty) h i j a h') (hv : cx_g v a) : narrow ty v = v ∧ fits ty v = true := by
  cases ty with
  | int => obtain ⟨n, rfl, -⟩ := q; obtain ⟨x, rfl, -⟩ := hv; exact ⟨rfl, rfl⟩
  | long => obtain ⟨y, rfl, -⟩ := q; cases cx_long hv; exact ⟨rfl, rfl⟩
  | boolean =>
    obtain ⟨n, rfl, h1, -⟩ := q
    obtain ⟨x, rfl, h2⟩ := hv
    rcases cx_01 (x := x) (by rw [h2]; exact h1) with rfl | rfl
    · exact ⟨by decide, by decide⟩
    · exact ⟨by decide, by decide⟩
  | object n =>
    obtain ⟨r, rfl, -⟩ := q
    rcases cx_any hv with rfl | ⟨j, rfl⟩ <;> exact ⟨rfl, rfl⟩
  | array t =>
    obtain ⟨r, rfl, -⟩ := q
    rcases cx_any hv with rfl | ⟨j, rfl⟩ <;> exact ⟨rfl, rfl⟩
  | _ => exact (show False from q).elim
/-! the heap holds the memory. ra: of an array's sort its kind, its type's number, its elements' class -/
abbrev cx_A : Type := Nat → Nat × Nat × Nat
def cx_ck (k : Nat) (v : Value) (h : cx_Q) (i : Nat) (j : Int) : Prop := cx_g v (cx_rd k h i j) ∧ (k = 2 → cq_I h i j = 0 ∨ cq_I h i j = 1)
def cx_ce (ra : cx_A) (D : va_G) (cl : List vw_C) (tys : List (ClassId × FieldType)) (TY : Nat → Nat → FieldType) (h : cx_Q) (H : Heap) (i : Nat) : Prop :=
  (∃ (r : vw_C) (V : Nat → Value), cl[cq_s h i]? = some r ∧ t_OB i (D.1 (cq_s h i)) r.2.2 (D.2 (cq_s h i)) H V ∧ ∀ j : Nat, j < r.2.2 → cx_ck (ev_fs (TY (cq_s h i) j)) (V j) h i j) ∨
  (∃ (cA : ClassId) (ty : FieldType) (n : Nat) (f : Nat → Value), 100 ≤ cq_s h i ∧ tys[(ra (cq_s h i)).2.1]? = some (cA, ty) ∧ ev_fs ty = (ra (cq_s h i)).1 ∧ cq_z h i = n ∧ n ≤ 60000 ∧ H[i]? = some (arrV cA n f) ∧ ∀ j : Nat, j < n → cx_ck (ev_fs ty) (f j) h i j)
theorem cx_ce.kept {ra : cx_A} {D : va_G} {cl : List vw_C} {tys : List (ClassId × FieldType)} {TY : Nat → Nat → FieldType} {i : Nat} {h h' : cx_Q} {H H1 : Heap} (q : cx_ce ra D cl tys TY h H i) (hH : H1[i]? = H[i]?) (hs : cq_s h' i = cq_s h i) (hz : cq_z h' i = cq_z h i) (hv : ∀ k j, cx_rd k h' i j = cx_rd k h i j) (hb : ∀ j, cq_I h' i j = cq_I h i j) : cx_ce ra D cl tys TY h' H1 i := by
  rcases q with ⟨r, V, h1, h2, h3⟩ | ⟨cA, ty, n, f, h0, h1, h2, h3, h4, h5, h6⟩
  · refine Or.inl ⟨r, V, by rw [hs]; exact h1, by rw [hs]; exact h2.kept hH, fun j hj => ?_⟩
    have := h3 j hj
    unfold cx_ck at this ⊢
    rw [hs, hv, hb]
    exact this
  · refine Or.inr ⟨cA, ty, n, f, by rw [hs]; exact h0, by rw [hs]; exact h1, by rw [hs]; exact h2, by rw [hz]; exact h3, h4, by rw [hH]; exact h5, fun j hj => ?_⟩
    have := h6 j hj
    unfold cx_ck at this ⊢
    rw [hv, hb]
    exact this
/-- what stands fast: the base from which cells are ours, the script's address, its length, its ints -/
def cx_R (ra : cx_A) (D : va_G) (cl : List vw_C) (tys : List (ClassId × FieldType)) (TY : Nat → Nat → FieldType) (B b L : Nat) (xs : Nat → Int32) (h : cx_Q) (H : Heap) : Prop :=
  (H.size = h.1 ∧ B ≤ h.1) ∧ ∀ i, cq_s h i ≠ 99 → i < h.1 ∧ ((cq_s h i = 98 ∧ i = b ∧ b < B ∧ cq_z h i = L ∧ L < 2147483648 ∧ ∀ j : Nat, j < L → cq_I h i j = (xs j).toInt) ∨ (cq_s h i ≠ 98 ∧ B ≤ i ∧ cx_ce ra D cl tys TY h H i))
section CXR
variable {ra : cx_A} {D : va_G} {cl : List vw_C} {tys : List (ClassId × FieldType)} {TY : Nat → Nat → FieldType} {B b L : Nat} {xs : Nat → Int32} {h h' : cx_Q} {H H1 H0 : Heap} {locs : List Loc} {i : Nat} {j : Int} {k : Nat} {a : cx_V}
theorem cx_R.set (hR : cx_R ra D cl tys TY B b L xs h H) (hp : cq_put k h i j a h') (hB : cq_s h i ≠ 98) (hz : H1.size = H.size) (ho : ∀ q, q ≠ i → H1[q]? = H[q]?) (hc : B ≤ i → cx_ce ra D cl tys TY h' H1 i) : cx_R ra D cl tys TY B b L xs h' H1 := by
  obtain ⟨e1, e2, e3, -, e5, -, e7⟩ := cq_put_all hp
  refine ⟨⟨by rw [hz, hR.1.1, e1], by rw [e1]; exact hR.1.2⟩, fun q hq => ?_⟩
  rw [e2] at hq
  obtain ⟨g1, g2⟩ := hR.2 q hq
  refine ⟨by rw [e1]; exact g1, ?_⟩
  rw [e2]
  rcases g2 with ⟨m1, m2, m3, m4, m5, m6⟩ | ⟨m1, m2, m3⟩
  · refine Or.inl ⟨m1, m2, m3, by rw [e3]; exact m4, m5, fun r hr => ?_⟩
    rw [e7 q r (fun e => hB (by rw [← e.1]; exact m1))]
    exact m6 r hr
  · refine Or.inr ⟨m1, m2, ?_⟩
    by_cases e : q = i
    · subst e; exact hc m2
    · exact m3.kept (ho _ e) (by rw [e2]) (by rw [e3]) (fun k' r => e5 k' q r (fun c => e c.1)) (fun r => e7 q r (fun c => e c.1))
theorem cx_nw_ne {t : Nat} {n : Int} {q : Nat} (hq : q ≠ h.1) : cq_s (cq_nw h t n) q = cq_s h q ∧ cq_z (cq_nw h t n) q = cq_z h q ∧ (∀ k r, cx_rd k (cq_nw h t n) q r = cx_rd k h q r) ∧ ∀ r, cq_I (cq_nw h t n) q r = cq_I h q r := by
  refine ⟨by simp [cq_nw, cq_s, cx_u1, hq], by simp [cq_nw, cq_z, cx_u1, hq], fun k r => ?_, fun r => by simp [cq_nw, cq_I, cx_u1, hq]⟩
  unfold cx_rd; split <;> simp [cq_nw, cq_I, cq_J, cq_A, cx_u1, hq]
theorem cx_nw_s {t : Nat} {n : Int} : cq_s (cq_nw h t n) h.1 = t ∧ cq_z (cq_nw h t n) h.1 = n := ⟨by simp [cq_nw, cq_s, cx_u1], by simp [cq_nw, cq_z, cx_u1]⟩
theorem cx_R.push {t : Nat} {n : Int} (hR : cx_R ra D cl tys TY B b L xs h H) (ht : t ≠ 98) (hz : H1.size = H.size + 1) (ho : ∀ q, q < H.size → H1[q]? = H[q]?) (hc : cx_ce ra D cl tys TY (cq_nw h t n) H1 h.1) : cx_R ra D cl tys TY B b L xs (cq_nw h t n) H1 := by
  refine ⟨⟨by rw [hz, hR.1.1]; rfl, Nat.le_succ_of_le hR.1.2⟩, fun q hq => ?_⟩
  by_cases e : q = h.1
  · subst e
    exact ⟨Nat.lt_succ_self _, Or.inr ⟨by rw [cx_nw_s.1]; exact ht, hR.1.2, hc⟩⟩
  · obtain ⟨f1, f2, f3, f4⟩ := cx_nw_ne (h := h) (t := t) (n := n) e
    rw [f1] at hq ⊢
    obtain ⟨g1, g2⟩ := hR.2 q hq
    refine ⟨Nat.lt_succ_of_lt g1, ?_⟩
    rcases g2 with ⟨m1, m2, m3, m4, m5, m6⟩ | ⟨m1, m2, m3⟩
    · exact Or.inl ⟨m1, m2, m3, by rw [f2]; exact m4, m5, fun r hr => by rw [f4]; exact m6 r hr⟩
    · exact Or.inr ⟨m1, m2, m3.kept (ho _ (by rw [hR.1.1]; exact g1)) f1 f2 f3 f4⟩
theorem cx_nw_ck {t : Nat} {n : Int} {ty : FieldType} {j : Int} (h4 : ev_fs ty < 4) : cx_ck (ev_fs ty) (defaultValue ty) (cq_nw h t n) h.1 j := by
  have hI : cq_I (cq_nw h t n) h.1 j = 0 := by simp [cq_nw, cq_I, cx_u1]
  have hJ : cq_J (cq_nw h t n) h.1 j = 0 := by simp [cq_nw, cq_J, cx_u1]
  have hA : cq_A (cq_nw h t n) h.1 j = none := by simp [cq_nw, cq_A, cx_u1]
  refine ⟨?_, fun _ => Or.inl hI⟩
  cases ty with
  | int => show cx_g _ (.inl (cq_I (cq_nw h t n) h.1 j)); rw [hI]; exact ⟨0, rfl, rfl⟩
  | long => show cx_g _ (.inr (.inl (cq_J (cq_nw h t n) h.1 j))); rw [hJ]; rfl
  | boolean => show cx_g _ (.inl (cq_I (cq_nw h t n) h.1 j)); rw [hI]; exact ⟨0, rfl, rfl⟩
  | object n => show cx_g _ (.inr (.inr (cq_A (cq_nw h t _) h.1 j))); rw [hA]; rfl
  | array t => show cx_g _ (.inr (.inr (cq_A (cq_nw h _ n) h.1 j))); rw [hA]; rfl
  | _ => exact absurd h4 (by simp [ev_fs])
/-- what stands below B is as it was, and what was written stands from B on -/
theorem cx_Lo_put {q : Nat} {z : Nat} (hL : ev_Lo B H0 H locs) (hq : B ≤ q) (ho : ∀ r, r ≠ q → H1[r]? = H[r]?) : ev_Lo B H0 H1 (locs ++ [⟨q, z⟩]) := by
  refine ⟨fun r hr => by rw [ho r (by omega)]; exact hL.1 r hr, fun r hr => ?_⟩
  rcases List.mem_append.mp hr with h1 | h1
  · exact hL.2 r h1
  · rw [List.mem_singleton.mp h1]; exact hq
theorem cx_Lo_push (hL : ev_Lo B H0 H locs) (hB : B ≤ H.size) (ho : ∀ q, q < H.size → H1[q]? = H[q]?) : ev_Lo B H0 H1 locs :=
  ⟨fun q hq => by rw [ho q (by omega)]; exact hL.1 q hq, hL.2⟩
end CXR
