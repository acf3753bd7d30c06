/-! arrays: elements read and written at known places -/
def ev_idx (a : ev_A) : Option Nat := if a.1 == 0 && a.2.1 == a.2.2 && decide (0 ≤ a.2.1) then some a.2.1.toNat else none
theorem ev_idx_ok {B b : Nat} {v : Value} {a : ev_A} {j : Nat} (hv : ev_g B b v a) (h : ev_idx a = some j) : ∃ x : Int32, v = .int x ∧ ¬ x < 0 ∧ x.toNatClampNeg = j := by
  unfold ev_idx at h
  split at h
  · rename_i hq
    simp only [Bool.and_eq_true, decide_eq_true_eq, beq_iff_eq] at hq
    obtain ⟨x, rfl, h1, h2⟩ := ev_isI hv (by simpa using hq.1.1)
    cases h
    have e : x.toInt = a.2.1 := by omega
    refine ⟨x, rfl, ?_, ?_⟩
    · rw [Int32.lt_iff_toInt_lt]
      show ¬ x.toInt < 0
      omega
    · show x.toInt.toNat = _
      rw [e]
  · cases h
section EVG
variable {p : Program} {l : Launch} {e : Env} {R : Room} {s : State} {m : MethodId} {args : Array Value} {below : List Frame} {meth : Method} {c : Code} {H : Heap} {locs : List Loc} {cells slots : Nat} {Q : State → Prop}
variable {cc : ByteArray} {pc : Nat} {ls : Array Slot} {B b : Nat} {rest : List Value} {D : va_G} {cl : List vw_C} {tys : List (ClassId × FieldType)} {i j t : Nat} {h : ev_Q} {cell : ev_C} {H0 : Heap} {x : Int32}
theorem ev_nin {n : Nat} (h0 : ¬ x < 0) (hj : x.toNatClampNeg = j) (hlt : j < n) : ¬ (x < 0 ∨ n ≤ x.toNatClampNeg) := by
  rintro (q | q)
  · exact h0 q
  · omega
theorem ev_r_ald {ty : FieldType} {ins : Instr} (hins : (ins = .iaload ∧ ty = .int) ∨ (ins = .laload ∧ ty = .long) ∨ (ins = .baload ∧ ty = .boolean) ∨ (ins = .aaload ∧ ∃ E, ty = .object E)) (hx : p.tables.exec = Jvm.exec) (hb : c.code = cc) (hK : va_K D cl tys s) (hR : ev_R D cl tys B b h H) (hcl : cl.length ≤ 100) (hi : ev_hg h i = some cell) (hct : cell.1 = 100 + t) (htt : ∃ cA, tys[t]? = some (cA, ty)) (h0 : ¬ x < 0) (hj : x.toNatClampNeg = j) (hlt : j < cell.2.1) (hdg : decode cc pc = .ok (ins, 1))
    (kk : ∀ v : Value, ev_g B b v (ev_cg cell j) → W p l e R s m args below meth c H locs cells slots Q (F0 m (pc + 1) ls (v :: rest))) : W p l e R s m args below meth c H locs cells slots Q (F0 m pc ls (.int x :: .ref (B + i) :: rest)) := by
  obtain ⟨cA, ty', f, h1, h2, h3⟩ := ev_arr hR hcl hi hct
  obtain ⟨cA2, h1'⟩ := htt
  have e1 := Option.some.inj (h1.symm.trans h1')
  obtain ⟨rfl, rfl⟩ := Prod.mk.inj e1
  have hA := (hK.2 t _ h1).1 cell.2.1 f
  have hin : ¬ (x < 0 ∨ (arrV cA cell.2.1 f).slots.size ≤ x.toNatClampNeg) := by rw [arrV_size]; exact ev_nin h0 hj hlt
  have hrd : (arrV cA cell.2.1 f).slots[x.toNatClampNeg]? = some (f j) := by rw [hj]; exact arrV_read _ _ hlt
  rcases hins with ⟨rfl, rfl⟩ | ⟨rfl, rfl⟩ | ⟨rfl, rfl⟩ | ⟨rfl, E, rfl⟩
  · exact W.iald hx hb h2 hA (fun q => by cases q) hin hrd rfl rfl hdg (kk _ (h3 j hlt))
  · exact W.lald hx hb h2 hA (fun q => by cases q) hin hrd rfl rfl hdg (kk _ (h3 j hlt))
  · exact W.zald hx hb h2 hA (fun q => by cases q) hin hrd rfl rfl hdg (kk _ (h3 j hlt))
  · exact W.aald hx hb h2 hA rfl (fun q => by cases q) hin hrd rfl rfl hdg (kk _ (h3 j hlt))
theorem ev_ast_R {ty : FieldType} {cA : ClassId} {f : Nat → Value} {v : Value} {a : ev_A} {H1 : Heap} (hR : ev_R D cl tys B b h H) (hct : cell.1 = 100 + t) (h1 : tys[t]? = some (cA, ty)) (h3 : ∀ j, j < cell.2.1 → ev_g B b (f j) (ev_cg cell j)) (hj : x.toNatClampNeg = j) (hv : ev_g B b v a)
    (e : H1[B + i]? = some ((arrV cA cell.2.1 f).setSlot x.toNatClampNeg v)) (z : H1.size = H.size) (oq : ∀ q, q ≠ B + i → H1[q]? = H[q]?) : ev_R D cl tys B b (ev_hs h i (ev_cs cell j a)) H1 := by
  refine hR.set z oq (Or.inr ⟨t, cA, ty, updV f j v, hct, h1, ?_, fun q hq => ?_⟩)
  · rw [e, arrV_store, hj]; rfl
  · rw [ev_cg_cs]
    unfold updV
    by_cases hq2 : q = j
    · rw [if_pos hq2, if_pos hq2]; exact hv
    · rw [if_neg hq2, if_neg hq2]; exact h3 q hq
theorem ev_r_ast {ty : FieldType} {ins : Instr} {v : Value} {a : ev_A} (hins : (ins = .iastore ∧ ty = .int) ∨ (ins = .lastore ∧ ty = .long) ∨ (ins = .bastore ∧ ty = .boolean)) (hx : p.tables.exec = Jvm.exec) (hb : c.code = cc) (hK : va_K D cl tys s) (hR : ev_R D cl tys B b h H) (hL : ev_Lo B H0 H locs) (hcl : cl.length ≤ 100) (hi : ev_hg h i = some cell) (hct : cell.1 = 100 + t) (htt : ∃ cA, tys[t]? = some (cA, ty)) (h0 : ¬ x < 0) (hj : x.toNatClampNeg = j) (hlt : j < cell.2.1) (hv : ev_g B b v a) (hfit : ev_fit (ev_fs ty) a = true) (hdg : decode cc pc = .ok (ins, 1))
    (kk : ∀ (H1 : Heap) (locs1 : List Loc), ev_R D cl tys B b (ev_hs h i (ev_cs cell j a)) H1 → ev_Lo B H0 H1 locs1 → W p l e R s m args below meth c H1 locs1 cells slots Q (F0 m (pc + 1) ls rest)) : W p l e R s m args below meth c H locs cells slots Q (F0 m pc ls (v :: .int x :: .ref (B + i) :: rest)) := by
  obtain ⟨cA, ty', f, h1, h2, h3⟩ := ev_arr hR hcl hi hct
  obtain ⟨cA2, h1'⟩ := htt
  have e1 := Option.some.inj (h1.symm.trans h1')
  obtain ⟨rfl, rfl⟩ := Prod.mk.inj e1
  have hA := (hK.2 t _ h1).1 cell.2.1 f
  have hin : ¬ (x < 0 ∨ (arrV cA cell.2.1 f).slots.size ≤ x.toNatClampNeg) := by rw [arrV_size]; exact ev_nin h0 hj hlt
  obtain ⟨hn, -⟩ := ev_fit_ok hv hfit
  rcases hins with ⟨rfl, rfl⟩ | ⟨rfl, rfl⟩ | ⟨rfl, rfl⟩
  · obtain ⟨y, rfl, -⟩ := ev_isI hv hfit
    exact W.iast hx hb h2 hA (fun q => by cases q) hin rfl rfl hdg fun H1 e z oq => kk H1 _ (ev_ast_R hR hct h1 h3 hj hv e z oq) (hL.put oq)
  · obtain ⟨y, rfl, -⟩ := ev_isL hv hfit
    exact W.last hx hb h2 hA (fun q => by cases q) hin rfl rfl hdg fun H1 e z oq => kk H1 _ (ev_ast_R hR hct h1 h3 hj hv e z oq) (hL.put oq)
  · obtain ⟨y, rfl, -⟩ := ev_isI hv (by simp only [ev_fs, ev_fit, Bool.and_eq_true] at hfit; exact hfit.1.1)
    exact W.zast hx hb h2 hA (fun q => by cases q) hin rfl rfl hdg fun H1 e z oq => kk H1 _ (ev_ast_R hR hct h1 h3 hj hv (by rw [e, hn]) z oq) (hL.put oq)
/-- null, or an object of the array's own class, into an array of references -/
theorem ev_r_aast {E : String} {v : Value} {a : ev_A} (hx : p.tables.exec = Jvm.exec) (hb : c.code = cc) (hK : va_K D cl tys s) (hR : ev_R D cl tys B b h H) (hL : ev_Lo B H0 H locs) (hcl : cl.length ≤ 100) (hi : ev_hg h i = some cell) (hct : cell.1 = 100 + t) (htt : ∃ cA, tys[t]? = some (cA, .object E)) (h0 : ¬ x < 0) (hj : x.toNatClampNeg = j) (hlt : j < cell.2.1) (hv : ev_g B b v a) (hfit : a.1 = 3 ∨ (a.1 = 2 ∧ ∃ (c2 : ev_C) (T : u_T) (N : Nat), ev_hg h a.2.1.toNat = some c2 ∧ cl[c2.1]? = some (E, T, N))) (hdg : decode cc pc = .ok (.aastore, 1))
    (kk : ∀ (H1 : Heap) (locs1 : List Loc), ev_R D cl tys B b (ev_hs h i (ev_cs cell j a)) H1 → ev_Lo B H0 H1 locs1 → W p l e R s m args below meth c H1 locs1 cells slots Q (F0 m (pc + 1) ls rest)) : W p l e R s m args below meth c H locs cells slots Q (F0 m pc ls (v :: .int x :: .ref (B + i) :: rest)) := by
  obtain ⟨cA, ty', f, h1, h2, h3⟩ := ev_arr hR hcl hi hct
  obtain ⟨cA2, h1'⟩ := htt
  have e1 := Option.some.inj (h1.symm.trans h1')
  obtain ⟨rfl, rfl⟩ := Prod.mk.inj e1
  have hA := (hK.2 t _ h1).1 cell.2.1 f
  have hin : ¬ (x < 0 ∨ (arrV cA cell.2.1 f).slots.size ≤ x.toNatClampNeg) := by rw [arrV_size]; exact ev_nin h0 hj hlt
  rcases hfit with hf | ⟨hf, c2, T, N, hc2, hcl2⟩
  · have hv' : v = .null := by
      obtain ⟨z, z1, z2⟩ := a
      dsimp only at hf
      subst hf
      exact hv
    subst hv'
    exact va_WaastN hx hb h2 hA (fun q => by cases q) hin rfl rfl hdg fun H1 e z oq => kk H1 _ (ev_ast_R hR hct h1 h3 hj hv e z oq) (hL.put oq)
  · have hv' : v = .ref (B + a.2.1.toNat) := by
      obtain ⟨z, z1, z2⟩ := a
      dsimp only at hf
      subst hf
      exact hv
    subst hv'
    obtain ⟨V, ⟨cellV, g1, g2, g3, -⟩, -⟩ := ev_obj hR hcl hcl2 hc2 rfl
    have hcls := (hK.1 c2.1 _ hcl2).2
    obtain ⟨kA, comp, k1, k2, k3, -⟩ := (hK.2 t _ h1).2
    have hcomp : comp = D.1 c2.1 := Option.some.inj (k3.symm.trans hcls.1)
    subst hcomp
    obtain ⟨kC, hkC, -⟩ := hcls.2
    exact W.aast hx hb h2 (fun q h => by cases h) (fun h => by cases h) k1 k2 rfl hkC ⟨h0, by rw [arrV_size, hj]; exact hlt⟩ g1 (fun q h => by rw [g3] at h; cases h) (by rw [g2]; exact hkC) (by rw [g2]; exact va_assign hcls) rfl rfl hdg fun H1 e z oq => kk H1 _ (ev_ast_R hR hct h1 h3 hj hv e z oq) (hL.put oq)
theorem ev_r_alen (hx : p.tables.exec = Jvm.exec) (hb : c.code = cc) (hK : va_K D cl tys s) (hR : ev_R D cl tys B b h H) (hcl : cl.length ≤ 100) (hi : ev_hg h i = some cell) (hct : cell.1 = 100 + t) (hsm : cell.2.1 ≤ 60000) (hdg : decode cc pc = .ok (.arraylength, 1))
    (kk : ∀ v : Value, ev_g B b v (ev_I cell.2.1) → W p l e R s m args below meth c H locs cells slots Q (F0 m (pc + 1) ls (v :: rest))) : W p l e R s m args below meth c H locs cells slots Q (F0 m pc ls (.ref (B + i) :: rest)) := by
  obtain ⟨cA, ty, f, h1, h2, h3⟩ := ev_arr hR hcl hi hct
  have hA := (hK.2 t _ h1).1 cell.2.1 f
  have hz : (Int32.ofNat cell.2.1).toInt = cell.2.1 := nI_toInt (n := cell.2.1) (by omega)
  refine W.alen (n := Int32.ofNat cell.2.1) hx hb h2 hA (by rw [arrV_size] <;> rfl) rfl rfl hdg (kk _ ⟨_, rfl, ?_, ?_⟩)
  · show (cell.2.1 : Int) ≤ _
    rw [hz]; exact Int.le_refl _
  · show _ ≤ (cell.2.1 : Int)
    rw [hz]; exact Int.le_refl _
end EVG
/-! the script: what its length and its ints may be -/
def ev_Sc (sg : List ev_A) (L : Nat) (xs : Nat → Int32) : Prop := L < 2 ^ 31 ∧ (∀ a, sg[0]? = some a → ev_g 0 0 (.int (nI L)) a) ∧ ∀ (j : Nat) (a : ev_A), sg[j + 1]? = some a → j < L → ev_g 0 0 (.int (xs j)) a
theorem ev_gI {B b B' b' : Nat} {x : Int32} {a : ev_A} (h : ev_g B b (.int x) a) : ev_g B' b' (.int x) a := by
  unfold ev_g at h ⊢
  split at h
  · simp_all
  · obtain ⟨y, hy, -⟩ := h; cases hy
  · cases h
  · cases h
  · cases h
theorem ev_Sc.set {sg : List ev_A} {L : Nat} {xs : Nat → Int32} {j : Nat} {a : ev_A} (h : ev_Sc sg L xs) (ha : ev_g 0 0 (.int (xs j)) a) : ev_Sc (sg.set (j + 1) a) L xs := by
  refine ⟨h.1, fun a' h' => h.2.1 a' ?_, fun i a' h' hi => ?_⟩
  · rw [List.getElem?_set_ne (by omega)] at h'; exact h'
  · by_cases e : j = i
    · subst e
      rw [List.getElem?_set] at h'
      simp only [if_true] at h'
      split at h'
      · cases h'; exact ha
      · cases h'
    · rw [List.getElem?_set_ne (by omega)] at h'
      exact h.2.2 i a' h' hi
section EVX
variable {p : Program} {l : Launch} {e : Env} {R : Room} {s : State} {m : MethodId} {args : Array Value} {below : List Frame} {meth : Method} {c : Code} {H : Heap} {locs : List Loc} {cells slots : Nat} {Q : State → Prop}
variable {cc : ByteArray} {pc : Nat} {ls : Array Slot} {B b L : Nat} {rest : List Value} {xs : Nat → Int32} {H0 : Heap} {x : Int32} {sg : List ev_A}
theorem ev_r_sld {j : Nat} (hx : p.tables.exec = Jvm.exec) (hb : c.code = cc) (hX : va_X b L xs s H0) (hbB : b < B) (hL : ev_Lo B H0 H locs) (h0 : ¬ x < 0) (hj : x.toNatClampNeg = j) (hlt : j < L) (hdg : decode cc pc = .ok (.iaload, 1))
    (kk : W p l e R s m args below meth c H locs cells slots Q (F0 m (pc + 1) ls (.int (xs j) :: rest))) : W p l e R s m args below meth c H locs cells slots Q (F0 m pc ls (.int x :: .ref b :: rest)) := by
  obtain ⟨scr, h1, h2, h3, h4, h5⟩ := hX
  exact W.iald (v := .int (xs j)) hx hb (by rw [hL.1 b hbB]; exact h1) h2 h3 (by rw [h4]; exact ev_nin h0 hj hlt) (by rw [hj]; exact h5 _ hlt) rfl rfl hdg kk
theorem ev_r_slen (hx : p.tables.exec = Jvm.exec) (hb : c.code = cc) (hX : va_X b L xs s H0) (hbB : b < B) (hL : ev_Lo B H0 H locs) (hdg : decode cc pc = .ok (.arraylength, 1))
    (kk : W p l e R s m args below meth c H locs cells slots Q (F0 m (pc + 1) ls (.int (nI L) :: rest))) : W p l e R s m args below meth c H locs cells slots Q (F0 m pc ls (.ref b :: rest)) := by
  obtain ⟨scr, h1, h2, h3, h4, h5⟩ := hX
  exact W.alen (n := nI L) hx hb (by rw [hL.1 b hbB]; exact h1) h2 (by rw [h4] <;> rfl) rfl rfl hdg kk
end EVX
/-- an int's bounds cut at places: parts that cover it -/
def ev_cut (l h : Int) : List Int → List ev_A
  | [] => [(0, l, h)]
  | k :: ks => if l < k ∧ k ≤ h then (0, l, k - 1) :: ev_cut k h ks else ev_cut l h ks
theorem ev_cut_ok {B b : Nat} {x : Int32} : ∀ {ks : List Int} {l h : Int}, l ≤ x.toInt → x.toInt ≤ h → ∃ a ∈ ev_cut l h ks, ev_g B b (.int x) a
  | [], l, h, h1, h2 => ⟨_, List.mem_singleton.mpr rfl, x, rfl, h1, h2⟩
  | k :: ks, l, h, h1, h2 => by
    unfold ev_cut
    split
    · by_cases hk : x.toInt < k
      · exact ⟨_, List.mem_cons_self, x, rfl, h1, by show x.toInt ≤ k - 1; omega⟩
      · obtain ⟨a, m1, m2⟩ := ev_cut_ok (ks := ks) (l := k) (h := h) (by omega) h2
        exact ⟨a, List.mem_cons_of_mem _ m1, m2⟩
    · exact ev_cut_ok h1 h2
