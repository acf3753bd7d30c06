/-! methods over longs alone: loops with a counter, and the contract 'some long comes back' -/
def ev_le (a a' : ev_A) : Bool := a.1 == a'.1 && decide (a.1 < 2) && decide (a'.2.1 ≤ a.2.1) && decide (a.2.2 ≤ a'.2.2)
theorem ev_le_ok {B b : Nat} {v : Value} {a a' : ev_A} (h : ev_g B b v a) (q : ev_le a a' = true) : ev_g B b v a' := by
  obtain ⟨t, l1, h1⟩ := a
  obtain ⟨t', l2, h2⟩ := a'
  simp only [ev_le, Bool.and_eq_true, decide_eq_true_eq, beq_iff_eq] at q
  obtain ⟨⟨⟨rfl, q1⟩, q2⟩, q3⟩ := q
  match t, q1, h with
  | 0, _, h =>
    obtain ⟨x, e, a1, a2⟩ := h
    exact ⟨x, e, Int.le_trans q2 a1, Int.le_trans a2 q3⟩
  | 1, _, h =>
    obtain ⟨x, e, a1, a2⟩ := h
    exact ⟨x, e, Int.le_trans q2 a1, Int.le_trans a2 q3⟩
  | n + 2, q1, _ => exact absurd q1 (by omega)
def ev_cov (lv : List (Nat × ev_A)) : List (Nat × ev_A) → Bool
  | [] => true
  | q :: r => (match ev_look lv q.1 with
    | some a => ev_le a q.2
    | none => false) && ev_cov lv r
theorem ev_cov_ok {B b nL : Nat} {ls : Array Slot} {clv : List (Nat × Value)} {lv : List (Nat × ev_A)} (hl : lv_has ls nL clv) (h2 : ev_g2 B b clv lv) : ∀ {lw : List (Nat × ev_A)}, ev_cov lv lw = true → ∃ clw, lv_has ls nL clw ∧ ev_g2 B b clw lw
  | [], _ => ⟨[], ⟨hl.1, hl.2.1, fun _ q => by cases q⟩, trivial⟩
  | q :: r, h => by
    unfold ev_cov at h
    rw [Bool.and_eq_true] at h
    obtain ⟨clw, h3, h4⟩ := ev_cov_ok hl h2 h.2
    have h5 := h.1
    split at h5
    · rename_i a ha
      obtain ⟨k, v, e1, e2⟩ := ev_look_ok h2 ha
      refine ⟨(q.1, v) :: clw, ⟨hl.1, hl.2.1, fun x hx => ?_⟩, ⟨rfl, ev_le_ok e2 h5⟩, h4⟩
      rcases List.mem_cons.mp hx with rfl | hx
      · exact lv_at hl k e1
      · exact h3.2.2 x hx
    · cases h5
/-- a run stops at the loop's head, when its locals are within these -/
def ev_stp (idb : ev_M → Bool) (pc0 : Nat) (lw : List (Nat × ev_A)) (S : ev_S) : Bool := match S with
  | ([(M, pc, lv, st, bc, bs)], h, sg) => pc == pc0 && idb M && st.isEmpty && bc == 0 && bs == 0 && h.1 == 0 && h.2.isEmpty && sg.isEmpty && ev_cov lv lw
  | _ => false
def ev_nostop : ev_S → Bool := fun _ => false
/-- some long, and no cell was made -/
def ev_finL (a : Option ev_A) (h : ev_Q) : Bool := (match a with
  | some x => x.1 == 1
  | none => false) && h.1 == 0 && h.2.isEmpty
section EVL
variable {l : Launch} {D : va_G} {tys : List (ClassId × FieldType)} {Tg Tn : List Cond} {AO : List String} {o : Bool} {B b L : Nat} {xs : Nat → Int32} {G : ev_G} {TY : Nat → Nat → FieldType} {PG : List ev_M} {dk : ev_M → Prop} {fin : Option ev_A → ev_Q → Bool} {M0 : ev_M}
theorem ev_loop (idb : ev_M → Bool) (hid : ∀ M, dk M → idb M = true → M = M0) (pc0 N n : Nat) (lw : Nat → List (Nat × ev_A)) (Fx : ev_Fx Tg Tn G TY) (hM : ∀ M ∈ PG, ev_mok Tg Tn AO G TY PG M) (hdk : ∀ M ∈ PG, dk M) (hdd : ∀ M, dk M → ∀ (pc : Nat) (E : ev_E), ev_at M pc = some E → decode (ev_mB M) pc = .ok (E.1, E.2.1) ∧ ev_lok Tg Tn AO G TY PG (ev_mN M).cls (ev_mK M) E) (hPl : PG.length ≤ 900) (ht : tys.map Prod.snd = G.2.1) (hv : ∀ M ∈ PG, 10 ≤ ev_mK M → ev_Hv l Tg M)
    (hb : ev_run G PG fin ev_nostop n ([(M0, pc0, lw N, [], 0, 0)], (0, []), []) = true) (hs : ∀ j, j < N → ev_run G PG fin (ev_stp idb pc0 (lw (j + 1))) n ([(M0, pc0, lw j, [], 0, 0)], (0, []), []) = true) :
    ∀ (i : Nat), i ≤ N → ev_Goal G PG fin ev_nostop l D tys Tg Tn AO o B b L xs dk 0 ([(M0, pc0, lw (N - i), [], 0, 0)], (0, []), []) := by
  intro i
  induction i with
  | zero =>
    intro _
    have q := ev_sound (l := l) (D := D) (o := o) (B := B) (b := b) (L := L) (xs := xs) (fin := fin) (stop := ev_nostop) Fx hM hdk hdd hPl ht hv (fun _ _ h => by cases h) n _ hb
    exact fun h1 h2 p e R s m args below meth c Q H locs cells slots ls clv cst mc ms a1 a2 a3 a4 a5 a6 a7 a8 a9 a10 a11 a12 a13 a14 => q h1 h2 p e R s m args below meth c Q H locs cells slots ls clv cst mc ms a1 a2 a3 a4 a5 a6 a7 a8 a9 a10 a11 a12 a13 a14
  | succ i ih =>
    intro hi
    have ih := ih (by omega)
    have e1 : N - i = (N - (i + 1)) + 1 := by omega
    rw [e1] at ih
    have q := ev_sound (l := l) (D := D) (o := o) (B := B) (b := b) (L := L) (xs := xs) (fin := fin) (stop := ev_stp idb pc0 (lw (N - (i + 1) + 1))) (dk := dk) Fx hM hdk hdd hPl ht hv ?_ n _ (hs (N - (i + 1)) (by omega))
    · exact fun h1 h2 p e R s m args below meth c Q H locs cells slots ls clv cst mc ms a1 a2 a3 a4 a5 a6 a7 a8 a9 a10 a11 a12 a13 a14 => q h1 h2 p e R s m args below meth c Q H locs cells slots ls clv cst mc ms a1 a2 a3 a4 a5 a6 a7 a8 a9 a10 a11 a12 a13 a14
    · intro n2 S hS
      unfold ev_stp at hS
      split at hS
      · rename_i M pc lv st bc bs h sg
        obtain ⟨hn, hl⟩ := h
        simp only [Bool.and_eq_true, beq_iff_eq, List.isEmpty_iff] at hS
        obtain ⟨⟨⟨⟨⟨⟨⟨⟨rfl, g1⟩, rfl⟩, rfl⟩, rfl⟩, rfl⟩, rfl⟩, rfl⟩, g2⟩ := hS
        intro h1 h2 p e R s m args below meth c Q H locs cells slots ls clv cst mc ms a1 a2 a3 a4 a5 a6 a7 a8 a9 a10 a11 a12 a13 a14
        have hMM := hid M h1 g1
        subst hMM
        obtain ⟨clw, c1, c2⟩ := ev_cov_ok a2 a3 g2
        exact ih h1 h2 p e R s m args below meth c Q H locs cells slots ls clw cst mc ms a1 c1 c2 a4 a5 a6 a7 a8 a9 a10 a11 a12 a13 a14
      · cases hS
end EVL
theorem ev_tops {B b : Nat} : ∀ (ys : List Int64), ev_g1 B b (ys.map Value.long) (List.replicate ys.length ev_tL)
  | [] => trivial
  | y :: ys => ⟨ev_tL_ok y, ev_tops ys⟩
theorem ev_fx_e {Tg : List Cond} (h : ∀ w ∈ Tg, (w.onTables && w.keeps) = true ∨ ∃ ty, w = .arrayClass ty) : ev_Fx Tg [] ([], [], []) (fun _ _ => .int) :=
  ⟨Nat.zero_le _, h, fun _ q => (by cases q), fun ci C T N q => (by simp at q), fun ci c q => (by simp at q)⟩
/-- the contract of a method over longs -/
theorem ev_hv_of {l : Launch} {Tg : List Cond} {PG : List ev_M} {dk : ev_M → Prop} {stop : ev_S → Bool} {M : ev_M} {n : Nat} (hk : ev_mok Tg [] [] ([], [], []) (fun _ _ => .int) PG M) (hdk : dk M) (hdd : ∀ (pc : Nat) (E : ev_E), ev_at M pc = some E → decode (ev_mB M) pc = .ok (E.1, E.2.1)) (hK2 : ev_mK M ≠ 2)
    (hg : ∀ (D : va_G) (B : Nat), ev_Goal ([], [], []) PG ev_finL stop l D [] Tg [] [] false B 0 0 (fun _ => 0) dk n ([(M, 0, ev_args 0 (List.replicate (ev_mP M) ev_tL), [], ev_mY M, ev_mS M)], (0, []), [])) (hsz : ev_sz (List.replicate (ev_mP M) ev_tL) ≤ ev_mL M) : ev_Hv l Tg M := by
  intro ys hlen
  refine Met.ofW (cc := ev_mB M) (maxL := ev_mL M) (ret := ev_mR M) hk.1 rfl ?_
  intro p e s m args below meth c s₁ Bd hml hv
  subst hv
  have hts := atoms_spec (ws := ev_ws Tg M) Bd.pre
  have gA : ev_g1 s.heap.size 0 (ys.map Value.long) (List.replicate (ev_mP M) ev_tL) := by rw [← hlen]; exact ev_tops ys
  rw [lg_entry_eq]
  have hl := lv_entry (ys.map Value.long) (n := ev_mL M) (by rw [ev_lgsl, ev_szc gA]; exact hsz)
  have hcx : ev_Cx ((fun _ => 0, fun _ _ => 0) : va_G) [] Tg [] [] (([], [], []) : ev_G) M p s m _ meth c := ⟨Bd.exec, Bd.bytes, hml, findClass_of_methodNamed Bd.named, fun w hw => hts w (List.mem_cons_of_mem _ hw), Bd.returns, Bd.notSynchronized, fun q => absurd q hK2, ⟨fun c q hq => (by simp at hq), fun k q hq => (by simp at hq)⟩, fun _ q => (by cases q), fun _ q => (by cases q)⟩
  refine hg _ s.heap.size hdk (fun _ q => by cases q) p e _ s m _ below meth c _ s.heap [] 0 0 _ _ [] (ev_mY M) (ev_mS M) hcx hl (ev_args_ok gA) trivial ⟨rfl, fun i c q => (by simp [ev_hg, ev_nth] at q)⟩ ⟨fun _ _ => rfl, fun _ q => (by cases q)⟩ ⟨⟨by decide, fun a q => (by simp at q), fun j a q => (by simp at q)⟩, fun q => absurd rfl q, fun q => (by cases q)⟩ (by omega) (by omega) (Nat.le_refl _) (Nat.le_refl _) (Nat.le_refl _) (Nat.le_refl _) ?_
  intro H1 locs1 cells1 slots1 ls1 pc1 cst1 E1 st1 a1 h1' sg1 hP hat hlen1 hrok g1' hR1 hLo1 hSd1 hc1 hs1
  refine va_forget hLo1.2 ?_
  refine W.widen hc1 hs1 ?_
  have hd1 := hdd pc1 E1 hat
  rw [hlen1] at hd1
  have hf : ev_finL a1 h1' = true := hP
  obtain ⟨hn, hll⟩ := h1'
  unfold ev_finL at hf
  rw [Bool.and_eq_true, Bool.and_eq_true, List.isEmpty_iff, beq_iff_eq] at hf
  obtain ⟨⟨f1, rfl⟩, rfl⟩ := hf
  have hH : H1 = s.heap := by
    apply Array.ext_getElem?
    intro i
    by_cases hi : i < s.heap.size
    · exact hLo1.1 i hi
    · rw [Array.getElem?_eq_none (by rw [hR1.1]; simp; omega), Array.getElem?_eq_none (by omega)]
  refine ev_retrow hcx hd1 hrok g1' (fun v0 hv0 t0 ht0 _ => ⟨?_, by rw [ht0, hH]⟩) (fun _ q => by cases q)
  cases a1 with
  | none => cases f1
  | some a =>
    cases v0 with
    | none => exact hv0.elim
    | some v =>
      obtain ⟨x, rfl, -⟩ := ev_isL hv0 f1
      exact ⟨x, rfl⟩
