theorem ev_cl_inv {PG : List ev_M} {sort : Nat} {E : ev_E} {M : ev_M} {pc : Nat} {lv : List (Nat × ev_A)} {st : List ev_A} {bc bs : Nat} {fs : List ev_F} {h : ev_Q} {sg : List ev_A} {Lc : List ev_S} (hcl : ev_cl PG sort E M pc lv st bc bs fs h sg = some Lc) :
    ∃ (M' : ev_M) (nn : Nat), PG[E.2.2.1]? = some M' ∧ nn = (if sort == 0 then ev_mP M' else ev_mP M' + 1) ∧ ev_cok sort E M M' h (st.take nn).reverse (st.drop nn) bc bs = true ∧
      ((ev_mK M' < 10 ∧ Lc = [((M', 0, ev_args 0 (st.take nn).reverse, [], ev_mY M', ev_mS M') :: (M, pc + 3, lv, st.drop nn, bc - ev_mY M', bs - ev_mS M') :: fs, h, sg)]) ∨
       (10 ≤ ev_mK M' ∧ (st.take nn).all (fun a => a.1 == 1) = true ∧ Lc = [((M, pc + 3, lv, ev_tL :: st.drop nn, bc - ev_mY M', bs - ev_mS M') :: fs, h, sg)])) := by
  unfold ev_cl at hcl
  split at hcl
  · rename_i M' hM'
    rw [ev_nth_eq] at hM'
    generalize hnn : (if sort == 0 then ev_mP M' else ev_mP M' + 1) = nn at hcl
    refine ⟨M', nn, hM', hnn.symm, ?_⟩
    split at hcl
    · rename_i hok
      refine ⟨hok, ?_⟩
      split at hcl
      · rename_i hk
        cases hcl
        exact Or.inl ⟨hk, rfl⟩
      · rename_i hk
        split at hcl
        · rename_i ha
          cases hcl
          exact Or.inr ⟨by omega, ha, rfl⟩
        · cases hcl
    · cases hcl
  · cases hcl
section EVN
variable {p : Program} {l : Launch} {e : Env} {R : Room} {s : State} {m : MethodId} {args : Array Value} {below : List Frame} {meth : Method} {c : Code} {H : Heap} {locs : List Loc} {cells slots : Nat} {Q : State → Prop}
variable {pc : Nat} {o : Bool} {ls : Array Slot} {B b L : Nat} {xs : Nat → Int32} {D : va_G} {tys : List (ClassId × FieldType)} {Tg Tn : List Cond} {AO : List String} {G : ev_G} {TY : Nat → Nat → FieldType} {PG : List ev_M} {M : ev_M} {dk : ev_M → Prop} {fin : Option ev_A → ev_Q → Bool} {stop : ev_S → Bool}
variable {lv : List (Nat × ev_A)} {h : ev_Q} {sg st : List ev_A} {bc bs mc ms k : Nat} {cst : List Value} {clv : List (Nat × Value)} {fs : List ev_F}
theorem ev_call_ok {sort idx : Nat} {E : ev_E} {Lc : List ev_S} (Fx : ev_Fx Tg Tn G TY) (hM : ∀ M ∈ PG, ev_mok Tg Tn AO G TY PG M) (hdk : ∀ M ∈ PG, dk M) (hPl : PG.length ≤ 900) (hv : ∀ M ∈ PG, 10 ≤ ev_mK M → ev_Hv l Tg M) (ih : ∀ j, j ≤ k → ∀ S, ev_run G PG fin stop j S = true → ev_Goal G PG fin stop l D tys Tg Tn AO o B b L xs dk j S)
    (hins : (sort = 0 ∧ E.1 = .invokestatic idx) ∨ (sort = 1 ∧ E.1 = .invokevirtual idx) ∨ (sort = 2 ∧ E.1 = .invokespecial idx)) (hcl : ev_cl PG sort E M pc lv st bc bs fs h sg = some Lc) (hall : ∀ S ∈ Lc, ev_run G PG fin stop k S = true) (hMem : dk M) (hfs : ∀ f ∈ fs, dk f.1) (X : ev_Cx D tys Tg Tn AO G M p s m args meth c) (lk : ev_lok Tg Tn AO G TY PG (ev_mN M).cls (ev_mK M) E) (hd : decode (ev_mB M) pc = .ok (E.1, E.2.1))
    (hl : lv_has ls (ev_mL M) clv) (h2 : ev_g2 B b clv lv) (h1 : ev_g1 B b cst st) (hR : ev_R D G.1 tys B b h H) (hL : ev_Lo B s.heap H locs) (hS : ev_Sd o B b L xs s sg) (hc : cells + bc ≤ mc) (hs : slots + bs ≤ ms) (hmc : mc ≤ R.cells) (hms : ms ≤ R.slots) (hF : ev_mF M ≤ R.frames) (hO : ev_mO M ≤ R.locals) (hRH : ev_RH G PG fin stop l D tys o B b L xs (k + 1) fs M p e R s m args below meth c Q mc ms) : W p l e R s m args below meth c H locs cells slots Q (F0 m pc ls cst) := by
  obtain ⟨M', nn, hu, hnn, hok, hcase⟩ := ev_cl_inv hcl
  have hM'm : M' ∈ PG := List.mem_of_getElem? hu
  have hk := hM M' hM'm
  obtain ⟨ins, len, u, v, z⟩ := E
  have hu9 : u < 900 := by
    have : u < PG.length := (List.getElem?_eq_some_iff.mp hu).1
    omega
  unfold ev_cok at hok
  simp only [Bool.and_eq_true, decide_eq_true_eq, beq_iff_eq] at hok
  obtain ⟨⟨⟨⟨⟨⟨⟨⟨⟨o1, o2⟩, o3⟩, o4⟩, o5⟩, o6⟩, o7⟩, o8⟩, o9⟩, o10⟩ := hok
  subst o1
  obtain ⟨gT, gD⟩ := ev_g1_take nn h1
  have gA := ev_g1_rev gT
  have hst : cst = (cst.take nn).reverse.reverse ++ cst.drop nn := by rw [List.reverse_reverse, List.take_append_drop]
  have hlen : (cst.take nn).reverse.length = if sort = 0 then ev_mP M' else ev_mP M' + 1 := by
    rw [ev_g1_len gA, o3]
  have hW8 : ((cst.drop nn).map fun v => v.category).sum ≤ 8 := by rw [ev_szc gD]; exact o6
  have hrecv : sort ≠ 0 → ∃ (i : Nat) (As' : List Value), (cst.take nn).reverse = .ref (B + i) :: As' ∧ (sort = 1 → ∃ c2 : ev_C, ev_hg h i = some c2 ∧ c2.1 = v) := by
    intro h0
    generalize (cst.take nn).reverse = As at gA
    generalize (st.take nn).reverse = as at gA o4
    rcases hins with ⟨rfl, -⟩ | ⟨rfl, -⟩ | ⟨rfl, -⟩
    · exact absurd rfl h0
    · simp only [ev_recv] at o4
      split at o4
      · rename_i t z1 z2 as'
        rw [Bool.and_eq_true] at o4
        obtain ⟨w, ws, rfl, e1, -⟩ := ev_cons gA
        have := ev_ref2 e1 o4.1
        subst this
        refine ⟨_, _, rfl, fun _ => ?_⟩
        have o4b := o4.2
        split at o4b
        · rename_i c2 hc2
          exact ⟨c2, hc2, by simpa using o4b⟩
        · cases o4b
      · cases o4
    · simp only [ev_isR] at o4
      split at o4
      · rename_i t z1 z2 as'
        obtain ⟨w, ws, rfl, e1, -⟩ := ev_cons gA
        have := ev_ref2 e1 o4
        subst this
        exact ⟨_, _, rfl, fun q => absurd q (by decide)⟩
      · cases o4
  rcases hcase with ⟨hK10, rfl⟩ | ⟨hK10, hlong, rfl⟩
  · have hrun := hall _ (List.mem_singleton.mpr rfl)
    have hMet : Met l (ev_mN M') (ev_ws Tg M') (ev_rm M') (fun a U => a = ((cst.take nn).reverse).toArray ∧ ev_R D G.1 tys B b h U.heap ∧ ev_Kw D G.1 tys Tn AO U ∧ ev_Sd o B b L xs U sg) (fun _ st0 oc t => ∃ (a : Option ev_A) (v : Option Value) (h' : ev_Q) (sg' : List ev_A), oc = .returned v ∧ ev_vr B b v a ∧ ev_R D G.1 tys B b h' t.heap ∧ (∀ q : Nat, q < B → t.heap[q]? = st0.heap[q]?) ∧ ev_Sc sg' L xs ∧ (sg' ≠ [] → o = true) ∧ ev_P G PG fin stop k ((M, pc + 3, lv, st.drop nn, bc - ev_mY M', bs - ev_mS M') :: fs) a h' sg') (ev_mY M') (ev_mS M') (fun q => B ≤ q) := by
      refine Met.ofW (cc := ev_mB M') (maxL := ev_mL M') (ret := ev_mR M') hk.1 rfl ?_
      intro p' e' s' m' args' below' meth' c' s₁' Bd hml' hv'
      obtain ⟨rfl, hR', hKw', hS'⟩ := hv'
      have hts' := atoms_spec (ws := ev_ws Tg M') Bd.pre
      rw [lg_entry_eq]
      have hl' := lv_entry ((cst.take nn).reverse) (n := ev_mL M') (by rw [ev_lgsl, ev_szc gA]; exact o5)
      have hcx : ev_Cx D tys Tg Tn AO G M' p' s' m' _ meth' c' := ⟨Bd.exec, Bd.bytes, hml', findClass_of_methodNamed Bd.named, fun w hw => hts' w (List.mem_cons_of_mem _ hw), Bd.returns, Bd.notSynchronized, fun q => (name_of_methodNamed Bd.named Bd.method).1.trans (hk.2.2.2.2.2.2.1 (by rw [q])).1, hKw'⟩
      refine ih k (Nat.le_refl _) _ hrun (hdk _ hM'm) (fun f hf => ?_) p' e' _ s' m' _ below' meth' c' _ s'.heap [] 0 0 _ _ [] (ev_mY M') (ev_mS M') hcx hl' (ev_args_ok gA) trivial hR' ⟨fun _ _ => rfl, fun _ q => by cases q⟩ hS' (by omega) (by omega) (Nat.le_refl _) (Nat.le_refl _) (Nat.le_refl _) (Nat.le_refl _) ?_
      · rcases List.mem_cons.mp hf with rfl | q
        · exact hMem
        · exact hfs f q
      · intro H1 locs1 cells1 slots1 ls1 pc1 cst1 E1 st1 a1 h1' sg1 hP hat hlen1 hrok g1' hR1 hLo1 hSd1 hc1 hs1
        refine W.widen hc1 hs1 ?_
        have hd1 := (hk.2.2.2.2.2.2.2 pc1 E1 hat).1
        rw [hlen1] at hd1
        refine ev_retrow hcx hd1 hrok g1' (fun v0 hv0 t0 ht0 _ => ⟨a1, v0, h1', sg1, rfl, hv0, by rw [ht0]; exact hR1, fun q hq => by rw [ht0]; exact hLo1.1 q hq, hSd1.1, hSd1.2.1, hP⟩) hLo1.2
    refine ev_call (ev_mkrun (h := h) Fx X hk hins hu9 o2 lk hu hMet ?_ ?_ hlen hrecv hR hl.1 hst hW8 hd (by omega) (by omega) (by omega) (by omega)) ?_
    · intro a U g mk q
      obtain ⟨q1, q2, q3, q4, q5, q6⟩ := q
      exact ⟨q1, q2, ev_Kw_vm (s := U) (U := U.calling g mk a) Fx.2.2.1 rfl q3, q4, q5, fun ho => ⟨(q6 ho).1, va_X.moved (u := U) (U := U.calling g mk a) (Vm.Alike.refl U.vm) (q6 ho).2⟩⟩
    · intro U hU hW
      refine ⟨rfl, by rw [hU]; exact hR, ev_Kw_warm Fx.2.2.1 hW X.2.2.2.2.2.2.2.2, hS.1, hS.2.1, fun ho => ?_⟩
      obtain ⟨q1, q2⟩ := hS.2.2 ho
      exact ⟨q1, va_X.moved hW.alike (q2.kept (by rw [hU]; exact hL.1 b q1))⟩
    · intro v0 st₀ t Lx h0 hq hLx
      obtain ⟨a, v', h', sg', e1, hvr, hR', hlo, hsc, hsn, j, hj, hrunj⟩ := hq
      cases e1
      exact ih j (by omega) _ hrunj hMem hfs p e R s m args below meth c Q t.heap _ _ _ ls clv _ mc ms X hl h2 (ev_vr_st hvr gD) hR' ⟨fun q hq => by rw [hlo q hq, h0]; exact hL.1 q hq, fun q hq => (List.mem_append.mp hq).elim (hL.2 q) (hLx q)⟩ ⟨hsc, hsn, hS.2.2⟩ (by omega) (by omega) hmc hms hF hO (ev_RH_mono G PG fin stop l D tys o B b L xs (by omega) hRH)
  · have hrun := hall _ (List.mem_singleton.mpr rfl)
    obtain ⟨ys, hys⟩ := ev_longs gT hlong
    have hAs : (cst.take nn).reverse = (ys.reverse).map Value.long := by rw [hys, List.map_reverse]
    have hylen : (ys.reverse).length = ev_mP M' := by
      have e1 := hlen
      rw [hAs, List.length_map] at e1
      rcases hins with ⟨rfl, -⟩ | ⟨rfl, -⟩ | ⟨rfl, -⟩
      · simpa using e1
      · obtain ⟨i, As', e2, -⟩ := hrecv (by decide)
        rw [hAs] at e2
        cases hy : ys.reverse with
        | nil => rw [hy] at e2; cases e2
        | cons y0 y1 => rw [hy] at e2; cases e2
      · obtain ⟨i, As', e2, -⟩ := hrecv (by decide)
        rw [hAs] at e2
        cases hy : ys.reverse with
        | nil => rw [hy] at e2; cases e2
        | cons y0 y1 => rw [hy] at e2; cases e2
    have hMet := hv M' hM'm hK10 ys.reverse hylen
    refine ev_call (ev_mkrun (h := h) Fx X hk hins hu9 o2 lk hu hMet ?_ ?_ hlen hrecv hR hl.1 hst hW8 hd (by omega) (by omega) (by omega) (by omega)) ?_
    · intro a U g mk q
      exact q
    · intro U hU hW
      show _ = _
      rw [hAs]
    · intro v0 st₀ t Lx h0 hq hLx
      obtain ⟨⟨x, e1⟩, e2⟩ := hq
      cases e1
      have e3 : t.heap = H := e2.trans h0
      rw [e3]
      exact ih k (Nat.le_refl _) _ hrun hMem hfs p e R s m args below meth c Q H _ _ _ ls clv _ mc ms X hl h2 ⟨ev_tL_ok x, gD⟩ hR ⟨hL.1, fun q hq => (List.mem_append.mp hq).elim (hL.2 q) (fun q' => (hLx q q').elim)⟩ hS (by omega) (by omega) hmc hms hF hO (ev_RH_mono G PG fin stop l D tys o B b L xs (by omega) hRH)
end EVN
