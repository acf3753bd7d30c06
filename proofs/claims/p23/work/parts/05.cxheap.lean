/-! rows of the heap: fields, arrays, objects made -/
section CXH
variable {p : Program} {l : Launch} {e : Env} {R : Room} {s : State} {m : MethodId} {args : Array Value} {below : List Frame} {meth : Method} {c : Code} {H : Heap} {locs : List Loc} {cells slots : Nat} {Q : State → Prop}
variable {cc : ByteArray} {pc : Nat} {ls : Array Slot} {B b L : Nat} {xs : Nat → Int32} {rest : List Value} {ra : cx_A} {D : va_G} {cl : List vw_C} {tys : List (ClassId × FieldType)} {TY : Nat → Nat → FieldType} {Ts : List Cond} {own C : String} {T : u_T} {N ci index k i : Nat} {h h' : cx_Q} {H0 : Heap}
theorem cx_obj (hR : cx_R ra D cl tys TY B b L xs h H) (hcl : cl.length ≤ 98) (hc : cl[ci]? = some (C, T, N)) (hi : cq_s h i = ci) :
    B ≤ i ∧ ∃ V : Nat → Value, t_OB i (D.1 ci) N (D.2 ci) H V ∧ ∀ j : Nat, j < N → cx_ck (ev_fs (TY ci j)) (V j) h i j := by
  have hlt := (List.getElem?_eq_some_iff.mp hc).1
  obtain ⟨g1, g2⟩ := hR.2 i (by omega)
  rcases g2 with ⟨m1, -⟩ | ⟨m1, m2, m3⟩
  · omega
  · refine ⟨m2, ?_⟩
    subst hi
    rcases m3 with ⟨r, V, h1, h2, h3⟩ | ⟨cA, ty, n, f, h0, -⟩
    · have hr : r = (C, T, N) := Option.some.inj (h1.symm.trans hc)
      subst hr
      exact ⟨V, h2, h3⟩
    · omega
theorem cx_arr (hR : cx_R ra D cl tys TY B b L xs h H) (hcl : cl.length ≤ 98) (hi : 100 ≤ cq_s h i) :
    B ≤ i ∧ ∃ (cA : ClassId) (ty : FieldType) (n : Nat) (f : Nat → Value), tys[(ra (cq_s h i)).2.1]? = some (cA, ty) ∧ ev_fs ty = (ra (cq_s h i)).1 ∧ cq_z h i = n ∧ n ≤ 60000 ∧ H[i]? = some (arrV cA n f) ∧ ∀ j : Nat, j < n → cx_ck (ev_fs ty) (f j) h i j := by
  obtain ⟨g1, g2⟩ := hR.2 i (by omega)
  rcases g2 with ⟨m1, -⟩ | ⟨m1, m2, m3⟩
  · omega
  · refine ⟨m2, ?_⟩
    rcases m3 with ⟨r, V, h1, -⟩ | ⟨cA, ty, n, f, h0, h1, h2, h3, h4, h5, h6⟩
    · have := (List.getElem?_eq_some_iff.mp h1).1
      omega
    · exact ⟨cA, ty, n, f, h1, h2, h3, h4, h5, h6⟩
/-- a field is read -/
theorem cx_r_get (hx : p.tables.exec = Jvm.exec) (hb : c.code = cc) (hts : ∀ w ∈ Ts, w.before args s = true) (hin : ∀ w ∈ u_ws C T N, w ∈ Ts) (hown : s.vm.findClass own = some m.cls) (hK : va_K D cl tys s) (hR : cx_R ra D cl tys TY B b L xs h H) (hcl : cl.length ≤ 98) (hc : cl[ci]? = some (C, T, N)) (hk : k < N) (hdec : (T k).1 = C)
    (hlink : (Cond.fieldLink own index C (T k).2.1 (T k).2.2.1).before args s = true ∨ ∃ host, (Cond.fieldLinkNest own index C (T k).2.1 (T k).2.2.1 host).before args s = true) (hi : cq_s h i = ci) (hdg : decode cc pc = .ok (.getfield index, 3))
    (kk : ∀ v : Value, cx_g v (cx_rd (ev_fs (TY ci k)) h i k) → W p l e R s m args below meth c H locs cells slots Q (F0 m (pc + 3) ls (v :: rest))) : W p l e R s m args below meth c H locs cells slots Q (F0 m pc ls (.ref i :: rest)) := by
  obtain ⟨-, V, ⟨cell', q1, q2, q3, q4⟩, hV⟩ := cx_obj hR hcl hc hi
  obtain ⟨hS, hfc, kC, hkC, hkind⟩ := hK.1 ci _ hc
  obtain ⟨cf, kf, fi, f, hf, hsl⟩ := hS k hk
  have hst := (u_facts hfc hkC (u_lays hts hin hk) hf).1
  rw [hdec] at hf
  rcases hlink with hl | ⟨host, hl⟩
  · exact W.getf hx hb hown hl hf hst q1 (by rw [q3]; exact fun h => by cases h) (v := V k) (by rw [hsl]; exact q4 k hk) rfl rfl hdg (kk _ (hV k hk).1)
  · exact va_Wgetf hx hb hown hl hf hst q1 (by rw [q3]; exact fun h => by cases h) (v := V k) (by rw [hsl]; exact q4 k hk) rfl rfl hdg (kk _ (hV k hk).1)
/-- a field is written -/
theorem cx_r_put {v : Value} {a : cx_V} (hx : p.tables.exec = Jvm.exec) (hb : c.code = cc) (hts : ∀ w ∈ Ts, w.before args s = true) (hin : ∀ w ∈ u_ws C T N, w ∈ Ts) (hty : ∀ k, k < N → parseFieldDescriptor (T k).2.2.1 = some (TY ci k)) (hnm : ∀ a, a < N → ∀ b, b < N → a ≠ b → (T a).2.1 ≠ (T b).2.1) (hown : s.vm.findClass own = some m.cls) (hK : va_K D cl tys s) (hR : cx_R ra D cl tys TY B b L xs h H) (hL : ev_Lo B H0 H locs) (hcl : cl.length ≤ 98) (hc : cl[ci]? = some (C, T, N)) (hk : k < N) (hdec : (T k).1 = C)
    (hlink : (Cond.fieldLink own index C (T k).2.1 (T k).2.2.1).before args s = true ∨ (∃ host, (Cond.fieldLinkNest own index C (T k).2.1 (T k).2.2.1 host).before args s = true) ∧ (T k).2.2.2 = false) (hfin : (T k).2.2.2 = true → C = own ∧ meth.name = "<init>") (hv : cx_g v a) (hput : cq_put (ev_fs (TY ci k)) h i k a h') (hi : cq_s h i = ci) (hdg : decode cc pc = .ok (.putfield index, 3))
    (kk : ∀ (H1 : Heap) (locs1 : List Loc), cx_R ra D cl tys TY B b L xs h' H1 → ev_Lo B H0 H1 locs1 → W p l e R s m args below meth c H1 locs1 cells slots Q (F0 m (pc + 3) ls rest)) : W p l e R s m args below meth c H locs cells slots Q (F0 m pc ls (v :: .ref i :: rest)) := by
  have hap := va_apart (own := own) hts hin (TY ci) hty hnm hK hc
  have hlt := (List.getElem?_eq_some_iff.mp hc).1
  obtain ⟨hBi, V, ⟨cell', q1, q2, q3, q4⟩, hV⟩ := cx_obj hR hcl hc hi
  obtain ⟨hS, hfc, kC, hkC, hkind⟩ := hK.1 ci _ hc
  obtain ⟨cf, kf, fi, f, hf, hsl⟩ := hS k hk
  have hst := (u_facts hfc hkC (u_lays hts hin hk) hf).1
  have hlay := hts _ (hin _ (u_in_lay hk))
  obtain ⟨hn, hft⟩ := cq_put_fit hput hv
  obtain ⟨e1, e2, e3, e4, e5, e6, e7⟩ := cq_put_all hput
  have hfr : s.fieldFound? C (T k).2.1 (T k).2.2.1 = some (cf, kf, fi, f) := by rw [← hdec]; exact hf
  have fin : ∀ H' : Heap, H'[i]? = some (cell'.setSlot f.slot v) → H'.size = H.size → (∀ q, q ≠ i → H'[q]? = H[q]?) → W p l e R s m args below meth c H' (locs ++ [⟨i, f.slot⟩]) cells slots Q (F0 m (pc + 3) ls rest) := by
    intro H' g1 g2 g3
    rw [hsl] at g1
    refine kk H' _ (hR.set hput (by omega) g2 g3 (fun _ => Or.inl ⟨(C, T, N), updV V k v, by rw [e2, hi]; exact hc, ?_, fun j hj => ?_⟩)) (cx_Lo_put hL hBi g3)
    · show t_OB i (D.1 (cq_s h' i)) N (D.2 (cq_s h' i)) H' (updV V k v)
      rw [e2, hi]
      exact ⟨_, g1, q2, q3, t_set q4 hap hk v⟩
    · rw [e2, hi]
      unfold updV
      by_cases hj2 : j = k
      · subst hj2
        rw [if_pos rfl]
        refine ⟨?_, e6⟩
        rw [e4]; exact hv
      · rw [if_neg hj2]
        have hne : ¬ (i = i ∧ (j : Int) = (k : Int)) := fun q => hj2 (by omega)
        have := hV j hj
        unfold cx_ck at this ⊢
        rw [e5 _ _ _ hne, e7 _ _ hne]
        exact this
  have hlt : f.slot < cell'.slots.size := by rw [hsl]; exact k2_hasslot (q4 k hk)
  by_cases hfl : (T k).2.2.2 = true
  · obtain ⟨hCo, hini⟩ := hfin hfl
    unfold u_lay at hlay
    rw [if_pos hfl] at hlay
    have hcf : m.cls = cf := by
      obtain ⟨_, _, c', _, _, _, -, -, hf', -, -, -, hown2, -⟩ := Cond.laysFinal_spec hlay
      have e1 : c' = cf := by have := hf.symm.trans hf'; simp at this; exact this.1.symm
      rw [hdec, hCo] at hown2
      rw [← e1]; exact Option.some.inj (hown.symm.trans hown2)
    have h6 := u_fits hfc hkC hkind (Or.inr hlay) hf (hty k hk) hn hft
    rcases hlink with hl | ⟨-, hl⟩
    · exact W.putFinK hx hb hown hl hfr hst hcf hini (by rw [q2]; exact h6) q1 q3 hlt rfl rfl hdg fin
    · rw [hfl] at hl; cases hl
  · unfold u_lay at hlay
    rw [if_neg hfl] at hlay
    have h6 := u_store hfc hkC hkind hlay hf (hty k hk) hn hft
    rcases hlink with hl | ⟨⟨host, hl⟩, -⟩
    · exact W.putK hx hb (f := f) ⟨hown, hl, ⟨_, _, _, hfr⟩, hst⟩ (by rw [q2]; exact h6) q1 q3 hlt rfl rfl hdg fin
    · exact va_WputK hx hb (f := f) hown hl hfr hst (by rw [q2]; exact h6) q1 q3 hlt rfl rfl hdg fin
/-- an object is made -/
theorem cx_r_new (hx : p.tables.exec = Jvm.exec) (hb : c.code = cc) (hts : ∀ w ∈ Ts, w.before args s = true) (hin : ∀ w ∈ u_ws C T N, w ∈ Ts) (hty : ∀ k, k < N → parseFieldDescriptor (T k).2.2.1 = some (TY ci k)) (h4 : ∀ j, j < N → ev_fs (TY ci j) < 4) (hown : s.vm.findClass own = some m.cls) (hcl : (Cond.classLink own index C).before args s = true) (hinst : (Cond.instantiable C N).before args s = true) (hini : (Cond.initialized C).before args s = true)
    (hK : va_K D cl tys s) (hR : cx_R ra D cl tys TY B b L xs h H) (hL : ev_Lo B H0 H locs) (hlen : cl.length ≤ 98) (hc : cl[ci]? = some (C, T, N)) (hcells : cells + 1 ≤ R.cells) (hslots : slots + N ≤ R.slots) (hdg : decode cc pc = .ok (.new index, 3))
    (kk : ∀ (H1 : Heap), cx_R ra D cl tys TY B b L xs (cq_nw h ci 0) H1 → ev_Lo B H0 H1 locs → W p l e R s m args below meth c H1 locs (cells + 1) (slots + N) Q (F0 m (pc + 3) ls (.ref h.1 :: rest))) : W p l e R s m args below meth c H locs cells slots Q (F0 m pc ls rest) := by
  have hKn := hK.1 ci _ hc
  have hlt := (List.getElem?_eq_some_iff.mp hc).1
  refine W.newcK hx hb hown hcl hinst hini rfl hdg hcells hslots hKn.2.1 hR.1.1 fun H1 kC hkC e1 z1 o1 => ?_
  refine kk H1 (hR.push (by omega) (by rw [z1, hR.1.1]) (fun q hq => o1 q (by rw [← hR.1.1]; exact hq)) (Or.inl ⟨(C, T, N), fun j => defaultValue (TY ci j), by rw [cx_nw_s.1]; exact hc, ?_, fun j hj => ?_⟩)) (cx_Lo_push hL (by rw [hR.1.1]; exact hR.1.2) (fun q hq => o1 q (by rw [← hR.1.1]; exact hq)))
  · rw [cx_nw_s.1]
    exact u_born (TY ci) hts hin hKn hkC e1 hty
  · rw [cx_nw_s.1]
    exact cx_nw_ck (h4 j hj)
/-- an array of numbers is made -/
theorem cx_r_newa {t : Nat} {cA : ClassId} {atype : ArrayType} {n : Int32} {M : Nat} (hx : p.tables.exec = Jvm.exec) (hb : c.code = cc) (harr : (Cond.arrayClass (newarray.typeOf atype)).before args s = true) (hK : va_K D cl tys s) (hR : cx_R ra D cl tys TY B b L xs h H) (hL : ev_Lo B H0 H locs) (ht : tys[(ra t).2.1]? = some (cA, newarray.typeOf atype)) (hk : ev_fs (newarray.typeOf atype) = (ra t).1) (hprim : ev_fs (newarray.typeOf atype) < 3) (h100 : 100 ≤ t)
    (hn : ¬ n < 0) (hN : n.toNatClampNeg = M) (hM : M ≤ 60000) (hcells : cells + 1 ≤ R.cells) (hslots : slots + M ≤ R.slots) (hdg : decode cc pc = .ok (.newarray atype, 2))
    (kk : ∀ (H1 : Heap), cx_R ra D cl tys TY B b L xs (cq_nw h t M) H1 → ev_Lo B H0 H1 locs → W p l e R s m args below meth c H1 locs (cells + 1) (slots + M) Q (F0 m (pc + 2) ls (.ref h.1 :: rest))) : W p l e R s m args below meth c H locs cells slots Q (F0 m pc ls (.int n :: rest)) := by
  have hby : M * componentBytes (newarray.typeOf atype) ≤ 536870912 := by
    have : componentBytes (newarray.typeOf atype) ≤ 8 := by cases atype <;> decide
    calc M * componentBytes (newarray.typeOf atype) ≤ 60000 * 8 := Nat.mul_le_mul hM this
      _ ≤ 536870912 := by decide
  have hnm : s.vm.findClass ("[" ++ (newarray.typeOf atype).toString) = some cA := by
    have h2 := (hK.2 _ _ ht).2
    cases atype <;> exact h2
  refine va_newaK hx hb harr rfl hdg rfl hn hN hby hcells hslots hR.1.1 fun H1 cA' e1 z1 o1 hAr hNm => ?_
  have hA : cA' = cA := Option.some.inj (hNm.symm.trans hnm)
  subst hA
  refine kk H1 (hR.push (by omega) (by rw [z1, hR.1.1]) (fun q hq => o1 q (by rw [← hR.1.1]; exact hq)) (Or.inr ⟨cA', _, M, _, by rw [cx_nw_s.1]; exact h100, by rw [cx_nw_s.1]; exact ht, by rw [cx_nw_s.1]; exact hk, cx_nw_s.2, hM, e1, fun j hj => ?_⟩)) (cx_Lo_push hL (by rw [hR.1.1]; exact hR.1.2) (fun q hq => o1 q (by rw [← hR.1.1]; exact hq)))
  exact cx_nw_ck (by omega)
/-- an array of references is made -/
theorem cx_r_anew {t : Nat} {cA : ClassId} {n : Int32} {M : Nat} {E : String} (hx : p.tables.exec = Jvm.exec) (hb : c.code = cc) (hown : s.vm.findClass own = some m.cls) (hclink : (Cond.classLink own index E).before args s = true) (hover : va_AO E s) (hK : va_K D cl tys s) (hR : cx_R ra D cl tys TY B b L xs h H) (hL : ev_Lo B H0 H locs) (ht : tys[(ra t).2.1]? = some (cA, .object E)) (hk : 3 = (ra t).1) (h100 : 100 ≤ t)
    (hn : ¬ n < 0) (hN : n.toNatClampNeg = M) (hM : M ≤ 60000) (hcells : cells + 1 ≤ R.cells) (hslots : slots + M ≤ R.slots) (hdg : decode cc pc = .ok (.anewarray index, 3))
    (kk : ∀ (H1 : Heap), cx_R ra D cl tys TY B b L xs (cq_nw h t M) H1 → ev_Lo B H0 H1 locs → W p l e R s m args below meth c H1 locs (cells + 1) (slots + M) Q (F0 m (pc + 3) ls (.ref h.1 :: rest))) : W p l e R s m args below meth c H locs cells slots Q (F0 m pc ls (.int n :: rest)) := by
  obtain ⟨kA0, comp0, -, -, -, hnm⟩ := (hK.2 _ _ ht).2
  subst hN
  refine W.anew hx hb hown hclink (va_AO.use hover) rfl hdg rfl hn (by omega) hcells hslots fun cA' kA comp f1 f2 f3 f4 => ?_
  have hA : cA' = cA := Option.some.inj (f1.symm.trans hnm)
  subst hA
  generalize hH1 : H.push ({ cls := cA', slots := Array.replicate n.toNatClampNeg .null, vm := .none } : Cell) = H1
  have z1 : H1.size = H.size + 1 := by rw [← hH1, Array.size_push]
  have e1 : H1[H.size]? = some (arrV cA' n.toNatClampNeg (fun _ => .null)) := by rw [← hH1, Array.getElem?_push_size, ← arrV_new]
  have o1 : ∀ q, q < H.size → H1[q]? = H[q]? := fun q hq => by rw [← hH1, Array.getElem?_push, if_neg (Nat.ne_of_lt hq)]
  rw [hR.1.1] at e1
  have kk2 := kk H1 (hR.push (by omega) z1 o1 (Or.inr ⟨cA', .object E, n.toNatClampNeg, _, by rw [cx_nw_s.1]; exact h100, by rw [cx_nw_s.1]; exact ht, by rw [cx_nw_s.1]; exact hk, cx_nw_s.2, hM, e1, fun j hj => cx_nw_ck (ty := .object E) (by show 3 < 4; decide)⟩)) (cx_Lo_push hL (by rw [hR.1.1]; exact hR.1.2) o1)
  rw [← hR.1.1] at kk2
  exact kk2
theorem cx_nin {x : Int32} {j : Int} {n : Nat} (hx : x.toInt = j) (h0 : 0 ≤ j) (h1 : j < n) : ¬ x < 0 ∧ x.toNatClampNeg = j.toNat ∧ j.toNat < n ∧ ((j.toNat : Nat) : Int) = j ∧ ¬ (x < 0 ∨ n ≤ x.toNatClampNeg) := by
  have e1 : ¬ x < 0 := by
    rw [Int32.lt_iff_toInt_lt]
    show ¬ x.toInt < 0
    omega
  have e2 : x.toNatClampNeg = j.toNat := by
    show x.toInt.toNat = _
    rw [hx]
  refine ⟨e1, e2, by omega, by omega, ?_⟩
  rintro (q | q)
  · exact e1 q
  · omega
/-- an element is read -/
theorem cx_r_ald {x : Int32} {j : Int} {kd : Nat} {ins : Instr} (hins : (ins = .iaload ∧ kd = 0) ∨ (ins = .laload ∧ kd = 1) ∨ (ins = .baload ∧ kd = 2) ∨ (ins = .aaload ∧ kd = 3)) (hO : kd = 3 → ∀ cA ty, tys[(ra (cq_s h i)).2.1]? = some (cA, ty) → ∃ E, ty = .object E) (hx : p.tables.exec = Jvm.exec) (hb : c.code = cc) (hK : va_K D cl tys s) (hR : cx_R ra D cl tys TY B b L xs h H) (hcl : cl.length ≤ 98) (hi : 100 ≤ cq_s h i) (hkd : (ra (cq_s h i)).1 = kd) (hj : x.toInt = j) (h0 : 0 ≤ j) (h1 : j < cq_z h i) (hdg : decode cc pc = .ok (ins, 1))
    (kk : ∀ v : Value, cx_g v (cx_rd kd h i j) → W p l e R s m args below meth c H locs cells slots Q (F0 m (pc + 1) ls (v :: rest))) : W p l e R s m args below meth c H locs cells slots Q (F0 m pc ls (.int x :: .ref i :: rest)) := by
  obtain ⟨-, cA, ty, n, f, g1, g2, g3, g4, g5, g6⟩ := cx_arr hR hcl hi
  rw [g3] at h1
  obtain ⟨f1, f2, f3, f4, f5⟩ := cx_nin hj h0 h1
  have hA := (hK.2 _ _ g1).1 n f
  have hin : ¬ (x < 0 ∨ (arrV cA n f).slots.size ≤ x.toNatClampNeg) := by rw [arrV_size]; exact f5
  have hrd : (arrV cA n f).slots[x.toNatClampNeg]? = some (f j.toNat) := by rw [f2]; exact arrV_read _ _ f3
  have hg := (g6 _ f3).1
  rw [f4, g2, hkd] at hg
  rw [hkd] at g2
  rcases hins with ⟨rfl, rfl⟩ | ⟨rfl, rfl⟩ | ⟨rfl, rfl⟩ | ⟨rfl, rfl⟩
  · have : ty = .int := by cases ty <;> first | rfl | (simp [ev_fs] at g2)
    subst this
    exact W.iald hx hb g5 hA (fun q => by cases q) hin hrd rfl rfl hdg (kk _ hg)
  · have : ty = .long := by cases ty <;> first | rfl | (simp [ev_fs] at g2)
    subst this
    exact W.lald hx hb g5 hA (fun q => by cases q) hin hrd rfl rfl hdg (kk _ hg)
  · have : ty = .boolean := by cases ty <;> first | rfl | (simp [ev_fs] at g2)
    subst this
    exact W.zald hx hb g5 hA (fun q => by cases q) hin hrd rfl rfl hdg (kk _ hg)
  · obtain ⟨E, rfl⟩ := hO rfl cA ty g1
    exact W.aald hx hb g5 hA rfl (fun q => by cases q) hin hrd rfl rfl hdg (kk _ hg)
theorem cx_ast_R {H1 : Heap} {cA : ClassId} {ty : FieldType} {n : Nat} {f : Nat → Value} {v : Value} {a : cx_V} {j : Int} (hR : cx_R ra D cl tys TY B b L xs h H) (hi : 100 ≤ cq_s h i) (g1 : tys[(ra (cq_s h i)).2.1]? = some (cA, ty)) (g2 : ev_fs ty = (ra (cq_s h i)).1) (g3 : cq_z h i = n) (g4 : n ≤ 60000) (g6 : ∀ j : Nat, j < n → cx_ck (ev_fs ty) (f j) h i j) (hput : cq_put (ev_fs ty) h i j a h') (hv : cx_g v a) (h0 : 0 ≤ j)
    (e : H1[i]? = some ((arrV cA n f).setSlot j.toNat v)) (z : H1.size = H.size) (oq : ∀ q, q ≠ i → H1[q]? = H[q]?) : cx_R ra D cl tys TY B b L xs h' H1 := by
  obtain ⟨e1, e2, e3, e4, e5, e6, e7⟩ := cq_put_all hput
  refine hR.set hput (by omega) z oq (fun _ => Or.inr ⟨cA, ty, n, updV f j.toNat v, by rw [e2]; exact hi, by rw [e2]; exact g1, by rw [e2]; exact g2, by rw [e3]; exact g3, g4, ?_, fun q hq => ?_⟩)
  · rw [e, arrV_store]
  · unfold updV
    by_cases hq2 : q = j.toNat
    · rw [if_pos hq2]
      have : (q : Int) = j := by omega
      rw [this]
      refine ⟨?_, e6⟩
      rw [e4]; exact hv
    · rw [if_neg hq2]
      have hne : ¬ (i = i ∧ (q : Int) = j) := fun w => hq2 (by omega)
      have := g6 q hq
      unfold cx_ck at this ⊢
      rw [e5 _ _ _ hne, e7 _ _ hne]
      exact this
/-- an element is written -/
theorem cx_r_ast {x : Int32} {j : Int} {kd : Nat} {ins : Instr} {v : Value} {a : cx_V} (hins : (ins = .iastore ∧ kd = 0) ∨ (ins = .lastore ∧ kd = 1) ∨ (ins = .bastore ∧ kd = 2)) (hx : p.tables.exec = Jvm.exec) (hb : c.code = cc) (hK : va_K D cl tys s) (hR : cx_R ra D cl tys TY B b L xs h H) (hL : ev_Lo B H0 H locs) (hcl : cl.length ≤ 98) (hi : 100 ≤ cq_s h i) (hkd : (ra (cq_s h i)).1 = kd) (hj : x.toInt = j) (h0 : 0 ≤ j) (h1 : j < cq_z h i) (hv : cx_g v a) (hput : cq_put kd h i j a h') (hdg : decode cc pc = .ok (ins, 1))
    (kk : ∀ (H1 : Heap) (locs1 : List Loc), cx_R ra D cl tys TY B b L xs h' H1 → ev_Lo B H0 H1 locs1 → W p l e R s m args below meth c H1 locs1 cells slots Q (F0 m (pc + 1) ls rest)) : W p l e R s m args below meth c H locs cells slots Q (F0 m pc ls (v :: .int x :: .ref i :: rest)) := by
  obtain ⟨hBi, cA, ty, n, f, g1, g2, g3, g4, g5, g6⟩ := cx_arr hR hcl hi
  rw [g3] at h1
  obtain ⟨f1, f2, f3, f4, f5⟩ := cx_nin hj h0 h1
  have hA := (hK.2 _ _ g1).1 n f
  have hin : ¬ (x < 0 ∨ (arrV cA n f).slots.size ≤ x.toNatClampNeg) := by rw [arrV_size]; exact f5
  have g2' := g2
  rw [hkd] at g2'
  rw [← g2'] at hput
  obtain ⟨hn, -⟩ := cq_put_fit hput hv
  have fin : ∀ H1 : Heap, H1[i]? = some ((arrV cA n f).setSlot x.toNatClampNeg v) → H1.size = H.size → (∀ q, q ≠ i → H1[q]? = H[q]?) → cx_R ra D cl tys TY B b L xs h' H1 := fun H1 e z oq => cx_ast_R hR hi g1 g2 g3 g4 g6 hput hv h0 (by rw [← f2]; exact e) z oq
  rcases hins with ⟨rfl, rfl⟩ | ⟨rfl, rfl⟩ | ⟨rfl, rfl⟩
  · have : ty = .int := by cases ty <;> first | rfl | (simp [ev_fs] at g2')
    subst this
    obtain ⟨n0, rfl, -⟩ := hput
    obtain ⟨y, rfl, -⟩ := cx_int hv
    exact W.iast hx hb g5 hA (fun q => by cases q) hin rfl rfl hdg fun H1 e z oq => kk H1 _ (fin H1 e z oq) (cx_Lo_put hL hBi oq)
  · have : ty = .long := by cases ty <;> first | rfl | (simp [ev_fs] at g2')
    subst this
    obtain ⟨n0, rfl, -⟩ := hput
    cases cx_long hv
    exact W.last hx hb g5 hA (fun q => by cases q) hin rfl rfl hdg fun H1 e z oq => kk H1 _ (fin H1 e z oq) (cx_Lo_put hL hBi oq)
  · have : ty = .boolean := by cases ty <;> first | rfl | (simp [ev_fs] at g2')
    subst this
    obtain ⟨n0, rfl, -⟩ := hput
    obtain ⟨y, rfl, -⟩ := cx_int hv
    exact W.zast hx hb g5 hA (fun q => by cases q) hin rfl rfl hdg fun H1 e z oq => kk H1 _ (fin H1 (by rw [e, hn]) z oq) (cx_Lo_put hL hBi oq)
/-- null, or an object of the array's own class, into an array of references -/
theorem cx_r_aast {x : Int32} {j : Int} {E : String} {v : Value} {r : Option Nat} (hx : p.tables.exec = Jvm.exec) (hb : c.code = cc) (hK : va_K D cl tys s) (hR : cx_R ra D cl tys TY B b L xs h H) (hL : ev_Lo B H0 H locs) (hcl : cl.length ≤ 98) (hi : 100 ≤ cq_s h i) (hty : ∀ cA ty, tys[(ra (cq_s h i)).2.1]? = some (cA, ty) → ty = .object E) (hj : x.toInt = j) (h0 : 0 ≤ j) (h1 : j < cq_z h i) (hv : cx_g v (.inr (.inr r))) (hfit : r = none ∨ ∃ (q ci : Nat) (T : u_T) (N : Nat), r = some q ∧ cq_s h q = ci ∧ cl[ci]? = some (E, T, N)) (hdg : decode cc pc = .ok (.aastore, 1))
    (kk : ∀ (H1 : Heap) (locs1 : List Loc), cx_R ra D cl tys TY B b L xs (cq_sA h i j r) H1 → ev_Lo B H0 H1 locs1 → W p l e R s m args below meth c H1 locs1 cells slots Q (F0 m (pc + 1) ls rest)) : W p l e R s m args below meth c H locs cells slots Q (F0 m pc ls (v :: .int x :: .ref i :: rest)) := by
  obtain ⟨hBi, cA, ty, n, f, g1, g2, g3, g4, g5, g6⟩ := cx_arr hR hcl hi
  have := hty cA ty g1
  subst this
  rw [g3] at h1
  obtain ⟨f1, f2, f3, f4, f5⟩ := cx_nin hj h0 h1
  have hA := (hK.2 _ _ g1).1 n f
  have hin : ¬ (x < 0 ∨ (arrV cA n f).slots.size ≤ x.toNatClampNeg) := by rw [arrV_size]; exact f5
  have fin : ∀ H1 : Heap, H1[i]? = some ((arrV cA n f).setSlot x.toNatClampNeg v) → H1.size = H.size → (∀ q, q ≠ i → H1[q]? = H[q]?) → cx_R ra D cl tys TY B b L xs (cq_sA h i j r) H1 := fun H1 e z oq => cx_ast_R hR hi g1 g2 g3 g4 g6 (a := .inr (.inr r)) ⟨r, rfl, rfl⟩ hv h0 (by rw [← f2]; exact e) z oq
  rcases hfit with rfl | ⟨q, ci, T, N, rfl, hq, hcl2⟩
  · cases cx_null hv
    exact va_WaastN hx hb g5 hA (fun q => by cases q) hin rfl rfl hdg fun H1 e z oq => kk H1 _ (fin H1 e z oq) (cx_Lo_put hL hBi oq)
  · cases cx_ref hv
    obtain ⟨-, V, ⟨cellV, m1, m2, m3, -⟩, -⟩ := cx_obj hR hcl hcl2 hq
    have hcls := (hK.1 ci _ hcl2).2
    obtain ⟨kA, comp, k1, k2, k3, -⟩ := (hK.2 _ _ g1).2
    have hcomp : comp = D.1 ci := Option.some.inj (k3.symm.trans hcls.1)
    subst hcomp
    obtain ⟨kC, hkC, -⟩ := hcls.2
    exact W.aast hx hb g5 (fun q h => by cases h) (fun h => by cases h) k1 k2 rfl hkC ⟨f1, by rw [arrV_size, f2]; exact f3⟩ m1 (fun q h => by rw [m3] at h; cases h) (by rw [m2]; exact hkC) (by rw [m2]; exact va_assign hcls) rfl rfl hdg fun H1 e z oq => kk H1 _ (fin H1 e z oq) (cx_Lo_put hL hBi oq)
theorem cx_r_alen (hx : p.tables.exec = Jvm.exec) (hb : c.code = cc) (hK : va_K D cl tys s) (hR : cx_R ra D cl tys TY B b L xs h H) (hcl : cl.length ≤ 98) (hi : 100 ≤ cq_s h i) (hdg : decode cc pc = .ok (.arraylength, 1))
    (kk : ∀ v : Value, cx_g v (.inl (cq_z h i)) → W p l e R s m args below meth c H locs cells slots Q (F0 m (pc + 1) ls (v :: rest))) : W p l e R s m args below meth c H locs cells slots Q (F0 m pc ls (.ref i :: rest)) := by
  obtain ⟨hBi, cA, ty, n, f, g1, g2, g3, g4, g5, g6⟩ := cx_arr hR hcl hi
  have hA := (hK.2 _ _ g1).1 n f
  have hz : (Int32.ofNat n).toInt = n := nI_toInt (n := n) (by omega)
  exact W.alen (n := Int32.ofNat n) hx hb g5 hA (by rw [arrV_size] <;> rfl) rfl rfl hdg (kk _ ⟨_, rfl, by rw [hz, g3]⟩)
/-- the script -/
theorem cx_scr (hR : cx_R ra D cl tys TY B b L xs h H) (hi : cq_s h i = 98) : i = b ∧ b < B ∧ cq_z h i = L ∧ L < 2147483648 ∧ ∀ j : Nat, j < L → cq_I h i j = (xs j).toInt := by
  obtain ⟨-, g2⟩ := hR.2 i (by omega)
  rcases g2 with ⟨-, m2, m3, m4, m5, m6⟩ | ⟨m1, -⟩
  · exact ⟨m2, m3, m4, m5, m6⟩
  · exact absurd hi m1
theorem cx_r_sld {x : Int32} {j : Int} (hx : p.tables.exec = Jvm.exec) (hb : c.code = cc) (hX : va_X b L xs s H0) (hR : cx_R ra D cl tys TY B b L xs h H) (hL : ev_Lo B H0 H locs) (hi : cq_s h i = 98) (hj : x.toInt = j) (h0 : 0 ≤ j) (h1 : j < cq_z h i) (hdg : decode cc pc = .ok (.iaload, 1))
    (kk : ∀ v : Value, cx_g v (.inl (cq_I h i j)) → W p l e R s m args below meth c H locs cells slots Q (F0 m (pc + 1) ls (v :: rest))) : W p l e R s m args below meth c H locs cells slots Q (F0 m pc ls (.int x :: .ref i :: rest)) := by
  obtain ⟨rfl, m3, m4, m5, m6⟩ := cx_scr hR hi
  rw [m4] at h1
  obtain ⟨f1, f2, f3, f4, f5⟩ := cx_nin hj h0 h1
  obtain ⟨scr, e1, e2, e3, e4, e5⟩ := hX
  have hv := m6 _ f3
  rw [f4] at hv
  exact W.iald (v := .int (xs j.toNat)) hx hb (by rw [hL.1 i m3]; exact e1) e2 e3 (by rw [e4]; exact f5) (by rw [f2]; exact e5 _ f3) rfl rfl hdg (kk _ ⟨_, rfl, hv.symm⟩)
theorem cx_r_slen (hx : p.tables.exec = Jvm.exec) (hb : c.code = cc) (hX : va_X b L xs s H0) (hR : cx_R ra D cl tys TY B b L xs h H) (hL : ev_Lo B H0 H locs) (hi : cq_s h i = 98) (hdg : decode cc pc = .ok (.arraylength, 1))
    (kk : ∀ v : Value, cx_g v (.inl (cq_z h i)) → W p l e R s m args below meth c H locs cells slots Q (F0 m (pc + 1) ls (v :: rest))) : W p l e R s m args below meth c H locs cells slots Q (F0 m pc ls (.ref i :: rest)) := by
  obtain ⟨rfl, m3, m4, m5, m6⟩ := cx_scr hR hi
  obtain ⟨scr, e1, e2, e3, e4, e5⟩ := hX
  exact W.alen (n := nI L) hx hb (by rw [hL.1 i m3]; exact e1) e2 (by rw [e4] <;> rfl) rfl rfl hdg (kk _ ⟨_, rfl, by rw [nI_toInt (by omega), m4]⟩)
end CXH
