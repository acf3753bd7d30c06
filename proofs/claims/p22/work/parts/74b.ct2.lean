/-! the class: SECRETS and turns, what is written -/
theorem chD_none {h : cx_Q} {sd : Int64} : ∀ {n : Nat}, chD h sd n none
  | 0 => rfl
  | n + 1 => Or.inr (chD_none (n := n))
theorem chD_le {h : cx_Q} {sd : Int64} {o : Option Nat} {m : Nat} : ∀ {k : Nat}, chD h sd m o → chD h sd (m + k) o
  | 0, q => q
  | k + 1, q => Or.inr (chD_le (k := k) q)
theorem chD_ci {h h' : cx_Q} {sd : Int64} : ∀ {n : Nat} {o : Option Nat}, (∀ m w, inD h m o w → cq_s h' w = 6 ∧ cq_J h' w 1 = cq_J h w 1 ∧ cq_A h' w 2 = cq_A h w 2) → chD h sd n o → chD h' sd n o
  | 0, _, _, q => q
  | n + 1, o, e, q => by
    rcases q with ⟨w, q0, q1, q2, q3⟩ | q
    · obtain ⟨e1, e2, e3⟩ := e 1 w ⟨w, q0, q1, Or.inl rfl⟩
      exact Or.inl ⟨w, q0, e1, e2.trans q2, by rw [e3]; exact chD_ci (fun m w' z => e (m + 1) w' ⟨w, q0, q1, Or.inr z⟩) q3⟩
    · exact Or.inr (chD_ci e q)
theorem inD_ci {h h' : cx_Q} : ∀ {n : Nat} {o : Option Nat} {w : Nat}, (∀ m w, inD h m o w → cq_s h' w = 6 ∧ cq_A h' w 2 = cq_A h w 2) → inD h n o w → inD h' n o w
  | 0, _, _, _, q => q
  | n + 1, o, w, e, q => by
    obtain ⟨t, q1, q2, q3⟩ := q
    obtain ⟨e1, e2⟩ := e 1 t ⟨t, q1, q2, Or.inl rfl⟩
    refine ⟨t, q1, e1, q3.elim Or.inl (fun y => Or.inr ?_)⟩
    rw [e2]
    exact inD_ci (fun m w' z => e (m + 1) w' ⟨t, q1, q2, Or.inr z⟩) y
theorem inD_bi {h h' : cx_Q} (es : cq_s h' = cq_s h) : ∀ {n : Nat} {o : Option Nat} {w : Nat}, (∀ m w, inD h m o w → cq_A h' w 2 = cq_A h w 2) → inD h' n o w → inD h n o w
  | 0, _, _, _, q => q
  | n + 1, o, w, e, q => by
    obtain ⟨t, q1, q2, q3⟩ := q
    rw [es] at q2
    have e2 := e 1 t ⟨t, q1, q2, Or.inl rfl⟩
    refine ⟨t, q1, q2, q3.elim Or.inl (fun y => Or.inr ?_)⟩
    rw [e2] at y
    exact inD_bi es (fun m w' z => e (m + 1) w' ⟨t, q1, q2, Or.inr z⟩) y
section
variable {c : Nat} {E : Nat → Option Int} {h0 : cx_Q} {X : List Nat} {h h' : cx_Q}
theorem CT.lst (H : CT c E h0 X h) (es : cq_s h' = cq_s h) (eA : ∀ t, cq_s h t = 8 → t ∉ X → cq_A h' t 3 = cq_A h t 3) : ∀ {n : Nat} {o : Option Nat} {w : Nat}, (∀ t, o = some t → t ∉ X ∧ cq_s h t = 8) → inL h n o w → inL h' n o w
  | 0, _, _, _, q => q
  | n + 1, o, w, ho, q => by
    obtain ⟨t, q1, q2, q3⟩ := q
    refine ⟨t, q1, by rw [es]; exact q2, q3.elim Or.inl (fun y => Or.inr ?_)⟩
    have nt := (ho t q1).1
    rw [eA t q2 nt]
    refine CT.lst H es eA (fun t' e => ?_) y
    have := H.2.2.2.2.2.2.2.2.1 t t' q2 nt e
    exact ⟨this.1, this.2.1⟩
/-- other cells are in the making, but no SECRET or turn -/
theorem CT.X_ {X' : List Nat} (H : CT c E h0 X h) (e : ∀ b, (cq_s h b = 6 ∨ cq_s h b = 8) → (b ∈ X ↔ b ∈ X')) : CT c E h0 X' h := by
  obtain ⟨t1, t2, t3, t4, t5, t6, t7, t8, t9, t10, t11, t12, t13, t14, t15, t16, t17, t18, t19⟩ := H
  have n6 : ∀ {b : Nat}, cq_s h b = 6 → (b ∉ X' ↔ b ∉ X) := fun {b} q => (not_congr (e b (Or.inl q))).symm
  have n8 : ∀ {b : Nat}, cq_s h b = 8 → (b ∉ X' ↔ b ∉ X) := fun {b} q => (not_congr (e b (Or.inr q))).symm
  refine ⟨t1, t2, t3, t4, t5, fun a q0 q1 q2 => t6 a q0 q1 ((n8 q1).mp q2), fun a q1 q2 => t7 a q1 ((n8 q1).mp q2), fun b t q1 q2 => ?_, fun b t q1 q0 q2 => ?_, fun a b r q a1 a2 a3 a4 => t10 a b r q a1 a2 ((n8 a1).mp a3) ((n8 a2).mp a4), t11, fun w q1 q2 => t12 w q1 ((n6 q1).mp q2), fun p n w q1 q2 => (n6 (inD_s q2)).mpr (t13 p n w q1 q2), fun a r q1 q2 => t14 a r q1 ((n8 q1).mp q2), fun a q0 q1 q2 => t15 a q0 q1 ((n6 q1).mp q2), t16, t17, t18, t19⟩
  · obtain ⟨w1, w2, w3⟩ := t8 b t q1 q2
    exact ⟨(n8 w2).mpr w1, w2, w3⟩
  · obtain ⟨w1, w2, w3⟩ := t9 b t q1 ((n8 q1).mp q0) q2
    exact ⟨(n8 w2).mpr w1, w2, w3⟩
theorem CT.mk {a : Nat} (H : CT c E h0 (a :: X) h) (n6 : cq_s h a ≠ 6) (n8 : cq_s h a ≠ 8) : CT c E h0 X h := H.X_ (fun b q => ⟨fun z => (List.mem_cons.mp z).elim (fun e => by rw [e] at q; exact absurd q (fun y => y.elim n6 n8)) id, fun z => List.mem_cons_of_mem _ z⟩)
theorem CT.op {a : Nat} (H : CT c E h0 X h) (n6 : cq_s h a ≠ 6) (n8 : cq_s h a ≠ 8) : CT c E h0 (a :: X) h := H.X_ (fun b q => ⟨fun z => List.mem_cons_of_mem _ z, fun z => (List.mem_cons.mp z).elim (fun e => by rw [e] at q; exact absurd q (fun y => y.elim n6 n8)) id⟩)
/-- a memory is the one ahead of the next call -/
theorem CT.an {E' : Nat → Option Int} {c' : Nat} (H : CT c E h0 X h) : CT c' E' h X h := by
  obtain ⟨t1, t2, t3, t4, t5, t6, t7, t8, t9, t10, t11, t12, t13, t14, t15, t16, t17, t18, t19⟩ := H
  exact ⟨fun _ _ => ⟨rfl, rfl⟩, fun _ _ _ => ⟨rfl, rfl, fun _ => rfl⟩, fun _ _ _ => ⟨fun _ => rfl, fun _ => rfl⟩, fun _ _ _ => rfl, fun _ _ _ _ => rfl, fun a q1 q2 => by rw [q1] at q2; exact absurd q2 (by decide), t7, t8, t9, t10, t11, t12, t13, t14, fun a q1 q2 => by rw [q1] at q2; exact absurd q2 (by decide), fun _ _ _ _ => rfl, fun _ q => Or.inl q, fun _ _ _ _ _ _ => rfl, fun _ _ => ⟨rfl, rfl⟩⟩
/-- more is drawn -/
theorem CT.s41 (H : CT c E h0 X h) {p : Nat} {v : Int} (hs : cq_s h p = 4) (hv : cq_I h p 1 ≤ v) : CT c E h0 X (cq_sI h p 1 v) := by
  obtain ⟨t1, t2, t3, t4, t5, t6, t7, t8, t9, t10, t11, t12, t13, t14, t15, t16, t17, t18, t19⟩ := H
  have s0 : ∀ {a k : Nat}, cq_s h0 a = k → k ≠ 99 → cq_s h a = k := fun {a k} q w => (t1 a (by rw [q]; exact w)).1.trans q
  have ne : ∀ {a k : Nat} (j : Int), cq_s h a = k → k ≠ 4 → cq_I (cq_sI h p 1 v) a j = cq_I h a j := fun {a k} j q w => by
    rw [mm_sI, if_neg (fun e => w (by rw [← q, e.1]; exact hs))]
  refine ⟨t1, fun a j q => ?_, fun a j q => ?_, t4, fun a j q => ?_, fun a q0 q1 q2 q3 => ?_, fun a q1 q2 => ?_, t8, t9, t10, fun p' q => ?_, fun w q1 q2 => ?_, fun p' n w q1 q2 => ?_, t14, fun a q0 q1 q2 q3 => by rw [ne 3 (show cq_s h a = 6 from q1) (by decide)]; exact t15 a q0 q1 q2 q3, t16, t17, t18, fun a q0 => by rw [ne 3 (s0 q0 (by decide)) (by decide)]; exact t19 a q0⟩
  · rw [ne j (s0 q (by decide)) (by decide)]
    exact t2 a j q
  · rw [ne j (s0 q (by decide)) (by decide)]
    exact t3 a j q
  · rw [ne j (s0 q (by decide)) (by decide)]
    exact t5 a j q
  · obtain ⟨w1, w2, w3⟩ := t6 a q0 q1 q2 q3
    have q1' : cq_s h a = 8 := q1
    rw [ne 4 q1' (by decide), ne 5 q1' (by decide)]
    exact ⟨w1, w2, fun z => ⟨(w3 z).1, fun j => by rw [ne j (w3 z).1 (by decide)]; exact (w3 z).2 j⟩⟩
  · rcases t7 a q1 q2 with w | ⟨b, w1, w2, w3, w4, w5, n, w6⟩
    · exact Or.inl w
    · exact Or.inr ⟨b, w1, w2, w3, w4, w5, n, inL_c (h := h) (h' := (cq_sI h p 1 v)) (fun w q => ⟨q, rfl⟩) w6⟩
  · have q' : cq_s h p' = 4 := q
    refine chD_c (h := h) (h' := (cq_sI h p 1 v)) (fun w z => ⟨z, rfl, rfl⟩) ?_
    have c0 := t11 p' q'
    rw [mm_sI]
    split
    · rename_i e
      rw [← e.1] at hv
      obtain ⟨k, ek⟩ : ∃ k, v.toNat = (cq_I h p' 1).toNat + k := ⟨v.toNat - (cq_I h p' 1).toNat, by omega⟩
      rw [ek]
      exact chD_le c0
    · exact c0
  · obtain ⟨p', n, w1, w2⟩ := t12 w q1 q2
    exact ⟨p', n, w1, inD_c (h := h) (h' := (cq_sI h p 1 v)) (fun w q => ⟨q, rfl⟩) w2⟩
  · exact t13 p' n w q1 (inD_c (h := (cq_sI h p 1 v)) (h' := h) (fun w q => ⟨q, rfl⟩) q2)
/-- a SECRET or a turn in the making is written -/
theorem CT.wX (H : CT c E h0 X h) {a : Nat} (hs : cq_s h a = 6 ∨ cq_s h a = 8) (ha : a ∈ X) (hn : cq_s h0 a = 99) (es : cq_s h' = cq_s h) (ez : cq_z h' = cq_z h) (eI : ∀ b j, b ≠ a → cq_I h' b j = cq_I h b j) (eJ : ∀ b j, b ≠ a → cq_J h' b j = cq_J h b j) (eA : ∀ b j, b ≠ a → cq_A h' b j = cq_A h b j) (e2 : cq_s h a = 8 → cq_A h' a 2 = cq_A h a 2) : CT c E h0 X h' := by
  have H0 := H
  obtain ⟨t1, t2, t3, t4, t5, t6, t7, t8, t9, t10, t11, t12, t13, t14, t15, t16, t17, t18, t19⟩ := H
  have o0 : ∀ {b k : Nat}, cq_s h0 b = k → k ≠ 99 → b ≠ a := fun {b k} q w e => by rw [e, hn] at q; exact w q.symm
  have nX : ∀ {b : Nat}, b ∉ X → b ≠ a := fun {b} q e => q (by rw [e]; exact ha)
  have nk : ∀ {b k : Nat}, cq_s h b = k → k ≠ 6 → k ≠ 8 → b ≠ a := fun {b k} q w6 w8 e => by
    rw [e] at q
    rcases hs with z | z
    · exact w6 (q.symm.trans z)
    · exact w8 (q.symm.trans z)
  have A2 : ∀ {b : Nat}, cq_s h b = 8 → cq_A h' b 2 = cq_A h b 2 := fun {b} q => by
    by_cases z : b = a
    · rw [z] at q ⊢
      exact e2 q
    · exact eA b 2 z
  have dm : ∀ {p m w : Nat}, cq_s h p = 4 → inD h m (cq_A h p 2) w → w ≠ a := fun {p m w} q z => nX (t13 p m w q z)
  refine ⟨?_, ?_, ?_, ?_, ?_, ?_, ?_, ?_, ?_, ?_, ?_, ?_, ?_, ?_, ?_, ?_, ?_, ?_, ?_⟩
  · rw [es, ez]; exact t1
  · intro b j q
    have z := o0 q (by decide)
    rw [eI b j z, eJ b j z, eA b j z]
    exact t2 b j q
  · intro b j q
    have z := o0 q (by decide)
    rw [eI b j z, eA b j z]
    exact t3 b j q
  · intro b j q
    rw [eA b j (o0 q (by decide))]
    exact t4 b j q
  · intro b j q
    rw [eI b j (o0 q (by decide))]
    exact t5 b j q
  · intro b q0 q1 q2 q3
    rw [es] at q1 ⊢
    have z := nX q2
    obtain ⟨w1, w2, w3⟩ := t6 b q0 q1 q2 q3
    rw [eI b 4 z, eI b 5 z, eA b 0 z]
    exact ⟨w1, w2, fun y => ⟨(w3 y).1, fun j => by rw [eI (b + 1) j (nk (w3 y).1 (by decide) (by decide))]; exact (w3 y).2 j⟩⟩
  · intro b q1 q2
    rw [es] at q1 ⊢
    have z := nX q2
    rw [eA b 0 z, eA b 6 z]
    rcases t7 b q1 q2 with w | ⟨d, w1, w2, w3, w4, w5, n, w6⟩
    · exact Or.inl w
    · refine Or.inr ⟨d, w1, w2, w3, w4, w5, n, ?_⟩
      rw [A2 w3]
      refine CT.lst H0 es (fun t _ q => eA t 3 (nX q)) (fun t e => ?_) w6
      have := t8 d t w3 e
      exact ⟨this.1, this.2.1⟩
  · intro b t q1 q2
    rw [es] at q1 ⊢
    rw [A2 q1] at q2
    obtain ⟨w1, w2, w3⟩ := t8 b t q1 q2
    exact ⟨w1, w2, by rw [eA t 0 (nX w1)]; exact w3⟩
  · intro b t q1 q0 q2
    rw [es] at q1 ⊢
    rw [eA b 3 (nX q0)] at q2
    obtain ⟨w1, w2, w3⟩ := t9 b t q1 q0 q2
    exact ⟨w1, w2, by rw [eA t 0 (nX w1), eA b 0 (nX q0)]; exact w3⟩
  · intro b d r q a1 a2 a3 a4 a5 a6 a7 a8 m
    rw [es] at a1 a2
    rw [eA b 0 (nX a3), eA d 0 (nX a4)] at a5
    rw [eA b 0 (nX a3)] at a6
    rw [eA b 1 (nX a3)] at a7
    rw [eA d 1 (nX a4)] at a8
    have sr := nk (t14 b r a1 a3 a7) (by decide) (by decide)
    have sq := nk (t14 d q a2 a4 a8) (by decide) (by decide)
    exact t10 b d r q a1 a2 a3 a4 a5 a6 a7 a8 (mtR_c (by rw [ez]) (by rw [ez]) (fun j => eA r j sr) (fun j => eA q j sq) m)
  · intro p q
    rw [es] at q
    have z := nk q (by decide) (by decide)
    rw [eI p 1 z, eJ p 0 z, eA p 2 z]
    refine chD_ci (fun m w y => ?_) (t11 p q)
    have y2 := dm q y
    exact ⟨by rw [es]; exact inD_s y, eJ w 1 y2, eA w 2 y2⟩
  · intro w q1 q2
    rw [es] at q1
    obtain ⟨p, n, w1, w2⟩ := t12 w q1 q2
    refine ⟨p, n, by rw [es]; exact w1, ?_⟩
    rw [eA p 2 (nk w1 (by decide) (by decide))]
    exact inD_ci (fun m w y => ⟨by rw [es]; exact inD_s y, eA w 2 (dm w1 y)⟩) w2
  · intro p n w q1 q2
    rw [es] at q1
    rw [eA p 2 (nk q1 (by decide) (by decide))] at q2
    exact t13 p n w q1 (inD_bi es (fun m w y => eA w 2 (dm q1 y)) q2)
  · intro b r q1 q2 q3
    rw [es] at q1 ⊢
    rw [eA b 1 (nX q2)] at q3
    exact t14 b r q1 q2 q3
  · intro b q0 q1 q2 q3
    rw [es] at q1
    rw [eI b 3 (nX q2)]
    exact t15 b q0 q1 q2 q3
  · intro d j q0 q1
    rw [eA d j (o0 q0 (by decide))]
    exact t16 d j q0 q1
  · rw [es]; exact t17
  · intro d j k q0 q9 q1
    rw [eA d j (o0 q0 (by omega))]
    exact t18 d j k q0 q9 q1
  · intro d q0
    rw [eA d 2 (o0 q0 (by decide)), eI d 3 (o0 q0 (by decide))]
    exact t19 d q0
/-- a SECRET that was made is put ahead of its user's others -/
theorem CT.lk6 {a p : Nat} {k : Nat} (H : CT c E h0 (a :: X) h) (aX : a ∉ X) (hs : cq_s h a = 6) (hp : cq_s h p = 4) (hJ : cq_J h a 1 = dO (cq_J h p 0) k) (hk : k + 1 ≤ (cq_I h p 1).toNat) (hc : chD h (cq_J h p 0) k (cq_A h p 2)) (hA : cq_A h a 2 = cq_A h p 2) (h3 : cq_I h a 3 = 0) : CT c E h0 X (cq_sA h p 2 (some a)) := by
  obtain ⟨t1, t2, t3, t4, t5, t6, t7, t8, t9, t10, t11, t12, t13, t14, t15, t16, t17, t18, t19⟩ := H
  have s0 : ∀ {b k : Nat}, cq_s h0 b = k → k ≠ 99 → cq_s h b = k := fun {b k} q w => (t1 b (by rw [q]; exact w)).1.trans q
  have ne : ∀ {b k : Nat} (j : Int), cq_s h b = k → k ≠ 4 → cq_A (cq_sA h p 2 (some a)) b j = cq_A h b j := fun {b k} j q w => by
    rw [mm_sA, if_neg (fun e => w (by rw [← q, e.1]; exact hp))]
  have nep : ∀ {b : Nat}, b ≠ p → cq_A (cq_sA h p 2 (some a)) b 2 = cq_A h b 2 := fun {b} w => by
    rw [mm_sA, if_neg (fun e => w e.1)]
  have ep : cq_A (cq_sA h p 2 (some a)) p 2 = some a := by rw [mm_sA, if_pos ⟨rfl, rfl⟩]
  have n8 : ∀ {b : Nat}, cq_s h b = 8 → b ∉ X → b ∉ a :: X := fun {b} q w e => (List.mem_cons.mp e).elim (fun z => by rw [z, hs] at q; exact absurd q (by decide)) w
  have m8 : ∀ {b : Nat}, b ∉ a :: X → b ∉ X := fun {b} w e => w (List.mem_cons_of_mem _ e)
  have cD : ∀ w, cq_s h w = 6 → cq_s (cq_sA h p 2 (some a)) w = 6 ∧ cq_J (cq_sA h p 2 (some a)) w 1 = cq_J h w 1 ∧ cq_A (cq_sA h p 2 (some a)) w 2 = cq_A h w 2 := fun w q => ⟨q, rfl, ne 2 q (by decide)⟩
  have cD2 : ∀ w, cq_s h w = 6 → cq_s (cq_sA h p 2 (some a)) w = 6 ∧ cq_A (cq_sA h p 2 (some a)) w 2 = cq_A h w 2 := fun w q => ⟨q, ne 2 q (by decide)⟩
  have cD3 : ∀ w, cq_s (cq_sA h p 2 (some a)) w = 6 → cq_s h w = 6 ∧ cq_A h w 2 = cq_A (cq_sA h p 2 (some a)) w 2 := fun w q => ⟨q, (ne 2 q (by decide)).symm⟩
  refine ⟨t1, fun b j q => ?_, fun b j q => ?_, fun b j q => ?_, t5, fun b q0 q1 q2 q3 => ?_, fun b q1 q2 => ?_, fun b t q1 q2 => ?_, fun b t q1 q0 q2 => ?_, fun b d r q a1 a2 a3 a4 a5 a6 a7 a8 m => ?_, fun p' q => ?_, fun w q1 q2 => ?_, fun p' n w q1 q2 => ?_, fun b r q1 q2 q3 => ?_, fun b q0 q1 q2 q3 => ?_, fun d j q0 q1 => by rw [ne j (s0 q0 (by decide)) (by decide)]; exact t16 d j q0 q1, t17, fun d j k q0 q9 q1 => by rw [ne j (s0 q0 (by omega)) (by omega)]; exact t18 d j k q0 q9 q1, fun d q0 => by rw [ne 2 (s0 q0 (by decide)) (by decide)]; exact t19 d q0⟩
  · rw [ne j (s0 q (by decide)) (by decide)]
    exact t2 b j q
  · rw [ne j (s0 q (by decide)) (by decide)]
    exact t3 b j q
  · rw [ne j (s0 q (by decide)) (by decide)]
    exact t4 b j q
  · have q1' : cq_s h b = 8 := q1
    rw [ne 0 q1' (by decide)]
    exact t6 b q0 q1 (n8 q1' q2) q3
  · have q1' : cq_s h b = 8 := q1
    rw [ne 0 q1' (by decide), ne 6 q1' (by decide)]
    rcases t7 b q1 (n8 q1' q2) with w | ⟨d, w1, w2, w3, w4, w5, n, w6⟩
    · exact Or.inl w
    · exact Or.inr ⟨d, w1, w2, w3, w4, w5, n, by rw [ne 2 w3 (by decide)]; exact inL_c (h := h) (h' := (cq_sA h p 2 (some a))) (fun w q => ⟨q, ne 3 q (by decide)⟩) w6⟩
  · have q1' : cq_s h b = 8 := q1
    rw [ne 2 q1' (by decide)] at q2
    obtain ⟨w1, w2, w3⟩ := t8 b t q1 q2
    exact ⟨m8 w1, w2, by rw [ne 0 w2 (by decide)]; exact w3⟩
  · have q1' : cq_s h b = 8 := q1
    rw [ne 3 q1' (by decide)] at q2
    obtain ⟨w1, w2, w3⟩ := t9 b t q1 (n8 q1' q0) q2
    exact ⟨m8 w1, w2, by rw [ne 0 w2 (by decide), ne 0 q1' (by decide)]; exact w3⟩
  · have a1' : cq_s h b = 8 := a1
    have a2' : cq_s h d = 8 := a2
    rw [ne 0 a1' (by decide), ne 0 a2' (by decide)] at a5
    rw [ne 0 a1' (by decide)] at a6
    rw [ne 1 a1' (by decide)] at a7
    rw [ne 1 a2' (by decide)] at a8
    have sr := t14 b r a1' (n8 a1' a3) a7
    have sq := t14 d q a2' (n8 a2' a4) a8
    exact t10 b d r q a1 a2 (n8 a1' a3) (n8 a2' a4) a5 a6 a7 a8 (mtR_c (h := h) (h' := (cq_sA h p 2 (some a))) rfl rfl (fun j => ne j sr (by decide)) (fun j => ne j sq (by decide)) m)
  · by_cases e : p' = p
    · rw [e, ep]
      obtain ⟨k', ek⟩ : ∃ k', (cq_I h p 1).toNat = (k + 1) + k' := ⟨(cq_I h p 1).toNat - (k + 1), by omega⟩
      show chD _ _ (cq_I h p 1).toNat _
      rw [ek]
      refine chD_le (Or.inl ⟨a, rfl, hs, hJ, ?_⟩)
      rw [ne 2 hs (by decide), hA]
      exact chD_c (h := h) (h' := (cq_sA h p 2 (some a))) cD hc
    · rw [nep e]
      exact chD_c (h := h) (h' := (cq_sA h p 2 (some a))) cD (t11 p' q)
  · by_cases e : w = a
    · exact ⟨p, 1, hp, by rw [ep, e]; exact ⟨a, rfl, hs, Or.inl rfl⟩⟩
    · obtain ⟨p', n, w1, w2⟩ := t12 w q1 (fun z => (List.mem_cons.mp z).elim e q2)
      by_cases e2 : p' = p
      · rw [e2] at w2
        exact ⟨p, n + 1, hp, by rw [ep]; exact ⟨a, rfl, hs, Or.inr (by rw [ne 2 hs (by decide), hA]; exact inD_c (h := h) (h' := (cq_sA h p 2 (some a))) cD2 w2)⟩⟩
      · exact ⟨p', n, w1, by rw [nep e2]; exact inD_c (h := h) (h' := (cq_sA h p 2 (some a))) cD2 w2⟩
  · by_cases e : p' = p
    · rw [e, ep] at q2
      cases n with
      | zero => exact q2.elim
      | succ n =>
        obtain ⟨t, z1, z2, z3⟩ := q2
        cases z1
        rcases z3 with z3 | z3
        · rw [← z3]; exact aX
        · rw [ne 2 hs (by decide), hA] at z3
          exact m8 (t13 p n w hp (inD_c (h := (cq_sA h p 2 (some a))) (h' := h) cD3 z3))
    · rw [nep e] at q2
      exact m8 (t13 p' n w q1 (inD_c (h := (cq_sA h p 2 (some a))) (h' := h) cD3 q2))
  · have q1' : cq_s h b = 8 := q1
    rw [ne 1 q1' (by decide)] at q3
    exact t14 b r q1 (n8 q1' q2) q3
  · by_cases e : b = a
    · rw [e]; exact h3
    · exact t15 b q0 q1 (fun z => (List.mem_cons.mp z).elim e q2) q3
/-- a turn that was made is put ahead of its sisters -/
theorem CT.lk8 {t b p : Nat} (H : CT c E h0 (t :: X) h) (tX : t ∉ X) (hn : cq_s h0 t = 99) (hs : cq_s h t = 8) (hb : cq_s h b = 8) (lt : b < t) (f0 : cq_A h t 0 = some b) (f1 : cq_A h t 1 = some p) (sp : cq_s h p = 101) (f6 : cq_A h t 6 = some (t + 1)) (s6 : cq_s h (t + 1) = 183) (fl : cq_I h t 4 = 0 ∧ cq_I h t 5 = 1000000 ∧ ∀ j, cq_I h (t + 1) j = 0) (no : ∀ a r, cq_s h a = 8 → a ∉ t :: X → cq_A h a 0 = some b → cq_A h a 1 = some r → ¬ mtR h r p) : CT c E h0 X (cq_sA (cq_sA h t 3 (cq_A h b 2)) b 2 (some t)) := by
  have H0 := H
  obtain ⟨t1, t2, t3, t4, t5, t6, t7, t8, t9, t10, t11, t12, t13, t14, t15, t16, t17, t18, t19⟩ := H
  have s0 : ∀ {d k : Nat}, cq_s h0 d = k → k ≠ 99 → cq_s h d = k := fun {d k} q w => (t1 d (by rw [q]; exact w)).1.trans q
  have o0 : ∀ {d k : Nat}, cq_s h0 d = k → k ≠ 99 → d ≠ t := fun {d k} q w e => by rw [e, hn] at q; exact w q.symm
  obtain ⟨g, eg⟩ : ∃ g, g = cq_sA (cq_sA h t 3 (cq_A h b 2)) b 2 (some t) := ⟨_, rfl⟩
  rw [← eg]
  have es : cq_s g = cq_s h := by rw [eg]; rfl
  have ez : cq_z g = cq_z h := by rw [eg]; rfl
  have eI : cq_I g = cq_I h := by rw [eg]; rfl
  have eJ : cq_J g = cq_J h := by rw [eg]; rfl
  have ntb : t ≠ b := by omega
  have ne : ∀ {d : Nat} {j : Int}, ¬ (d = b ∧ j = 2) → ¬ (d = t ∧ j = 3) → cq_A g d j = cq_A h d j := fun {d j} q1 q2 => by rw [eg, mm_sA, if_neg q1, mm_sA, if_neg q2]
  have nes : ∀ {d k : Nat} (j : Int), cq_s h d = k → k ≠ 8 → cq_A g d j = cq_A h d j := fun {d k} j q w => ne (fun e => w (by rw [← q, e.1]; exact hb)) (fun e => w (by rw [← q, e.1]; exact hs))
  have n0 : ∀ d, cq_A g d 0 = cq_A h d 0 := fun d => ne (fun e => absurd e.2 (by decide)) (fun e => absurd e.2 (by decide))
  have n1 : ∀ d, cq_A g d 1 = cq_A h d 1 := fun d => ne (fun e => absurd e.2 (by decide)) (fun e => absurd e.2 (by decide))
  have n6 : ∀ d, cq_A g d 6 = cq_A h d 6 := fun d => ne (fun e => absurd e.2 (by decide)) (fun e => absurd e.2 (by decide))
  have n2 : ∀ d, d ≠ b → cq_A g d 2 = cq_A h d 2 := fun d w => ne (fun e => w e.1) (fun e => absurd e.2 (by decide))
  have n3 : ∀ d, d ≠ t → cq_A g d 3 = cq_A h d 3 := fun d w => ne (fun e => absurd e.2 (by decide)) (fun e => w e.1)
  have b2 : cq_A g b 2 = some t := by rw [eg, mm_sA, if_pos ⟨rfl, rfl⟩]
  have e3 : cq_A g t 3 = cq_A h b 2 := by rw [eg, mm_sA, if_neg (fun e => absurd e.2 (by decide)), mm_sA, if_pos ⟨rfl, rfl⟩]
  have yX : ∀ {d : Nat}, d ≠ t → d ∉ X → d ∉ t :: X := fun {d} q w e => (List.mem_cons.mp e).elim q w
  have mX : ∀ {d : Nat}, d ∉ t :: X → d ∉ X := fun {d} w e => w (List.mem_cons_of_mem _ e)
  have nt : ∀ {d : Nat}, d ∉ t :: X → d ≠ t := fun {d} w e => w (by rw [e]; exact List.mem_cons_self)
  have y6 : ∀ {d : Nat}, cq_s h d = 6 → d ∉ X → d ∉ t :: X := fun {d} q w => yX (fun e => by rw [e, hs] at q; exact absurd q (by decide)) w
  have L : ∀ {n : Nat} {o : Option Nat} {w : Nat}, (∀ x, o = some x → x ∉ t :: X ∧ cq_s h x = 8) → inL h n o w → inL g n o w := fun ho q => CT.lst H0 es (fun x _ q => n3 x (nt q)) ho q
  have L8 : ∀ d, cq_s h d = 8 → ∀ x, cq_A h d 2 = some x → x ∉ t :: X ∧ cq_s h x = 8 := fun d q x e => ⟨(t8 d x q e).1, (t8 d x q e).2.1⟩
  refine ⟨?_, ?_, ?_, ?_, ?_, ?_, ?_, ?_, ?_, ?_, ?_, ?_, ?_, ?_, ?_, ?_, ?_, ?_, ?_⟩
  · rw [es, ez]; exact t1
  · intro d j q
    rw [eJ, eI, nes j (s0 q (by decide)) (by decide)]
    exact t2 d j q
  · intro d j q
    rw [eI]
    refine ⟨fun w => ?_, (t3 d j q).2⟩
    rw [ne (fun e => w e.2) (fun e => o0 q (by decide) e.1)]
    exact (t3 d j q).1 w
  · intro d j q
    rw [nes j (s0 q (by decide)) (by decide)]
    exact t4 d j q
  · rw [eI]; exact t5
  · intro d q0 q1 q2 q3
    rw [es] at q1 ⊢
    rw [eI, n0]
    by_cases e : d = t
    · rw [e]
      exact ⟨fl.1, fl.2.1, fun _ => ⟨s6, fl.2.2⟩⟩
    · exact t6 d q0 q1 (yX e q2) q3
  · intro d q1 q2
    rw [es] at q1 ⊢
    rw [n0, n6]
    by_cases e : d = t
    · rw [e]
      exact Or.inr ⟨b, f0, lt, hb, f6, s6, 1, by rw [b2]; exact ⟨t, rfl, by rw [es]; exact hs, Or.inl rfl⟩⟩
    · rcases t7 d q1 (yX e q2) with w | ⟨d', w1, w2, w3, w4, w5, n, w6⟩
      · exact Or.inl w
      · by_cases e2 : d' = b
        · rw [e2] at w1 w2 w6
          exact Or.inr ⟨b, w1, w2, hb, w4, w5, n + 1, by rw [b2]; exact ⟨t, rfl, by rw [es]; exact hs, Or.inr (by rw [e3]; exact L (L8 b hb) w6)⟩⟩
        · exact Or.inr ⟨d', w1, w2, w3, w4, w5, n, by rw [n2 d' e2]; exact L (L8 d' w3) w6⟩
  · intro d x q1 q2
    rw [es] at q1 ⊢
    by_cases e : d = b
    · rw [e, b2] at q2
      cases q2
      rw [e, n0]
      exact ⟨tX, hs, f0⟩
    · rw [n2 d e] at q2
      obtain ⟨w1, w2, w3⟩ := t8 d x q1 q2
      exact ⟨mX w1, w2, by rw [n0]; exact w3⟩
  · intro d x q1 q0 q2
    rw [es] at q1 ⊢
    rw [n0, n0]
    by_cases e : d = t
    · rw [e, e3] at q2
      obtain ⟨w1, w2, w3⟩ := t8 b x hb q2
      exact ⟨mX w1, w2, by rw [w3, e, f0]⟩
    · rw [n3 d e] at q2
      obtain ⟨w1, w2, w3⟩ := t9 d x q1 (yX e q0) q2
      exact ⟨mX w1, w2, w3⟩
  · intro d d' r q a1 a2 a3 a4 a5 a6 a7 a8 m
    rw [es] at a1 a2
    rw [n0, n0] at a5
    rw [n0] at a6
    rw [n1] at a7 a8
    have bk : ∀ {r q : Nat}, cq_s h r = 101 → cq_s h q = 101 → mtR g r q → mtR h r q := fun {r q} s1 s2 m => mtR_c (by rw [ez]) (by rw [ez]) (fun j => nes j s1 (by decide)) (fun j => nes j s2 (by decide)) m
    by_cases e : d = t
    · by_cases e' : d' = t
      · rw [e, e']
      · have sq := t14 d' q a2 (yX e' a4) a8
        rw [e] at a5 a7
        rw [f1] at a7
        cases a7
        rw [f0] at a5
        exact absurd (bk sp sq m).symm (no d' q a2 (yX e' a4) a5.symm a8)
    · have sr := t14 d r a1 (yX e a3) a7
      by_cases e' : d' = t
      · rw [e'] at a5 a8
        rw [f1] at a8
        cases a8
        rw [f0] at a5
        exact absurd (bk sr sp m) (no d r a1 (yX e a3) a5 a7)
      · have sq := t14 d' q a2 (yX e' a4) a8
        exact t10 d d' r q a1 a2 (yX e a3) (yX e' a4) a5 a6 a7 a8 (bk sr sq m)
  · intro p' q
    rw [es] at q
    rw [eI, eJ, nes 2 q (by decide)]
    exact chD_c (fun w z => ⟨by rw [es]; exact z, by rw [eJ], nes 2 z (by decide)⟩) (t11 p' q)
  · intro w q1 q2
    rw [es] at q1
    obtain ⟨p', n, w1, w2⟩ := t12 w q1 (y6 q1 q2)
    exact ⟨p', n, by rw [es]; exact w1, by rw [nes 2 w1 (by decide)]; exact inD_c (fun w z => ⟨by rw [es]; exact z, nes 2 z (by decide)⟩) w2⟩
  · intro p' n w q1 q2
    rw [es] at q1
    rw [nes 2 q1 (by decide)] at q2
    exact mX (t13 p' n w q1 (inD_c (fun w z => by rw [es] at z; exact ⟨z, (nes 2 z (by decide)).symm⟩) q2))
  · intro d r q1 q2 q3
    rw [es] at q1 ⊢
    rw [n1] at q3
    by_cases e : d = t
    · rw [e, f1] at q3
      cases q3
      exact sp
    · exact t14 d r q1 (yX e q2) q3
  · intro d q0 q1 q2 q3
    rw [es] at q1
    rw [eI]
    exact t15 d q0 q1 (y6 q1 q2) q3
  · intro d j q0 q1
    rw [nes j (s0 q0 (by decide)) (by decide)]
    exact t16 d j q0 q1
  · rw [es]; exact t17
  · intro d j k q0 q9 q1
    rw [nes j (s0 q0 (by omega)) (by omega)]
    exact t18 d j k q0 q9 q1
  · intro d q0
    rw [eI, nes 2 (s0 q0 (by decide)) (by decide)]
    exact t19 d q0
/-- a row of pairs in the making is written -/
theorem CT.s101 (H : CT c E h0 X h) {p : Nat} {j : Int} {v : Option Nat} (hs : cq_s h p = 101) (hn : cq_s h0 p = 99) (no : ∀ a, cq_s h a = 8 → a ∉ X → cq_A h a 1 ≠ some p) : CT c E h0 X (cq_sA h p j v) := by
  obtain ⟨t1, t2, t3, t4, t5, t6, t7, t8, t9, t10, t11, t12, t13, t14, t15, t16, t17, t18, t19⟩ := H
  have o0 : ∀ {d k : Nat}, cq_s h0 d = k → k ≠ 99 → d ≠ p := fun {d k} q w e => by rw [e, hn] at q; exact w q.symm
  have ne : ∀ {d : Nat} (r : Int), d ≠ p → cq_A (cq_sA h p j v) d r = cq_A h d r := fun {d} r q => by rw [mm_sA, if_neg (fun e => q e.1)]
  have nes : ∀ {d k : Nat} (r : Int), cq_s h d = k → k ≠ 101 → cq_A (cq_sA h p j v) d r = cq_A h d r := fun {d k} r q w => ne r (fun e => w (by rw [← q, e]; exact hs))
  refine ⟨t1, fun b r q => ?_, fun b r q => ?_, fun b r q => ?_, t5, fun b q0 q1 q2 q3 => ?_, fun b q1 q2 => ?_, fun b t q1 q2 => ?_, fun b t q1 q0 q2 => ?_, fun b d r q a1 a2 a3 a4 a5 a6 a7 a8 m => ?_, fun p' q => ?_, fun w q1 q2 => ?_, fun p' n w q1 q2 => ?_, fun b r q1 q2 q3 => ?_, t15, fun d r q0 q1 => by rw [ne r (o0 q0 (by decide))]; exact t16 d r q0 q1, t17, fun d r k q0 q9 q1 => by rw [ne r (o0 q0 (by omega))]; exact t18 d r k q0 q9 q1, fun d q0 => by rw [ne 2 (o0 q0 (by decide))]; exact t19 d q0⟩
  · rw [ne r (o0 q (by decide))]
    exact t2 b r q
  · rw [ne r (o0 q (by decide))]
    exact t3 b r q
  · rw [ne r (o0 q (by decide))]
    exact t4 b r q
  · have q1' : cq_s h b = 8 := q1
    rw [nes 0 q1' (by decide)]
    exact t6 b q0 q1 q2 q3
  · have q1' : cq_s h b = 8 := q1
    rw [nes 0 q1' (by decide), nes 6 q1' (by decide)]
    rcases t7 b q1 q2 with w | ⟨d, w1, w2, w3, w4, w5, n, w6⟩
    · exact Or.inl w
    · exact Or.inr ⟨d, w1, w2, w3, w4, w5, n, by rw [nes 2 w3 (by decide)]; exact inL_c (h := h) (h' := (cq_sA h p j v)) (fun w q => ⟨q, nes 3 q (by decide)⟩) w6⟩
  · have q1' : cq_s h b = 8 := q1
    rw [nes 2 q1' (by decide)] at q2
    obtain ⟨w1, w2, w3⟩ := t8 b t q1 q2
    exact ⟨w1, w2, by rw [nes 0 w2 (by decide)]; exact w3⟩
  · have q1' : cq_s h b = 8 := q1
    rw [nes 3 q1' (by decide)] at q2
    obtain ⟨w1, w2, w3⟩ := t9 b t q1 q0 q2
    exact ⟨w1, w2, by rw [nes 0 w2 (by decide), nes 0 q1' (by decide)]; exact w3⟩
  · have a1' : cq_s h b = 8 := a1
    have a2' : cq_s h d = 8 := a2
    rw [nes 0 a1' (by decide), nes 0 a2' (by decide)] at a5
    rw [nes 0 a1' (by decide)] at a6
    rw [nes 1 a1' (by decide)] at a7
    rw [nes 1 a2' (by decide)] at a8
    have nr : r ≠ p := fun e => no b a1' a3 (by rw [a7, e])
    have nq : q ≠ p := fun e => no d a2' a4 (by rw [a8, e])
    exact t10 b d r q a1 a2 a3 a4 a5 a6 a7 a8 (mtR_c (h := h) (h' := (cq_sA h p j v)) rfl rfl (fun j => ne j nr) (fun j => ne j nq) m)
  · have q' : cq_s h p' = 4 := q
    rw [nes 2 q' (by decide)]
    exact chD_c (h := h) (h' := (cq_sA h p j v)) (fun w z => ⟨z, rfl, nes 2 z (by decide)⟩) (t11 p' q')
  · obtain ⟨p', n, w1, w2⟩ := t12 w q1 q2
    exact ⟨p', n, w1, by rw [nes 2 w1 (by decide)]; exact inD_c (h := h) (h' := (cq_sA h p j v)) (fun w z => ⟨z, nes 2 z (by decide)⟩) w2⟩
  · have q1' : cq_s h p' = 4 := q1
    rw [nes 2 q1' (by decide)] at q2
    exact t13 p' n w q1' (inD_c (h := (cq_sA h p j v)) (h' := h) (fun w z => ⟨z, (nes 2 z (by decide)).symm⟩) q2)
  · have q1' : cq_s h b = 8 := q1
    rw [nes 1 q1' (by decide)] at q3
    exact t14 b r q1 q2 q3
/-- a LOOK leaves its marks -/
theorem CT.sL (H : CT c E h0 X h) {a s : Nat} {j v : Int} (hl : E c ≠ none) (hs : cq_s h a = s) (h4 : s ≠ 4) (h2 : s ≠ 2) : CT c E h0 X (cq_sI h a j v) := by
  obtain ⟨t1, t2, t3, t4, t5, t6, t7, t8, t9, t10, t11, t12, t13, t14, t15, t16, t17, t18, t19⟩ := H
  refine ⟨t1, fun b r q => ⟨(t2 b r q).1, (t2 b r q).2.1, fun z => absurd z hl⟩, fun b r q => ⟨(t3 b r q).1, fun z => absurd z hl⟩, t4, fun b r q z => absurd z hl, fun b q0 q1 q2 q3 => absurd q3 hl, fun b q1 q2 => ?_, t8, t9, t10, fun p q => ?_, fun w q1 q2 => ?_, fun p n w q1 q2 => ?_, t14, fun b q0 q1 q2 q3 => absurd q3 hl, t16, t17, t18, fun b q0 => by rw [mm_sI, if_neg (fun e => h2 (by rw [← hs, ← e.1]; exact (t1 b (by rw [q0]; decide)).1.trans q0))]; exact t19 b q0⟩
  · rcases t7 b q1 q2 with w | ⟨d, w1, w2, w3, w4, w5, n, w6⟩
    · exact Or.inl w
    · exact Or.inr ⟨d, w1, w2, w3, w4, w5, n, inL_c (h := h) (h' := (cq_sI h a j v)) (fun w q => ⟨q, rfl⟩) w6⟩
  · have q' : cq_s h p = 4 := q
    rw [mm_sI, if_neg (fun e => h4 (by rw [← hs, ← e.1]; exact q'))]
    exact chD_c (h := h) (h' := (cq_sI h a j v)) (fun w z => ⟨z, rfl, rfl⟩) (t11 p q')
  · obtain ⟨p', n, w1, w2⟩ := t12 w q1 q2
    exact ⟨p', n, w1, inD_c (h := h) (h' := (cq_sI h a j v)) (fun w q => ⟨q, rfl⟩) w2⟩
  · exact t13 p n w q1 (inD_c (h := (cq_sI h a j v)) (h' := h) (fun w q => ⟨q, rfl⟩) q2)
/-- a user that has drawn nothing has its seed -/
theorem CT.s40 (H : CT c E h0 X h) {p : Nat} {v : Int64} (hs : cq_s h p = 4) (hA : cq_A h p 2 = none) : CT c E h0 X (cq_sJ h p 0 v) := by
  obtain ⟨t1, t2, t3, t4, t5, t6, t7, t8, t9, t10, t11, t12, t13, t14, t15, t16, t17, t18, t19⟩ := H
  have s0 : ∀ {b k : Nat}, cq_s h0 b = k → k ≠ 99 → cq_s h b = k := fun {b k} q w => (t1 b (by rw [q]; exact w)).1.trans q
  have ne : ∀ {d k : Nat} (r : Int), cq_s h d = k → k ≠ 4 → cq_J (cq_sJ h p 0 v) d r = cq_J h d r := fun {d k} r q w => by rw [mm_sJ, if_neg (fun e => w (by rw [← q, e.1]; exact hs))]
  refine ⟨t1, fun b r q => ?_, t3, t4, t5, t6, fun b q1 q2 => ?_, t8, t9, t10, fun p' q => ?_, fun w q1 q2 => ?_, fun p' n w q1 q2 => ?_, t14, t15, t16, t17, t18, t19⟩
  · rw [ne r (s0 q (by decide)) (by decide)]
    exact t2 b r q
  · rcases t7 b q1 q2 with w | ⟨d, w1, w2, w3, w4, w5, n, w6⟩
    · exact Or.inl w
    · exact Or.inr ⟨d, w1, w2, w3, w4, w5, n, inL_c (h := h) (h' := (cq_sJ h p 0 v)) (fun w q => ⟨q, rfl⟩) w6⟩
  · have q' : cq_s h p' = 4 := q
    by_cases e : p' = p
    · rw [e]
      show chD _ _ _ (cq_A h p 2)
      rw [hA]
      exact chD_none
    · rw [mm_sJ, if_neg (fun z => e z.1)]
      exact chD_c (h := h) (h' := (cq_sJ h p 0 v)) (fun w z => ⟨z, ne 1 z (by decide), rfl⟩) (t11 p' q')
  · obtain ⟨p', n, w1, w2⟩ := t12 w q1 q2
    exact ⟨p', n, w1, inD_c (h := h) (h' := (cq_sJ h p 0 v)) (fun w q => ⟨q, rfl⟩) w2⟩
  · exact t13 p' n w q1 (inD_c (h := (cq_sJ h p 0 v)) (h' := h) (fun w q => ⟨q, rfl⟩) q2)
/-- a row of KEPT turns is written -/
theorem CT.s174 (H : CT c E h0 X h) {p : Nat} {j : Int} {v : Option Nat} (hs : cq_s h p = 174) (hE : E p ≠ none) : CT c E h0 X (cq_sA h p j v) := by
  obtain ⟨t1, t2, t3, t4, t5, t6, t7, t8, t9, t10, t11, t12, t13, t14, t15, t16, t17, t18, t19⟩ := H
  have s0 : ∀ {b k : Nat}, cq_s h0 b = k → k ≠ 99 → cq_s h b = k := fun {b k} q w => (t1 b (by rw [q]; exact w)).1.trans q
  have ne : ∀ {d : Nat} (r : Int), d ≠ p → cq_A (cq_sA h p j v) d r = cq_A h d r := fun {d} r q => by rw [mm_sA, if_neg (fun e => q e.1)]
  have nes : ∀ {d k : Nat} (r : Int), cq_s h d = k → k ≠ 174 → cq_A (cq_sA h p j v) d r = cq_A h d r := fun {d k} r q w => ne r (fun e => w (by rw [← q, e]; exact hs))
  refine ⟨t1, fun b r q => ?_, fun b r q => ?_, fun b r q => ?_, t5, fun b q0 q1 q2 q3 => ?_, fun b q1 q2 => ?_, fun b t q1 q2 => ?_, fun b t q1 q0 q2 => ?_, fun b d r q a1 a2 a3 a4 a5 a6 a7 a8 m => ?_, fun p' q => ?_, fun w q1 q2 => ?_, fun p' n w q1 q2 => ?_, fun b r q1 q2 q3 => ?_, t15, fun d r q0 q1 => by rw [ne r (fun e => hE (by rw [← e]; exact q1))]; exact t16 d r q0 q1, t17, fun d r k q0 q9 q1 => by rw [nes r (s0 q0 (by omega)) (by omega)]; exact t18 d r k q0 q9 q1, fun d q0 => by rw [nes 2 (s0 q0 (by decide)) (by decide)]; exact t19 d q0⟩
  · rw [nes r (s0 q (by decide)) (by decide)]
    exact t2 b r q
  · rw [nes r (s0 q (by decide)) (by decide)]
    exact t3 b r q
  · rw [nes r (s0 q (by decide)) (by decide)]
    exact t4 b r q
  · have q1' : cq_s h b = 8 := q1
    rw [nes 0 q1' (by decide)]
    exact t6 b q0 q1 q2 q3
  · have q1' : cq_s h b = 8 := q1
    rw [nes 0 q1' (by decide), nes 6 q1' (by decide)]
    rcases t7 b q1 q2 with w | ⟨d, w1, w2, w3, w4, w5, n, w6⟩
    · exact Or.inl w
    · exact Or.inr ⟨d, w1, w2, w3, w4, w5, n, by rw [nes 2 w3 (by decide)]; exact inL_c (h := h) (h' := (cq_sA h p j v)) (fun w q => ⟨q, nes 3 q (by decide)⟩) w6⟩
  · have q1' : cq_s h b = 8 := q1
    rw [nes 2 q1' (by decide)] at q2
    obtain ⟨w1, w2, w3⟩ := t8 b t q1 q2
    exact ⟨w1, w2, by rw [nes 0 w2 (by decide)]; exact w3⟩
  · have q1' : cq_s h b = 8 := q1
    rw [nes 3 q1' (by decide)] at q2
    obtain ⟨w1, w2, w3⟩ := t9 b t q1 q0 q2
    exact ⟨w1, w2, by rw [nes 0 w2 (by decide), nes 0 q1' (by decide)]; exact w3⟩
  · have a1' : cq_s h b = 8 := a1
    have a2' : cq_s h d = 8 := a2
    rw [nes 0 a1' (by decide), nes 0 a2' (by decide)] at a5
    rw [nes 0 a1' (by decide)] at a6
    rw [nes 1 a1' (by decide)] at a7
    rw [nes 1 a2' (by decide)] at a8
    have sr := t14 b r a1' a3 a7
    have sq := t14 d q a2' a4 a8
    exact t10 b d r q a1 a2 a3 a4 a5 a6 a7 a8 (mtR_c (h := h) (h' := (cq_sA h p j v)) rfl rfl (fun j => nes j sr (by decide)) (fun j => nes j sq (by decide)) m)
  · have q' : cq_s h p' = 4 := q
    rw [nes 2 q' (by decide)]
    exact chD_c (h := h) (h' := (cq_sA h p j v)) (fun w z => ⟨z, rfl, nes 2 z (by decide)⟩) (t11 p' q')
  · obtain ⟨p', n, w1, w2⟩ := t12 w q1 q2
    exact ⟨p', n, w1, by rw [nes 2 w1 (by decide)]; exact inD_c (h := h) (h' := (cq_sA h p j v)) (fun w z => ⟨z, nes 2 z (by decide)⟩) w2⟩
  · have q1' : cq_s h p' = 4 := q1
    rw [nes 2 q1' (by decide)] at q2
    exact t13 p' n w q1' (inD_c (h := (cq_sA h p j v)) (h' := h) (fun w z => ⟨z, (nes 2 z (by decide)).symm⟩) q2)
  · have q1' : cq_s h b = 8 := q1
    rw [nes 1 q1' (by decide)] at q3
    exact t14 b r q1 q2 q3
/-- a SESSION's reference is written -/
theorem CT.s7 (H : CT c E h0 X h) {p : Nat} {j : Int} {v : Option Nat} (hs : cq_s h p = 7) (hE : cq_s h0 p = 7 → E p ≠ none) : CT c E h0 X (cq_sA h p j v) := by
  obtain ⟨t1, t2, t3, t4, t5, t6, t7, t8, t9, t10, t11, t12, t13, t14, t15, t16, t17, t18, t19⟩ := H
  have s0 : ∀ {b k : Nat}, cq_s h0 b = k → k ≠ 99 → cq_s h b = k := fun {b k} q w => (t1 b (by rw [q]; exact w)).1.trans q
  have ne : ∀ {d : Nat} (r : Int), d ≠ p → cq_A (cq_sA h p j v) d r = cq_A h d r := fun {d} r q => by rw [mm_sA, if_neg (fun e => q e.1)]
  have nes : ∀ {d k : Nat} (r : Int), cq_s h d = k → k ≠ 7 → cq_A (cq_sA h p j v) d r = cq_A h d r := fun {d k} r q w => ne r (fun e => w (by rw [← q, e]; exact hs))
  refine ⟨t1, fun b r q => ?_, fun b r q => ?_, fun b r q => ?_, t5, fun b q0 q1 q2 q3 => ?_, fun b q1 q2 => ?_, fun b t q1 q2 => ?_, fun b t q1 q0 q2 => ?_, fun b d r q a1 a2 a3 a4 a5 a6 a7 a8 m => ?_, fun p' q => ?_, fun w q1 q2 => ?_, fun p' n w q1 q2 => ?_, fun b r q1 q2 q3 => ?_, t15, fun d r q0 q1 => by rw [nes r (s0 q0 (by decide)) (by decide)]; exact t16 d r q0 q1, t17, fun d r k q0 q9 q1 => by rw [ne r (fun e => hE (by have z := s0 q0 (by omega); rw [e, hs] at z; rw [← e, z]; exact q0) (by rw [← e]; exact q1))]; exact t18 d r k q0 q9 q1, fun d q0 => by rw [nes 2 (s0 q0 (by decide)) (by decide)]; exact t19 d q0⟩
  · rw [nes r (s0 q (by decide)) (by decide)]
    exact t2 b r q
  · rw [nes r (s0 q (by decide)) (by decide)]
    exact t3 b r q
  · rw [nes r (s0 q (by decide)) (by decide)]
    exact t4 b r q
  · have q1' : cq_s h b = 8 := q1
    rw [nes 0 q1' (by decide)]
    exact t6 b q0 q1 q2 q3
  · have q1' : cq_s h b = 8 := q1
    rw [nes 0 q1' (by decide), nes 6 q1' (by decide)]
    rcases t7 b q1 q2 with w | ⟨d, w1, w2, w3, w4, w5, n, w6⟩
    · exact Or.inl w
    · exact Or.inr ⟨d, w1, w2, w3, w4, w5, n, by rw [nes 2 w3 (by decide)]; exact inL_c (h := h) (h' := (cq_sA h p j v)) (fun w q => ⟨q, nes 3 q (by decide)⟩) w6⟩
  · have q1' : cq_s h b = 8 := q1
    rw [nes 2 q1' (by decide)] at q2
    obtain ⟨w1, w2, w3⟩ := t8 b t q1 q2
    exact ⟨w1, w2, by rw [nes 0 w2 (by decide)]; exact w3⟩
  · have q1' : cq_s h b = 8 := q1
    rw [nes 3 q1' (by decide)] at q2
    obtain ⟨w1, w2, w3⟩ := t9 b t q1 q0 q2
    exact ⟨w1, w2, by rw [nes 0 w2 (by decide), nes 0 q1' (by decide)]; exact w3⟩
  · have a1' : cq_s h b = 8 := a1
    have a2' : cq_s h d = 8 := a2
    rw [nes 0 a1' (by decide), nes 0 a2' (by decide)] at a5
    rw [nes 0 a1' (by decide)] at a6
    rw [nes 1 a1' (by decide)] at a7
    rw [nes 1 a2' (by decide)] at a8
    have sr := t14 b r a1' a3 a7
    have sq := t14 d q a2' a4 a8
    exact t10 b d r q a1 a2 a3 a4 a5 a6 a7 a8 (mtR_c (h := h) (h' := (cq_sA h p j v)) rfl rfl (fun j => nes j sr (by decide)) (fun j => nes j sq (by decide)) m)
  · have q' : cq_s h p' = 4 := q
    rw [nes 2 q' (by decide)]
    exact chD_c (h := h) (h' := (cq_sA h p j v)) (fun w z => ⟨z, rfl, nes 2 z (by decide)⟩) (t11 p' q')
  · obtain ⟨p', n, w1, w2⟩ := t12 w q1 q2
    exact ⟨p', n, w1, by rw [nes 2 w1 (by decide)]; exact inD_c (h := h) (h' := (cq_sA h p j v)) (fun w z => ⟨z, nes 2 z (by decide)⟩) w2⟩
  · have q1' : cq_s h p' = 4 := q1
    rw [nes 2 q1' (by decide)] at q2
    exact t13 p' n w q1' (inD_c (h := (cq_sA h p j v)) (h' := h) (fun w z => ⟨z, (nes 2 z (by decide)).symm⟩) q2)
  · have q1' : cq_s h b = 8 := q1
    rw [nes 1 q1' (by decide)] at q3
    exact t14 b r q1 q2 q3
theorem CT.s9 (H : CT c E h0 X h) {p : Nat} {j : Int} {v : Option Nat} (hs : cq_s h p = 9) (hE : cq_s h0 p = 9 → E p ≠ none) : CT c E h0 X (cq_sA h p j v) := by
  obtain ⟨t1, t2, t3, t4, t5, t6, t7, t8, t9, t10, t11, t12, t13, t14, t15, t16, t17, t18, t19⟩ := H
  have s0 : ∀ {b k : Nat}, cq_s h0 b = k → k ≠ 99 → cq_s h b = k := fun {b k} q w => (t1 b (by rw [q]; exact w)).1.trans q
  have ne : ∀ {d : Nat} (r : Int), d ≠ p → cq_A (cq_sA h p j v) d r = cq_A h d r := fun {d} r q => by rw [mm_sA, if_neg (fun e => q e.1)]
  have nes : ∀ {d k : Nat} (r : Int), cq_s h d = k → k ≠ 9 → cq_A (cq_sA h p j v) d r = cq_A h d r := fun {d k} r q w => ne r (fun e => w (by rw [← q, e]; exact hs))
  refine ⟨t1, fun b r q => ?_, fun b r q => ?_, fun b r q => ?_, t5, fun b q0 q1 q2 q3 => ?_, fun b q1 q2 => ?_, fun b t q1 q2 => ?_, fun b t q1 q0 q2 => ?_, fun b d r q a1 a2 a3 a4 a5 a6 a7 a8 m => ?_, fun p' q => ?_, fun w q1 q2 => ?_, fun p' n w q1 q2 => ?_, fun b r q1 q2 q3 => ?_, t15, fun d r q0 q1 => by rw [nes r (s0 q0 (by decide)) (by decide)]; exact t16 d r q0 q1, t17, fun d r k q0 q9 q1 => by rw [ne r (fun e => hE (by have z := s0 q0 (by omega); rw [e, hs] at z; rw [← e, z]; exact q0) (by rw [← e]; exact q1))]; exact t18 d r k q0 q9 q1, fun d q0 => by rw [nes 2 (s0 q0 (by decide)) (by decide)]; exact t19 d q0⟩
  · rw [nes r (s0 q (by decide)) (by decide)]
    exact t2 b r q
  · rw [nes r (s0 q (by decide)) (by decide)]
    exact t3 b r q
  · rw [nes r (s0 q (by decide)) (by decide)]
    exact t4 b r q
  · have q1' : cq_s h b = 8 := q1
    rw [nes 0 q1' (by decide)]
    exact t6 b q0 q1 q2 q3
  · have q1' : cq_s h b = 8 := q1
    rw [nes 0 q1' (by decide), nes 6 q1' (by decide)]
    rcases t7 b q1 q2 with w | ⟨d, w1, w2, w3, w4, w5, n, w6⟩
    · exact Or.inl w
    · exact Or.inr ⟨d, w1, w2, w3, w4, w5, n, by rw [nes 2 w3 (by decide)]; exact inL_c (h := h) (h' := (cq_sA h p j v)) (fun w q => ⟨q, nes 3 q (by decide)⟩) w6⟩
  · have q1' : cq_s h b = 8 := q1
    rw [nes 2 q1' (by decide)] at q2
    obtain ⟨w1, w2, w3⟩ := t8 b t q1 q2
    exact ⟨w1, w2, by rw [nes 0 w2 (by decide)]; exact w3⟩
  · have q1' : cq_s h b = 8 := q1
    rw [nes 3 q1' (by decide)] at q2
    obtain ⟨w1, w2, w3⟩ := t9 b t q1 q0 q2
    exact ⟨w1, w2, by rw [nes 0 w2 (by decide), nes 0 q1' (by decide)]; exact w3⟩
  · have a1' : cq_s h b = 8 := a1
    have a2' : cq_s h d = 8 := a2
    rw [nes 0 a1' (by decide), nes 0 a2' (by decide)] at a5
    rw [nes 0 a1' (by decide)] at a6
    rw [nes 1 a1' (by decide)] at a7
    rw [nes 1 a2' (by decide)] at a8
    have sr := t14 b r a1' a3 a7
    have sq := t14 d q a2' a4 a8
    exact t10 b d r q a1 a2 a3 a4 a5 a6 a7 a8 (mtR_c (h := h) (h' := (cq_sA h p j v)) rfl rfl (fun j => nes j sr (by decide)) (fun j => nes j sq (by decide)) m)
  · have q' : cq_s h p' = 4 := q
    rw [nes 2 q' (by decide)]
    exact chD_c (h := h) (h' := (cq_sA h p j v)) (fun w z => ⟨z, rfl, nes 2 z (by decide)⟩) (t11 p' q')
  · obtain ⟨p', n, w1, w2⟩ := t12 w q1 q2
    exact ⟨p', n, w1, by rw [nes 2 w1 (by decide)]; exact inD_c (h := h) (h' := (cq_sA h p j v)) (fun w z => ⟨z, nes 2 z (by decide)⟩) w2⟩
  · have q1' : cq_s h p' = 4 := q1
    rw [nes 2 q1' (by decide)] at q2
    exact t13 p' n w q1' (inD_c (h := (cq_sA h p j v)) (h' := h) (fun w z => ⟨z, (nes 2 z (by decide)).symm⟩) q2)
  · have q1' : cq_s h b = 8 := q1
    rw [nes 1 q1' (by decide)] at q3
    exact t14 b r q1 q2 q3
theorem CT.s1 (H : CT c E h0 X h) {p : Nat} {j : Int} {v : Option Nat} (hs : cq_s h p = 1) (hE : cq_s h0 p = 1 → E p ≠ none) : CT c E h0 X (cq_sA h p j v) := by
  obtain ⟨t1, t2, t3, t4, t5, t6, t7, t8, t9, t10, t11, t12, t13, t14, t15, t16, t17, t18, t19⟩ := H
  have s0 : ∀ {b k : Nat}, cq_s h0 b = k → k ≠ 99 → cq_s h b = k := fun {b k} q w => (t1 b (by rw [q]; exact w)).1.trans q
  have ne : ∀ {d : Nat} (r : Int), d ≠ p → cq_A (cq_sA h p j v) d r = cq_A h d r := fun {d} r q => by rw [mm_sA, if_neg (fun e => q e.1)]
  have nes : ∀ {d k : Nat} (r : Int), cq_s h d = k → k ≠ 1 → cq_A (cq_sA h p j v) d r = cq_A h d r := fun {d k} r q w => ne r (fun e => w (by rw [← q, e]; exact hs))
  refine ⟨t1, fun b r q => ?_, fun b r q => ?_, fun b r q => ?_, t5, fun b q0 q1 q2 q3 => ?_, fun b q1 q2 => ?_, fun b t q1 q2 => ?_, fun b t q1 q0 q2 => ?_, fun b d r q a1 a2 a3 a4 a5 a6 a7 a8 m => ?_, fun p' q => ?_, fun w q1 q2 => ?_, fun p' n w q1 q2 => ?_, fun b r q1 q2 q3 => ?_, t15, fun d r q0 q1 => by rw [nes r (s0 q0 (by decide)) (by decide)]; exact t16 d r q0 q1, t17, fun d r k q0 q9 q1 => by rw [ne r (fun e => hE (by have z := s0 q0 (by omega); rw [e, hs] at z; rw [← e, z]; exact q0) (by rw [← e]; exact q1))]; exact t18 d r k q0 q9 q1, fun d q0 => by rw [nes 2 (s0 q0 (by decide)) (by decide)]; exact t19 d q0⟩
  · rw [nes r (s0 q (by decide)) (by decide)]
    exact t2 b r q
  · rw [nes r (s0 q (by decide)) (by decide)]
    exact t3 b r q
  · rw [nes r (s0 q (by decide)) (by decide)]
    exact t4 b r q
  · have q1' : cq_s h b = 8 := q1
    rw [nes 0 q1' (by decide)]
    exact t6 b q0 q1 q2 q3
  · have q1' : cq_s h b = 8 := q1
    rw [nes 0 q1' (by decide), nes 6 q1' (by decide)]
    rcases t7 b q1 q2 with w | ⟨d, w1, w2, w3, w4, w5, n, w6⟩
    · exact Or.inl w
    · exact Or.inr ⟨d, w1, w2, w3, w4, w5, n, by rw [nes 2 w3 (by decide)]; exact inL_c (h := h) (h' := (cq_sA h p j v)) (fun w q => ⟨q, nes 3 q (by decide)⟩) w6⟩
  · have q1' : cq_s h b = 8 := q1
    rw [nes 2 q1' (by decide)] at q2
    obtain ⟨w1, w2, w3⟩ := t8 b t q1 q2
    exact ⟨w1, w2, by rw [nes 0 w2 (by decide)]; exact w3⟩
  · have q1' : cq_s h b = 8 := q1
    rw [nes 3 q1' (by decide)] at q2
    obtain ⟨w1, w2, w3⟩ := t9 b t q1 q0 q2
    exact ⟨w1, w2, by rw [nes 0 w2 (by decide), nes 0 q1' (by decide)]; exact w3⟩
  · have a1' : cq_s h b = 8 := a1
    have a2' : cq_s h d = 8 := a2
    rw [nes 0 a1' (by decide), nes 0 a2' (by decide)] at a5
    rw [nes 0 a1' (by decide)] at a6
    rw [nes 1 a1' (by decide)] at a7
    rw [nes 1 a2' (by decide)] at a8
    have sr := t14 b r a1' a3 a7
    have sq := t14 d q a2' a4 a8
    exact t10 b d r q a1 a2 a3 a4 a5 a6 a7 a8 (mtR_c (h := h) (h' := (cq_sA h p j v)) rfl rfl (fun j => nes j sr (by decide)) (fun j => nes j sq (by decide)) m)
  · have q' : cq_s h p' = 4 := q
    rw [nes 2 q' (by decide)]
    exact chD_c (h := h) (h' := (cq_sA h p j v)) (fun w z => ⟨z, rfl, nes 2 z (by decide)⟩) (t11 p' q')
  · obtain ⟨p', n, w1, w2⟩ := t12 w q1 q2
    exact ⟨p', n, w1, by rw [nes 2 w1 (by decide)]; exact inD_c (h := h) (h' := (cq_sA h p j v)) (fun w z => ⟨z, nes 2 z (by decide)⟩) w2⟩
  · have q1' : cq_s h p' = 4 := q1
    rw [nes 2 q1' (by decide)] at q2
    exact t13 p' n w q1' (inD_c (h := (cq_sA h p j v)) (h' := h) (fun w z => ⟨z, (nes 2 z (by decide)).symm⟩) q2)
  · have q1' : cq_s h b = 8 := q1
    rw [nes 1 q1' (by decide)] at q3
    exact t14 b r q1 q2 q3
/-- a new letter's turn is written -/
theorem CT.s2 (H : CT c E h0 X h) {p : Nat} {j : Int} {v : Option Nat} (hs : cq_s h p = 2) (hE : cq_s h0 p ≠ 2) : CT c E h0 X (cq_sA h p j v) := by
  obtain ⟨t1, t2, t3, t4, t5, t6, t7, t8, t9, t10, t11, t12, t13, t14, t15, t16, t17, t18, t19⟩ := H
  have s0 : ∀ {b k : Nat}, cq_s h0 b = k → k ≠ 99 → cq_s h b = k := fun {b k} q w => (t1 b (by rw [q]; exact w)).1.trans q
  have ne : ∀ {d : Nat} (r : Int), d ≠ p → cq_A (cq_sA h p j v) d r = cq_A h d r := fun {d} r q => by rw [mm_sA, if_neg (fun e => q e.1)]
  have nes : ∀ {d k : Nat} (r : Int), cq_s h d = k → k ≠ 2 → cq_A (cq_sA h p j v) d r = cq_A h d r := fun {d k} r q w => ne r (fun e => w (by rw [← q, e]; exact hs))
  refine ⟨t1, fun b r q => ?_, fun b r q => ?_, fun b r q => ?_, t5, fun b q0 q1 q2 q3 => ?_, fun b q1 q2 => ?_, fun b t q1 q2 => ?_, fun b t q1 q0 q2 => ?_, fun b d r q a1 a2 a3 a4 a5 a6 a7 a8 m => ?_, fun p' q => ?_, fun w q1 q2 => ?_, fun p' n w q1 q2 => ?_, fun b r q1 q2 q3 => ?_, t15, fun d r q0 q1 => by rw [nes r (s0 q0 (by decide)) (by decide)]; exact t16 d r q0 q1, t17, fun d r k q0 q9 q1 => by rw [nes r (s0 q0 (by omega)) (by omega)]; exact t18 d r k q0 q9 q1, fun d q0 => by rw [ne 2 (fun e => hE (by rw [← e]; exact q0))]; exact t19 d q0⟩
  · rw [nes r (s0 q (by decide)) (by decide)]
    exact t2 b r q
  · rw [nes r (s0 q (by decide)) (by decide)]
    exact t3 b r q
  · rw [nes r (s0 q (by decide)) (by decide)]
    exact t4 b r q
  · have q1' : cq_s h b = 8 := q1
    rw [nes 0 q1' (by decide)]
    exact t6 b q0 q1 q2 q3
  · have q1' : cq_s h b = 8 := q1
    rw [nes 0 q1' (by decide), nes 6 q1' (by decide)]
    rcases t7 b q1 q2 with w | ⟨d, w1, w2, w3, w4, w5, n, w6⟩
    · exact Or.inl w
    · exact Or.inr ⟨d, w1, w2, w3, w4, w5, n, by rw [nes 2 w3 (by decide)]; exact inL_c (h := h) (h' := (cq_sA h p j v)) (fun w q => ⟨q, nes 3 q (by decide)⟩) w6⟩
  · have q1' : cq_s h b = 8 := q1
    rw [nes 2 q1' (by decide)] at q2
    obtain ⟨w1, w2, w3⟩ := t8 b t q1 q2
    exact ⟨w1, w2, by rw [nes 0 w2 (by decide)]; exact w3⟩
  · have q1' : cq_s h b = 8 := q1
    rw [nes 3 q1' (by decide)] at q2
    obtain ⟨w1, w2, w3⟩ := t9 b t q1 q0 q2
    exact ⟨w1, w2, by rw [nes 0 w2 (by decide), nes 0 q1' (by decide)]; exact w3⟩
  · have a1' : cq_s h b = 8 := a1
    have a2' : cq_s h d = 8 := a2
    rw [nes 0 a1' (by decide), nes 0 a2' (by decide)] at a5
    rw [nes 0 a1' (by decide)] at a6
    rw [nes 1 a1' (by decide)] at a7
    rw [nes 1 a2' (by decide)] at a8
    have sr := t14 b r a1' a3 a7
    have sq := t14 d q a2' a4 a8
    exact t10 b d r q a1 a2 a3 a4 a5 a6 a7 a8 (mtR_c (h := h) (h' := (cq_sA h p j v)) rfl rfl (fun j => nes j sr (by decide)) (fun j => nes j sq (by decide)) m)
  · have q' : cq_s h p' = 4 := q
    rw [nes 2 q' (by decide)]
    exact chD_c (h := h) (h' := (cq_sA h p j v)) (fun w z => ⟨z, rfl, nes 2 z (by decide)⟩) (t11 p' q')
  · obtain ⟨p', n, w1, w2⟩ := t12 w q1 q2
    exact ⟨p', n, w1, by rw [nes 2 w1 (by decide)]; exact inD_c (h := h) (h' := (cq_sA h p j v)) (fun w z => ⟨z, nes 2 z (by decide)⟩) w2⟩
  · have q1' : cq_s h p' = 4 := q1
    rw [nes 2 q1' (by decide)] at q2
    exact t13 p' n w q1' (inD_c (h := (cq_sA h p j v)) (h' := h) (fun w z => ⟨z, (nes 2 z (by decide)).symm⟩) q2)
  · have q1' : cq_s h b = 8 := q1
    rw [nes 1 q1' (by decide)] at q3
    exact t14 b r q1 q2 q3
/-- its place -/
theorem CT.s23 (H : CT c E h0 X h) {p : Nat} {j v : Int} (hs : cq_s h p = 2) (hE : cq_s h0 p ≠ 2) : CT c E h0 X (cq_sI h p j v) := by
  obtain ⟨t1, t2, t3, t4, t5, t6, t7, t8, t9, t10, t11, t12, t13, t14, t15, t16, t17, t18, t19⟩ := H
  have s0 : ∀ {b k : Nat}, cq_s h0 b = k → k ≠ 99 → cq_s h b = k := fun {b k} q w => (t1 b (by rw [q]; exact w)).1.trans q
  have nes : ∀ {d k : Nat} (r : Int), cq_s h d = k → k ≠ 2 → cq_I (cq_sI h p j v) d r = cq_I h d r := fun {d k} r q w => by rw [mm_sI, if_neg (fun e => w (by rw [← q, e.1]; exact hs))]
  refine ⟨t1, fun b r q => ?_, fun b r q => ?_, t4, fun b r q => ?_, fun b q0 q1 q2 q3 => ?_, fun b q1 q2 => ?_, t8, t9, t10, fun p' q => ?_, fun w q1 q2 => ?_, fun p' n w q1 q2 => ?_, t14, fun b q0 q1 q2 q3 => ?_, t16, t17, t18, fun b q0 => ?_⟩
  · rw [nes r (s0 q (by decide)) (by decide)]
    exact t2 b r q
  · rw [nes r (s0 q (by decide)) (by decide)]
    exact t3 b r q
  · rw [nes r (s0 q (by decide)) (by decide)]
    exact t5 b r q
  · obtain ⟨w1, w2, w3⟩ := t6 b q0 q1 q2 q3
    have q1' : cq_s h b = 8 := q1
    rw [nes 4 q1' (by decide), nes 5 q1' (by decide)]
    exact ⟨w1, w2, fun z => ⟨(w3 z).1, fun j => by rw [nes j (w3 z).1 (by decide)]; exact (w3 z).2 j⟩⟩
  · rcases t7 b q1 q2 with w | ⟨d, w1, w2, w3, w4, w5, n, w6⟩
    · exact Or.inl w
    · exact Or.inr ⟨d, w1, w2, w3, w4, w5, n, inL_c (h := h) (h' := (cq_sI h p j v)) (fun w q => ⟨q, rfl⟩) w6⟩
  · have q' : cq_s h p' = 4 := q
    rw [nes 1 q' (by decide)]
    exact chD_c (h := h) (h' := (cq_sI h p j v)) (fun w z => ⟨z, rfl, rfl⟩) (t11 p' q')
  · obtain ⟨p', n, w1, w2⟩ := t12 w q1 q2
    exact ⟨p', n, w1, inD_c (h := h) (h' := (cq_sI h p j v)) (fun w q => ⟨q, rfl⟩) w2⟩
  · exact t13 p' n w q1 (inD_c (h := (cq_sI h p j v)) (h' := h) (fun w q => ⟨q, rfl⟩) q2)
  · have q1' : cq_s h b = 6 := q1
    rw [nes 3 q1' (by decide)]
    exact t15 b q0 q1 q2 q3
  · rw [mm_sI, if_neg (fun e => hE (by rw [← e.1]; exact q0))]
    exact t19 b q0
end
