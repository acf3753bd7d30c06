/-! every SECRET is a draw; how many are drawn -/
section
variable {h g g' : cx_Q} {x : Nat} {n : Int}
theorem inD_ch {sd : Int64} : ∀ {N m : Nat} {o : Option Nat} {w : Nat}, chD h sd N o → inD h m o w → ∃ i, i < N ∧ cq_J h w 1 = dO sd i
  | 0, m, o, w, p, q => by
    have e : o = none := p
    cases m with
    | zero => exact q.elim
    | succ m =>
      obtain ⟨t, q1, _⟩ := q
      rw [e] at q1; cases q1
  | N + 1, m, o, w, p, q => by
    rcases p with ⟨t, p1, p2, p3, p4⟩ | p
    · cases m with
      | zero => exact q.elim
      | succ m =>
        obtain ⟨t', q1, q2, q3⟩ := q
        have et := Option.some.inj (p1.symm.trans q1)
        rw [← et] at q3
        rcases q3 with q3 | q3
        · rw [← q3]
          exact ⟨N, Nat.lt_succ_self _, p3⟩
        · obtain ⟨i, i1, i2⟩ := inD_ch p4 q3
          exact ⟨i, Nat.lt_succ_of_lt i1, i2⟩
    · obtain ⟨i, i1, i2⟩ := inD_ch p q
      exact ⟨i, Nat.lt_succ_of_lt i1, i2⟩
theorem inD_un {sd : Int64} {B : Nat} (A : ∀ i j : Nat, i < B → j < B → dO sd i = dO sd j → i = j) : ∀ {N m m' : Nat} {o : Option Nat} {w w' : Nat}, N ≤ B → chD h sd N o → inD h m o w → inD h m' o w' → cq_J h w 1 = cq_J h w' 1 → w = w'
  | 0, m, m', o, w, w', l, p, q, q', e => by
    obtain ⟨i, i1, _⟩ := inD_ch p q
    exact absurd i1 (Nat.not_lt_zero _)
  | N + 1, m, m', o, w, w', l, p, q, q', e => by
    rcases p with ⟨t, p1, p2, p3, p4⟩ | p
    · cases m with
      | zero => exact q.elim
      | succ m =>
        cases m' with
        | zero => exact q'.elim
        | succ m' =>
          obtain ⟨t1, q1, q2, q3⟩ := q
          obtain ⟨t2, r1, r2, r3⟩ := q'
          have e1 := Option.some.inj (p1.symm.trans q1)
          have e2 := Option.some.inj (p1.symm.trans r1)
          rw [← e1] at q3
          rw [← e2] at r3
          rcases q3 with q3 | q3
          · rcases r3 with r3 | r3
            · rw [← q3, ← r3]
            · obtain ⟨i, i1, i2⟩ := inD_ch p4 r3
              rw [← q3, p3, i2] at e
              have := A N i (by omega) (by omega) e
              omega
          · rcases r3 with r3 | r3
            · obtain ⟨i, i1, i2⟩ := inD_ch p4 q3
              rw [← r3, p3, i2] at e
              have := A i N (by omega) (by omega) e
              omega
            · exact inD_un A (by omega) p4 q3 r3 e
    · exact inD_un A (by omega) p q q' e
theorem secs {c : Nat} {E : Nat → Option Int} {h0 : cx_Q} {pe : Int → Nat} {ro : Int → Int → Nat} {pa lb tp rd en op ob : Nat} {T Lf : Int → Nat} (C : CT c E h0 [] h) (F : FX c x n pe ro pa lb tp rd en op ob T Lf h g) (P : uE pe n h) (A : zAA x n g) (D : ∀ u, 0 ≤ u → u < n → cq_I g (x + 12) u ≤ 141) : zFr x n h g ∧ ∀ w w', cq_s h w = 6 → cq_s h w' = 6 → cq_J h w 1 = cq_J h w' 1 → w = w' := by
  have t11 := C.2.2.2.2.2.2.2.2.2.2.1
  have t12 := C.2.2.2.2.2.2.2.2.2.2.2.1
  have key : ∀ w, cq_s h w = 6 → ∃ (u : Int) (i m : Nat), (0 ≤ u ∧ u < n) ∧ ((i : Int) < cq_I g (x + 12) u ∧ (i : Int) < 141) ∧ cq_J h w 1 = dO (cq_J g (x + 1) u) i ∧ inD h m (cq_A h (pe u) 2) w := fun w sw => by
    obtain ⟨p, m, sp, q⟩ := t12 w sw List.not_mem_nil
    obtain ⟨u, u0, u1, eu⟩ := P p sp
    have ch := t11 p sp
    obtain ⟨i, i1, i2⟩ := inD_ch ch q
    have fu := F.fu u u0 u1
    have := D u u0 u1
    have := fu.dr
    rw [← eu] at i1 i2 q
    rw [fu.sd] at i2
    exact ⟨u, i, m, ⟨u0, u1⟩, ⟨by omega, by omega⟩, i2, q⟩
  refine ⟨fun w sw => ?_, fun w w' sw sw' e => ?_⟩
  · obtain ⟨u, i, m, a1, a2, a3, _⟩ := key w sw
    exact ⟨u, i, a1.1, a1.2, by omega, a2.1, a2.2, a3⟩
  · obtain ⟨u, i, m, a1, a2, a3, a4⟩ := key w sw
    obtain ⟨u', i', m', b1, b2, b3, b4⟩ := key w' sw'
    have eu := (A u u' i i' a1.1 a1.2 b1.1 b1.2 (by omega) a2.2 (by omega) b2.2 (by rw [← a3, ← b3, e])).1
    rw [← eu] at b4
    have fu := F.fu u a1.1 a1.2
    have ch := t11 (pe u) fu.s0
    rw [fu.sd, fu.dr] at ch
    have := D u a1.1 a1.2
    exact inD_un (B := 141) (fun i j i1 j1 z => by
      have := (A u u i j a1.1 a1.2 a1.1 a1.2 (by omega) (by omega) (by omega) (by omega) z).2
      omega) (by omega) ch a4 b4 e
/-! how many ONCE keys are in the DIRECTORY -/
theorem m_oc_c {f f' : Int → Int} {b : Int} : ∀ {r : Nat} {i a : Int}, (∀ k, i ≤ k → k < i + r → f' (b + k) = f (b + k)) → m_oc f' b r i a = m_oc f b r i a
  | 0, i, a, _ => by rw [m_oc, m_oc]
  | r + 1, i, a, e => by
    rw [m_oc, m_oc, e i (by omega) (by omega)]
    exact m_oc_c (fun k k0 k1 => e k (by omega) (by omega))
theorem m_oc_s {f : Int → Int} {b : Int} : ∀ {r : Nat} {i a : Int}, m_oc f b (r + 1) i a = m_oc f b r i a + if f (b + (i + r)) = 0 then 0 else 1
  | 0, i, a => by
    rw [m_oc, m_oc, m_oc]
    have : i + ((0 : Nat) : Int) = i := by omega
    rw [this]
  | r + 1, i, a => by
    rw [m_oc, m_oc_s, m_oc]
    have : i + 1 + (r : Int) = i + ((r + 1 : Nat) : Int) := by omega
    rw [this]
theorem m_oc_1 {f f' : Int → Int} {b p : Int} (e : ∀ j, j ≠ p → f' j = f j) (e0 : f' p = 0) : ∀ {r : Nat} {i a a' : Int}, a' ≤ a → a - 1 ≤ a' → (a' = a ∨ p < b + i) → m_oc f' b r i a' ≤ m_oc f b r i a ∧ m_oc f b r i a - 1 ≤ m_oc f' b r i a'
  | 0, i, a, a', l1, l2, _ => by
    rw [m_oc, m_oc]
    exact ⟨l1, l2⟩
  | r + 1, i, a, a', l1, l2, l3 => by
    rw [m_oc, m_oc]
    by_cases z : b + i = p
    · rw [z, e0, if_pos rfl]
      refine m_oc_1 e e0 ?_ ?_ (Or.inr (by omega))
      · split <;> omega
      · split <;> omega
    · rw [e _ z]
      refine m_oc_1 e e0 (by omega) (by omega) (by omega)
theorem od_c {u : Int} (e27 : ∀ k, 1 ≤ k → k ≤ cq_I g (x + 23) u → cq_I g' (x + 27) (61 * u + k) = cq_I g (x + 27) (61 * u + k)) (e23 : cq_I g' (x + 23) u = cq_I g (x + 23) u) : m_onceDir g' x u = m_onceDir g x u := by
  unfold m_onceDir
  rw [e23]
  exact m_oc_c (fun k k0 k1 => e27 k (by omega) (by omega))
theorem od_0 {u : Int} : 0 ≤ m_onceDir g x u := (m_oc_rg (f := cq_I g (x + 27)) (b := 61 * u) (r := (cq_I g (x + 23) u).toNat) (i := 1) (a := 0)).1
theorem od_pub1 {u u' : Int} (h60 : ∀ u, 0 ≤ cq_I g (x + 23) u) (hu' : cq_I g (x + 23) u' ≤ 60) (hu : cq_I g (x + 23) u + 1 ≤ 60) : m_onceDir (m_pub1 g x u) x u' = m_onceDir g x u' + if u' = u then 1 else 0 := by
  have Q := pub_q (x := x) (u := u) (g := g)
  have a := h60 u
  have b := h60 u'
  by_cases z : u' = u
  · rw [if_pos z, z]
    unfold m_onceDir
    rw [Q.i23]
    have : (cq_I g (x + 23) u + 1).toNat = (cq_I g (x + 23) u).toNat + 1 := by omega
    rw [this, m_oc_s]
    have e1 : 61 * u + (1 + ((cq_I g (x + 23) u).toNat : Int)) = 61 * u + (cq_I g (x + 23) u + 1) := by omega
    rw [e1, Q.i27, if_neg (by decide)]
    rw [m_oc_c (f := cq_I g (x + 27)) (fun k k0 k1 => Q.I_ 27 _ (by decide) (by omega) (by omega))]
  · rw [if_neg z, Int.add_zero]
    exact od_c (fun k k0 k1 => Q.I_ 27 _ (by decide) (by omega) (by omega)) (Q.I_ 23 _ (by decide) (by omega) (by omega))
end
