/-! turns and terms: a SESSION in which a letter was opened -/
section
variable {c x nt : Nat} {n : Int} {dom sd dom' sd' : Nat → Prop} {rt ct rt' ct' : Nat → Int} {dp dp' : Nat → Nat} {kd kd' : Int → Nat} {m m' : Nat} {h g h' g' : cx_Q} {E E0 : Nat → Option Int}
theorem kx_app {c' d : Int} {i : Nat} (a : nx x g c' i d) {j : Nat} {k : Int} (p : kx x g d j k) : kx x g c' (i + j) k := by
  obtain ⟨t, p1, p2⟩ := p
  exact ⟨t, nx_app a p1, p2⟩
/-- with a KEPT key -/
theorem zR.op1 {a : Nat} {s kA : Int} (B : TB c x nt dom sd rt ct dp kd m h g) (C0 : CT c E0 h [] h) (C : CT c E h [] h') (Z : zE dom sd rt ct dom' sd' rt' ct') (N : zN x h h' g g') (eA : cq_A h' a = cq_A h a) (e1 : cq_A h' (a + 1) 3 = cq_A h (a + 1) 3) (k0 : 0 ≤ kA ∧ kA < cq_I g (x + 53) s) (e5 : ∀ r, 0 ≤ r → r < cq_I g (x + 53) s - 1 → cq_A h' (a + 5) r = cq_A h (a + 5) (if kA ≤ r then r + 1 else r)) (eI : ∀ o, o = 40 ∨ o = 41 ∨ o = 48 ∨ o = 50 ∨ o = 51 ∨ o = 52 → cq_I g' (x + o) s = cq_I g (x + o) s) (i53 : cq_I g' (x + 53) s = cq_I g (x + 53) s - 1) (eK : ∀ o r, o = 55 ∨ o = 57 → 0 ≤ r → r < cq_I g (x + 53) s - 1 → cq_I g' (x + o) (20 * s + r) = cq_I g (x + o) (20 * s + (if kA ≤ r then r + 1 else r))) (l72 : cq_I g x 72 ≤ cq_I g' x 72) (Q : zR x nt dom sd rt ct h g a s) : zR x nt dom' sd' rt' ct' h' g' a s := by
  obtain ⟨⟨S, r, w, p1, p2, p3, p4, p5, p6, p7, p8, p9, p10⟩, q, ⟨k1, k2, k3, k4⟩, m1, m2, m3⟩ := Q
  have c1 := C.1
  have c3 := C.2.2.1
  have c4 := C.2.2.2.1
  have f14 := C0.2.2.2.2.2.2.2.2.2.2.2.2.2.1
  have s_ : ∀ {d k : Nat}, cq_s h d = k → k ≠ 99 → cq_s h' d = k := fun {d k} y z => (c1 d (by rw [y]; exact z)).1.trans y
  have e := N.1
  have dS := (B.t3 S p3).1
  have s8 := (B.t1 S dS).1
  have sr := f14 S r s8 List.not_mem_nil p7
  have R_ : ∀ {R : Nat}, dom R → dom' R ∧ ct' R = ct R ∧ (cq_A h R 0 ≠ some nt → cq_A h' R 0 ≠ some nt) := fun {R} dR => ⟨(Z.1 R dR).1, (Z.1 R dR).2.2, fun z => by rw [(c3 R 0 (B.t1 R dR).1).1 (by decide)]; exact z⟩
  refine ⟨⟨S, r, w, by rw [eA]; exact p1, by rw [eA]; exact p2, Z.2 S p3, ?_, ?_, by rw [eA]; exact p6, by rw [(c3 S 1 s8).1 (by decide)]; exact p7, by rw [c4 r 0 sr]; exact p8, s_ p9 (by decide), ?_⟩, fun R z => ?_, ⟨by rw [e1]; exact k1, s_ k2 (by decide), s_ k3 (by decide), fun i i0 i1 => ?_⟩, s_ m1 (by decide), ?_, ?_⟩
  · rw [eI 48 (by omega), (Z.1 S dS).2.1]
    exact p4
  · rw [eI 40 (by omega), eI 50 (by omega), (Z.1 S dS).2.2]
    exact nx_ex e p5
  · rw [eI 52 (by omega)]
    exact N.s p9 p10
  · rw [eA] at z
    obtain ⟨z1, z2, z3⟩ := q R z
    refine ⟨(R_ z1).1, (R_ z1).2.2 z2, ?_⟩
    rw [eI 41 (by omega), eI 51 (by omega), (R_ z1).2.1]
    exact nx_ex e z3
  · rw [i53] at i1
    have ir : 0 ≤ (if kA ≤ i then i + 1 else i) ∧ (if kA ≤ i then i + 1 else i) < cq_I g (x + 53) s := by split <;> omega
    obtain ⟨R, z1, z2, z3, z4, z5⟩ := k4 _ ir.1 ir.2
    rw [eK 55 i (Or.inl rfl) i0 i1, eK 57 i (Or.inr rfl) i0 i1, e5 i i0 i1]
    exact ⟨R, z1, (R_ z2).1, (R_ z2).2.2 z3, z4, by rw [(R_ z2).2.1]; exact kx_ex e z5⟩
  · rw [eI 40 (by omega)]
    exact m2
  · rw [eI 40 (by omega)]
    omega
/-- with a key of the chain that goes on -/
theorem zR.op2 {a R : Nat} {s k : Int} (B : TB c x nt dom sd rt ct dp kd m h g) (C0 : CT c E0 h [] h) (C : CT c E h [] h') (Z : zE dom sd rt ct dom' sd' rt' ct') (N : zN x h h' g g') (eA : cq_A h' a = cq_A h a) (e1 : cq_A h' (a + 1) 3 = cq_A h (a + 1) 3) (k0 : 0 ≤ k) (km0 : 0 ≤ cq_I g (x + 53) s) (nr0 : 0 ≤ cq_I g (x + 41) s) (eR : cq_A h a 11 = some R) (e5 : ∀ r, 0 ≤ r → r < cq_I g (x + 53) s → cq_A h' (a + 5) r = cq_A h (a + 5) r) (e5n : ∀ i, 0 ≤ i → i < k → cq_A h' (a + 5) (cq_I g (x + 53) s + i) = some R) (eI : ∀ o, o = 40 ∨ o = 48 ∨ o = 50 ∨ o = 52 → cq_I g' (x + o) s = cq_I g (x + o) s) (i41 : cq_I g' (x + 41) s = cq_I g (x + 41) s + k + 1) (n51 : nx x g' (cq_I g (x + 51) s) (k.toNat + 1) (cq_I g' (x + 51) s)) (i53 : cq_I g' (x + 53) s = cq_I g (x + 53) s + k) (eK : ∀ o r, o = 55 ∨ o = 57 → 0 ≤ r → r < cq_I g (x + 53) s → cq_I g' (x + o) (20 * s + r) = cq_I g (x + o) (20 * s + r)) (eN : ∀ i, 0 ≤ i → i < k → cq_I g' (x + 55) (20 * s + (cq_I g (x + 53) s + i)) = cq_I g (x + 41) s + i ∧ kx x g' (cq_I g (x + 51) s) i.toNat (cq_I g' (x + 57) (20 * s + (cq_I g (x + 53) s + i)))) (l72 : cq_I g x 72 ≤ cq_I g' x 72) (Q : zR x nt dom sd rt ct h g a s) : zR x nt dom' sd' rt' ct' h' g' a s := by
  obtain ⟨⟨S, r, w, p1, p2, p3, p4, p5, p6, p7, p8, p9, p10⟩, q, ⟨k1, k2, k3, k4⟩, m1, m2, m3⟩ := Q
  have c1 := C.1
  have c3 := C.2.2.1
  have c4 := C.2.2.2.1
  have f14 := C0.2.2.2.2.2.2.2.2.2.2.2.2.2.1
  have s_ : ∀ {d k : Nat}, cq_s h d = k → k ≠ 99 → cq_s h' d = k := fun {d k} y z => (c1 d (by rw [y]; exact z)).1.trans y
  have e := N.1
  have dS := (B.t3 S p3).1
  have s8 := (B.t1 S dS).1
  have sr := f14 S r s8 List.not_mem_nil p7
  have R_ : ∀ {R : Nat}, dom R → dom' R ∧ ct' R = ct R ∧ (cq_A h R 0 ≠ some nt → cq_A h' R 0 ≠ some nt) := fun {R} dR => ⟨(Z.1 R dR).1, (Z.1 R dR).2.2, fun z => by rw [(c3 R 0 (B.t1 R dR).1).1 (by decide)]; exact z⟩
  obtain ⟨y1, y2, y3⟩ := q R eR
  have y3' := nx_ex e y3
  refine ⟨⟨S, r, w, by rw [eA]; exact p1, by rw [eA]; exact p2, Z.2 S p3, ?_, ?_, by rw [eA]; exact p6, by rw [(c3 S 1 s8).1 (by decide)]; exact p7, by rw [c4 r 0 sr]; exact p8, s_ p9 (by decide), ?_⟩, fun R' z => ?_, ⟨by rw [e1]; exact k1, s_ k2 (by decide), s_ k3 (by decide), fun i i0 i1 => ?_⟩, s_ m1 (by decide), ?_, ?_⟩
  · rw [eI 48 (by omega), (Z.1 S dS).2.1]
    exact p4
  · rw [eI 40 (by omega), eI 50 (by omega), (Z.1 S dS).2.2]
    exact nx_ex e p5
  · rw [eI 52 (by omega)]
    exact N.s p9 p10
  · rw [eA, eR] at z
    rw [← Option.some.inj z]
    refine ⟨(R_ y1).1, (R_ y1).2.2 y2, ?_⟩
    have en_ : (cq_I g' (x + 41) s).toNat = (cq_I g (x + 41) s).toNat + (k.toNat + 1) := by omega
    rw [en_, (R_ y1).2.1]
    exact nx_app y3' n51
  · rw [i53] at i1
    by_cases z : i < cq_I g (x + 53) s
    · obtain ⟨R', z1, z2, z3, z4, z5⟩ := k4 i i0 z
      rw [eK 55 i (Or.inl rfl) i0 z, eK 57 i (Or.inr rfl) i0 z, e5 i i0 z]
      exact ⟨R', z1, (R_ z2).1, (R_ z2).2.2 z3, z4, by rw [(R_ z2).2.1]; exact kx_ex e z5⟩
    · have ei : i = cq_I g (x + 53) s + (i - cq_I g (x + 53) s) := by omega
      obtain ⟨w1, w2⟩ := eN (i - cq_I g (x + 53) s) (by omega) (by omega)
      have w3 := e5n (i - cq_I g (x + 53) s) (by omega) (by omega)
      rw [← ei] at w1 w2 w3
      refine ⟨R, w3, (R_ y1).1, (R_ y1).2.2 y2, by omega, ?_⟩
      have en_ : (cq_I g' (x + 55) (20 * s + i)).toNat = (cq_I g (x + 41) s).toNat + (i - cq_I g (x + 53) s).toNat := by omega
      rw [en_, (R_ y1).2.1]
      exact kx_app y3' w2
  · rw [eI 40 (by omega)]
    exact m2
  · rw [eI 40 (by omega)]
    omega
/-- behind a TURN -/
theorem zR.op3 {a q q2 r2 t : Nat} {s k0 k1 : Int} (B : TB c x nt dom sd rt ct dp kd m h g) (C : CT c E h [] h') (Z : zE dom sd rt ct dom' sd' rt' ct') (N : zN x h h' g g') (e1 : cq_A h' (a + 1) 3 = some (a + 5)) (sa : cq_s h' a = 7 ∧ cq_s h' (a + 1) = 1 ∧ cq_s h' (a + 5) = 174) (k00 : 0 ≤ k0 ∧ 0 ≤ k1) (km0 : 0 ≤ cq_I g (x + 53) s) (nr0 : 0 ≤ cq_I g (x + 41) s) (a7 : cq_A h' a 7 = some q2 ∧ cq_A h' a 9 = some q2 ∧ cq_A h' a 11 = some q ∧ cq_A h' a 12 = some t) (ds : sd' q2) (er : rt' q2 = cq_I g' (x + 48) s) (ec : ct' q2 = cq_I g' (x + 50) s) (i40 : cq_I g' (x + 40) s = 0) (es1 : cq_A h' q2 1 = some r2) (es2 : cq_A h' r2 0 = some t) (st : cq_s h' t = 6) (vT : zS x g' (cq_J h' t 1) (cq_I g' (x + 52) s)) (dq : dom' q ∧ cq_A h' q 0 ≠ some nt) (i41 : cq_I g' (x + 41) s = k1 + 1) (n51 : nx x g' (ct' q) (k1.toNat + 1) (cq_I g' (x + 51) s)) (i53 : cq_I g' (x + 53) s = cq_I g (x + 53) s + k0 + k1) (K0 : ∀ r, 0 ≤ r → r < cq_I g (x + 53) s → ∃ R, cq_A h (a + 5) r = some R ∧ dom R ∧ cq_A h R 0 ≠ some nt ∧ 0 ≤ cq_I g (x + 55) (20 * s + r) ∧ kx x g (ct R) (cq_I g (x + 55) (20 * s + r)).toNat (cq_I g (x + 57) (20 * s + r))) (K1 : 0 < k0 → ∃ R, cq_A h a 11 = some R ∧ dom R ∧ cq_A h R 0 ≠ some nt ∧ nx x g (ct R) (cq_I g (x + 41) s).toNat (cq_I g (x + 51) s)) (e5 : ∀ r, 0 ≤ r → r < cq_I g (x + 53) s → cq_A h' (a + 5) r = cq_A h (a + 5) r) (e5m : ∀ i, 0 ≤ i → i < k0 → cq_A h' (a + 5) (cq_I g (x + 53) s + i) = cq_A h a 11) (e5n : ∀ i, 0 ≤ i → i < k1 → cq_A h' (a + 5) (cq_I g (x + 53) s + k0 + i) = some q) (eK : ∀ o r, o = 55 ∨ o = 57 → 0 ≤ r → r < cq_I g (x + 53) s → cq_I g' (x + o) (20 * s + r) = cq_I g (x + o) (20 * s + r)) (eM : ∀ i, 0 ≤ i → i < k0 → cq_I g' (x + 55) (20 * s + (cq_I g (x + 53) s + i)) = cq_I g (x + 41) s + i ∧ kx x g' (cq_I g (x + 51) s) i.toNat (cq_I g' (x + 57) (20 * s + (cq_I g (x + 53) s + i)))) (eN : ∀ i, 0 ≤ i → i < k1 → cq_I g' (x + 55) (20 * s + (cq_I g (x + 53) s + k0 + i)) = i ∧ kx x g' (ct' q) i.toNat (cq_I g' (x + 57) (20 * s + (cq_I g (x + 53) s + k0 + i)))) (l72 : 0 ≤ cq_I g' x 72) : zR x nt dom' sd' rt' ct' h' g' a s := by
  have c3 := C.2.2.1
  have e := N.1
  have R_ : ∀ {R : Nat}, dom R → dom' R ∧ ct' R = ct R ∧ (cq_A h R 0 ≠ some nt → cq_A h' R 0 ≠ some nt) := fun {R} dR => ⟨(Z.1 R dR).1, (Z.1 R dR).2.2, fun z => by rw [(c3 R 0 (B.t1 R dR).1).1 (by decide)]; exact z⟩
  obtain ⟨a7, a9, a11, a12⟩ := a7
  refine ⟨⟨q2, r2, t, a7, a9, ds, er.symm, ?_, a12, es1, es2, st, vT⟩, fun R z => ?_, ⟨e1, sa.2.1, sa.2.2, fun i i0 i1 => ?_⟩, sa.1, by omega, by omega⟩
  · have o0 : (cq_I g' (x + 40) s).toNat = 0 := by rw [i40]; rfl
    rw [o0, ec]
    exact rfl
  · rw [a11] at z
    rw [← Option.some.inj z]
    refine ⟨dq.1, dq.2, ?_⟩
    have en_ : (cq_I g' (x + 41) s).toNat = k1.toNat + 1 := by omega
    rw [en_]
    exact n51
  · rw [i53] at i1
    by_cases z : i < cq_I g (x + 53) s
    · obtain ⟨R', z1, z2, z3, z4, z5⟩ := K0 i i0 z
      rw [eK 55 i (Or.inl rfl) i0 z, eK 57 i (Or.inr rfl) i0 z, e5 i i0 z]
      exact ⟨R', z1, (R_ z2).1, (R_ z2).2.2 z3, z4, by rw [(R_ z2).2.1]; exact kx_ex e z5⟩
    · by_cases z' : i < cq_I g (x + 53) s + k0
      · have ei : i = cq_I g (x + 53) s + (i - cq_I g (x + 53) s) := by omega
        obtain ⟨R, y0, y1, y2, y3⟩ := K1 (by omega)
        obtain ⟨w1, w2⟩ := eM (i - cq_I g (x + 53) s) (by omega) (by omega)
        have w3 := e5m (i - cq_I g (x + 53) s) (by omega) (by omega)
        rw [← ei] at w1 w2 w3
        refine ⟨R, w3.trans y0, (R_ y1).1, (R_ y1).2.2 y2, by omega, ?_⟩
        have en_ : (cq_I g' (x + 55) (20 * s + i)).toNat = (cq_I g (x + 41) s).toNat + (i - cq_I g (x + 53) s).toNat := by omega
        rw [en_, (R_ y1).2.1]
        exact kx_app (nx_ex e y3) w2
      · have ei : i = cq_I g (x + 53) s + k0 + (i - cq_I g (x + 53) s - k0) := by omega
        obtain ⟨w1, w2⟩ := eN (i - cq_I g (x + 53) s - k0) (by omega) (by omega)
        have w3 := e5n (i - cq_I g (x + 53) s - k0) (by omega) (by omega)
        rw [← ei] at w1 w2 w3
        refine ⟨q, w3, dq.1, dq.2, by omega, ?_⟩
        have en_ : (cq_I g' (x + 55) (20 * s + i)).toNat = (i - cq_I g (x + 53) s - k0).toNat := by omega
        rw [en_]
        exact w2
end
/-- what the reference's rows are when a letter was opened in a SESSION -/
theorem openQ_q {x : Nat} {g : cx_Q} {u s l : Int} (k20 : 0 ≤ cq_I g (x + 53) s ∧ cq_I g (x + 53) s ≤ 20) (h81 : 0 ≤ cq_I g x 81) (ok : m_openA g x l s = 0) : ((0 ≤ m_keptAt g x s ∧ m_keptAt g x s < cq_I g (x + 53) s) ∧ FRM x s u 0 g (m_openQ g x u s) ∧ OK1 x s (m_keptAt g x s) g (m_openQ g x u s)) ∨ (m_keptAt g x s < 0 ∧ m_tn g x s = 0 ∧ (0 ≤ cq_I g x 81 - cq_I g (x + 41) s ∧ cq_I g (x + 35) s ≠ 0 ∧ cq_I g (x + 53) s + (cq_I g x 81 - cq_I g (x + 41) s) ≤ 20) ∧ FRM x s u 0 g (m_openQ g x u s) ∧ OK2 x s (cq_I g x 81 - cq_I g (x + 41) s) g (m_openQ g x u s)) ∨ (m_keptAt g x s < 0 ∧ m_tn g x s = 1 ∧ (0 ≤ m_bef g x s 1 ∧ cq_I g (x + 53) s + m_bef g x s 1 + cq_I g x 81 ≤ 20) ∧ FRM x s u 1 g (m_openQ g x u s) ∧ ∃ C R1 X2 V, OK3 x s (m_bef g x s 1) (cq_I g x 81) (cq_J g x 79) C R1 X2 V (dO (cq_J g (x + 1) u) (cq_I g (x + 12) u)) g (m_openQ g x u s)) := by
  have kr : m_keptAt g x s = -2 ∨ (0 ≤ m_keptAt g x s ∧ m_keptAt g x s < 0 + ((cq_I g (x + 53) s).toNat : Int)) := by unfold m_keptAt; exact m_ka_rg
  unfold m_openA at ok
  unfold m_openQ
  rcases kr with z | z
  · have zn : m_keptAt g x s < 0 := by omega
    rw [if_pos zn] at ok
    rw [if_pos zn]
    clear z
    unfold m_oA at ok
    by_cases c1 : m_tn g x s = 0 ∧ cq_I g x 81 < cq_I g (x + 41) s
    · rw [if_pos c1] at ok; exact absurd ok (by decide)
    rw [if_neg c1] at ok
    by_cases c2 : 10 < m_bef g x s (m_tn g x s) + m_beh g x s (m_tn g x s) ∨ 20 < cq_I g (x + 53) s + m_bef g x s (m_tn g x s) + m_beh g x s (m_tn g x s)
    · rw [if_pos c2] at ok; exact absurd ok (by decide)
    rw [if_neg c2] at ok
    by_cases c3 : m_tn g x s = 0 ∧ cq_I g (x + 35) s = 0
    · rw [if_pos c3] at ok; exact absurd ok (by decide)
    clear ok
    rcases tn_01 (g := g) (x := x) (s := s) with t | t
    · rw [t] at c1 c2 c3 ⊢
      have b0 : m_bef g x s 0 = 0 := by
        unfold m_bef
        rw [if_neg (fun q => absurd rfl q.1)]
      have b1 : m_beh g x s 0 = cq_I g x 81 - cq_I g (x + 41) s := by
        unfold m_beh
        rw [if_neg (fun q => absurd rfl q)]
      have eT : m_oT g x u s 0 = g := by
        unfold m_oT
        rw [if_neg (fun q => absurd rfl q)]
      rw [b0, b1] at c2
      rw [eT]
      obtain ⟨q1, _, q3⟩ := oEnd_q (x := x) (s := s) (u := u) (g := g) (k := m_okey g x s 0) ⟨k20.1, by omega, by omega⟩
      exact Or.inr (Or.inl ⟨zn, rfl, ⟨by omega, fun y => c3 ⟨rfl, y⟩, by omega⟩, q1, q3⟩)
    · rw [t] at c2 ⊢
      have b1 : m_beh g x s 1 = cq_I g x 81 := by
        unfold m_beh
        rw [if_pos (by decide)]
      have b0 : 0 ≤ m_bef g x s 1 := by
        unfold m_bef
        split <;> omega
      rw [b1] at c2
      generalize m_okey g x s 1 = kk
      obtain ⟨q1, _, q3⟩ := open3_q (x := x) (s := s) (u := u) (g := g) (k := kk) ⟨k20.1, b0, h81, by omega⟩
      exact Or.inr (Or.inr ⟨zn, rfl, ⟨b0, by omega⟩, q1, _, _, _, _, q3⟩)
  · have zn : ¬ m_keptAt g x s < 0 := by omega
    rw [if_neg zn]
    obtain ⟨q1, _, q3⟩ := open1_q (x := x) (s := s) (u := u) (g := g) (k := cq_J g (x + 56) (20 * s + m_keptAt g x s)) (i := m_keptAt g x s) ⟨z.1, by omega⟩ k20.2
    exact Or.inl ⟨⟨z.1, by omega⟩, q1, q3⟩
