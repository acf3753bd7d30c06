/-! what a letter that comes draws -/
section
variable {c x : Nat} {n : Int} {T Lf : Int → Nat} {h g g' g1 : cx_Q} {pe : Int → Nat} {ro : Int → Int → Nat} {pa lb tp rd en op ob : Nat} {u v : Int}
theorem RS.of {d : Int} (hU : cq_I g (x + 11) u ≠ 0) (hd : d ≤ 1) (e1 : ∀ j, cq_J g' (x + 1) j = cq_J g (x + 1) j) (eI : ∀ o j, o = 11 ∨ o = 23 ∨ o = 27 → cq_I g' (x + o) j = cq_I g (x + o) j) (e12 : ∀ j, j ≠ u → cq_I g' (x + 12) j = cq_I g (x + 12) j) (e12u : cq_I g' (x + 12) u = cq_I g (x + 12) u + d) : RS x n g g' := fun w w0 w1 => by
  have od : m_onceDir g' x w = m_onceDir g x w := od_c (fun _ _ _ => eI 27 _ (by omega)) (eI 23 _ (by omega))
  rw [od, e1, eI 11 w (by omega)]
  by_cases z : w = u
  · rw [z, e12u]
    exact ⟨rfl, fun y => absurd y hU, Or.inl (Int.le_refl _), Or.inl (by omega)⟩
  · rw [e12 w z]
    exact ⟨rfl, fun y => ⟨y, rfl⟩, Or.inl (Int.le_refl _), Or.inl (by omega)⟩
theorem RS.fr {d s i w V : Int} (hU : cq_I g (x + 11) u ≠ 0) (hd : d ≤ 1) (hi : 0 ≤ i ∧ i < 4) (f : FRM x s u d g g1) : RS x n g (cq_sI (m_front g1 x w i) x 84 V) := by
  obtain ⟨f1, f2, f3⟩ := front_q (x := x) (g := g1) (w := w) (i := i) hi
  have oI : ∀ o j, 1 ≤ o → o ≠ 29 → cq_I (cq_sI (m_front g1 x w i) x 84 V) (x + o) j = cq_I g1 (x + o) j := fun o j w1 w2 => by rw [mm_sI, if_neg (by omega), f2 _ _ (by omega)]
  refine RS.of hU hd (fun j => ?_) (fun o j w => ?_) (fun j w => ?_) ?_
  · rw [mm_JI, f3]
    exact f.J_ 1 j (by decide) (by decide) (by decide) (by unfold inS; omega)
  · rw [oI o j (by omega) (by omega)]
    rcases w with w | w | w <;> rw [w]
    · exact f.I_ 11 j (by decide) (by decide) (by decide) (by unfold inS; omega) (by decide) (by omega)
    · exact f.I_ 23 j (by decide) (by decide) (by decide) (by unfold inS; omega) (by decide) (by omega)
    · exact f.I_ 27 j (by decide) (by decide) (by decide) (by unfold inS; omega) (by decide) (by omega)
  · rw [oI 12 j (by decide) (by decide)]
    exact f.I_ 12 j (by decide) (by decide) (by decide) (by unfold inS; omega) (by decide) (by omega)
  · rw [oI 12 u (by decide) (by decide)]
    exact f.i12
theorem RS.com (F : FX c x n pe ro pa lb tp rd en op ob T Lf h g) {l : Int} (co : CO g x n l u) (h62 : ∀ j, 0 ≤ cq_I g (x + 62) j ∧ cq_I g (x + 62) j ≤ 255) (h81 : 0 ≤ cq_I (m_rl g x l) x 81) : RS x n g (CMQ g x l u) := by
  obtain ⟨hu, hl, ok, hU, _, co1, co2⟩ := co
  have eL_ := rl_eL (x := x) (g := g) (l := l)
  have nn := F.nn
  have hv : 0 ≤ cq_I g (x + 62) (100 * l + 1) ∧ cq_I g (x + 62) (100 * l + 1) < n := by
    have := ok.2.2.2.2.1
    have := (h62 (100 * l + 1)).1
    omega
  clear ok
  unfold CMQ CMQ0
  generalize m_rl g x l = q at *
  generalize cq_I g (x + 62) (100 * l + 1) = v at *
  generalize cq_I g x 84 + 1 = V
  have qI : ∀ o j, 1 ≤ o → o ≤ 65 → cq_I q (x + o) j = cq_I g (x + o) j := fun o j w1 w2 => (eL_.2.2.2.2 (x + o) j (by omega)).1
  have qJ : ∀ o j, 1 ≤ o → o ≤ 65 → cq_J q (x + o) j = cq_J g (x + o) j := fun o j w1 w2 => (eL_.2.2.2.2 (x + o) j (by omega)).2
  have F1 := F.eL eL_
  have hU' : cq_I q (x + 11) u ≠ 0 := by rw [qI 11 _ (by decide) (by decide)]; exact hU
  have h62' : ∀ j, 0 ≤ cq_I q (x + 62) j ∧ cq_I q (x + 62) j ≤ 255 := fun j => by rw [qI 62 _ (by decide) (by decide)]; exact h62 j
  have fo := F1.fo u v hu.1 hu.2 hv.1 hv.2
  have r4 := fo.r4
  have bk_ : ∀ {g2 : cx_Q}, RS x n q g2 → RS x n g g2 := fun {g2} a => fun w w0 w1 => by
    obtain ⟨r1, r2, r3, r4⟩ := a w w0 w1
    have od : m_onceDir q x w = m_onceDir g x w := od_c (fun _ _ _ => qI 27 _ (by decide) (by decide)) (qI 23 _ (by decide) (by decide))
    rw [qJ 1 w (by decide) (by decide)] at r1
    rw [qI 11 w (by decide) (by decide), qI 12 w (by decide) (by decide)] at r2
    rw [od] at r3
    rw [od, qI 11 w (by decide) (by decide), qI 12 w (by decide) (by decide)] at r4
    exact ⟨r1, r2, r3, r4⟩
  have main : ∀ i, 0 ≤ i → i < cq_I q (x + 30) (6 * u + v) → m_openA q x l (cq_I q (x + 29) (4 * (6 * u + v) + i)) = 0 → RS x n g (cq_sI (m_front (m_openQ q x u (cq_I q (x + 29) (4 * (6 * u + v) + i))) x (6 * u + v) i) x 84 V) := fun i i0 i1 oa => by
    have k20 := (fo.ss i i0 i1).k20
    rcases openQ_q (u := u) (l := l) k20 h81 oa with ⟨_, fr, _⟩ | ⟨_, _, _, fr, _⟩ | ⟨_, _, _, fr, _⟩
    · exact bk_ (RS.fr hU' (by decide) (by omega) fr)
    · exact bk_ (RS.fr hU' (by decide) (by omega) fr)
    · exact bk_ (RS.fr hU' (by decide) (by omega) fr)
  by_cases b1 : cq_I g (x + 62) (100 * l) = 1
  · rw [if_pos b1]
    have ca := co1 b1
    have on0 := (m_bytes_2r (x := x) (p := 21) h62').1
    unfold m_cfQ
    unfold m_cfA at ca
    generalize (m_bytes q x 19 2).toInt32.toInt = ln at *
    generalize (m_bytes q x 21 2).toInt32.toInt = on_ at *
    generalize m_bytes q x 3 8 = who at *
    generalize m_bytes q x 11 8 = e_ at *
    unfold m_cfQ1
    unfold m_cfA0 at ca
    by_cases i2 : m_cfI q x (6 * u + v) e_ = -2
    · rw [if_pos i2]
      rw [if_pos i2] at ca
      obtain ⟨_, _, l81⟩ := cfA1_0 ca on0
      unfold m_cfQ0
      generalize m_cfR q x u ln on_ who e_ = root
      have Q := cfG_q (x := x) (w := 6 * u + v) (g := q) (u := u) (ln := ln) (on := on_) (e := e_) (root := root) r4
      generalize m_slotN q x (6 * u + v) = sl at *
      generalize m_cfG q x u (6 * u + v) ln on_ e_ root = G at *
      obtain ⟨fr, _, _⟩ := cfG_Q Q ⟨h81, l81⟩
      generalize m_openQ G x u sl = g3 at *
      obtain ⟨d1, d2, d3⟩ := cfD_q (x := x) (u := u) (s := sl) (ln := ln) (on := on_) (e := e_) (g := g3)
      generalize m_cfD g3 x u sl ln on_ e_ = g2 at *
      refine bk_ (RS.of (d := 1) hU' (by decide) (fun j => ?_) (fun o j w => ?_) (fun j w => ?_) ?_)
      · rw [mm_JI, d3 1 j (by decide) (by decide), fr.J_ 1 j (by decide) (by decide) (by decide) (by unfold inS; omega)]
        exact Q.J_ 1 j (by decide) (by omega)
      · rw [mm_sI, if_neg (by omega), d2 o j (by omega) (by omega) (by omega) (by omega)]
        rcases w with w | w | w <;> rw [w]
        · rw [fr.I_ 11 j (by decide) (by decide) (by decide) (by unfold inS; omega) (by decide) (by omega)]
          exact Q.I_ 11 j (by decide) (by omega) (by omega) (by omega)
        · rw [fr.I_ 23 j (by decide) (by decide) (by decide) (by unfold inS; omega) (by decide) (by omega)]
          exact Q.I_ 23 j (by decide) (by omega) (by omega) (by omega)
        · rw [fr.I_ 27 j (by decide) (by decide) (by decide) (by unfold inS; omega) (by decide) (by omega)]
          exact Q.I_ 27 j (by decide) (by omega) (by omega) (by omega)
      · rw [mm_sI, if_neg (by omega), d2 12 j (by decide) (by decide) (by decide) (by omega), fr.I_ 12 j (by decide) (by decide) (by decide) (by unfold inS; omega) (by decide) (by omega)]
        exact Q.I_ 12 j (by decide) (by omega) (by omega) (by omega)
      · rw [mm_sI, if_neg (by omega), d2 12 u (by decide) (by decide) (by decide) (by omega), fr.i12, Q.I_ 12 u (by decide) (by omega) (by omega) (by omega)]
    · rw [if_neg i2]
      rw [if_neg i2] at ca
      have ir : 0 ≤ m_cfI q x (6 * u + v) e_ ∧ m_cfI q x (6 * u + v) e_ < cq_I q (x + 30) (6 * u + v) := by
        rcases m_ci_rg (f := m_cfB q x (6 * u + v) e_) (n := (cq_I q (x + 30) (6 * u + v)).toNat) (k := 0) with z | z
        · exact absurd z i2
        · have : m_cfI q x (6 * u + v) e_ = m_ci (m_cfB q x (6 * u + v) e_) (cq_I q (x + 30) (6 * u + v)).toNat 0 := rfl
          rw [this]
          omega
      exact main _ ir.1 ir.2 ca
  · rw [if_neg b1]
    have ca := co2 b1
    unfold m_clQ
    unfold m_clA at ca
    by_cases z0 : cq_I q (x + 30) (6 * u + v) = 0
    · rw [if_pos z0] at ca
      exact absurd ca (by decide)
    rw [if_neg z0] at ca
    have ir : 0 ≤ m_clI q x l (6 * u + v) ∧ m_clI q x l (6 * u + v) < cq_I q (x + 30) (6 * u + v) ∧ m_openA q x l (cq_I q (x + 29) (4 * (6 * u + v) + m_clI q x l (6 * u + v))) = 0 := by
      have ei : m_clI q x l (6 * u + v) = m_ci (m_clF q x l (6 * u + v)) (cq_I q (x + 30) (6 * u + v)).toNat 0 := rfl
      rcases m_ci_rg (f := m_clF q x l (6 * u + v)) (n := (cq_I q (x + 30) (6 * u + v)).toNat) (k := 0) with z | ⟨z1, z2, z3⟩
      · rw [← ei] at z
        rw [if_pos z] at ca
        exfalso
        obtain ⟨N, eN⟩ : ∃ N, (cq_I q (x + 30) (6 * u + v)).toNat = N + 1 := ⟨(cq_I q (x + 30) (6 * u + v)).toNat - 1, by omega⟩
        rw [ei, eN, m_ci, if_pos ca] at z
        exact absurd z (by decide)
      · rw [← ei] at z1 z2 z3
        exact ⟨by omega, by omega, z3⟩
    exact main _ ir.1 ir.2.1 ir.2.2
end
