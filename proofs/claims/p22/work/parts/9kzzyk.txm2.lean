/-! turns and terms: a letter comes and is opened -/
section
variable {c x nt : Nat} {n : Int} {T Lf T' Lf' : Int → Nat} {dom sd dom' sd' : Nat → Prop} {rt ct rt' ct' : Nat → Int} {dp dp' : Nat → Nat} {kd kd' : Int → Nat} {m m' : Nat} {h g h' g' : cx_Q} {E E0 : Nat → Option Int} {pe : Int → Nat} {ro : Int → Int → Nat} {pa lb tp rd en op ob : Nat} {L Q_ D_ : Int} {U_ V_ : Int → Int} {h0 : cx_Q}
theorem TX.com (X : TX c x nt n T Lf dom sd rt ct dp kd m h g) (F : FX c x n pe ro pa lb tp rd en op ob T Lf h g) (C0 : CT c E0 h [] h) (C : CT c E h [] h') (hC : E c = none) (hc : cq_s h c = 9) (he1 : ∀ d, cq_s h d = 1 → E d = none) (W : TW x g') (U : ∀ w w', cq_s h' w = 6 → cq_s h' w' = 6 → cq_J h' w 1 = cq_J h' w' 1 → w = w') (Fr : zFr x n h g) (A : zAA x n g) (hm : m + 2 ≤ m') (hm3 : 3 ≤ m') {l u : Int} (co : CO g x n l u) (d12 : 0 ≤ cq_I g (x + 12) u ∧ cq_I g (x + 12) u < 141) (n2_ : 1 ≤ cq_I g x 2) (o10 : 0 ≤ cq_I g x 10) (r41 : ∀ s, 0 ≤ cq_I g (x + 41) s) (h62 : ∀ j, 0 ≤ cq_I g (x + 62) j ∧ cq_I g (x + 62) j ≤ 255) (h81 : 0 ≤ cq_I (m_rl g x l) x 81) (mx : CMX c x pe T T' g l u h h') (eT_ : eT x (CMQ g x l u) g') (rc : RCm x g (m_rl g x l) l u (cq_I g (x + 62) (100 * l + 1)) g') : ∃ dom' sd' rt' ct' dp' kd', TX c x nt n T' Lf dom' sd' rt' ct' dp' kd' m' h' g' := by
  obtain ⟨hu, hl, ok, hU, _, co1, co2⟩ := co
  have eL_ := rl_eL (x := x) (g := g) (l := l)
  have nn := F.nn
  have hv : 0 ≤ cq_I g (x + 62) (100 * l + 1) ∧ cq_I g (x + 62) (100 * l + 1) < n := by
    have := ok.2.2.2.2.1
    have := (h62 (100 * l + 1)).1
    omega
  clear ok
  unfold CMQ CMQ0 at eT_
  unfold CMX at mx
  unfold RCm at rc
  generalize m_rl g x l = q at *
  generalize cq_I g (x + 62) (100 * l + 1) = v at *
  have qI : ∀ o j, 1 ≤ o → o ≤ 65 → cq_I q (x + o) j = cq_I g (x + o) j := fun o j w1 w2 => (eL_.2.2.2.2 (x + o) j (by omega)).1
  have qJ : ∀ o j, 1 ≤ o → o ≤ 65 → cq_J q (x + o) j = cq_J g (x + o) j := fun o j w1 w2 => (eL_.2.2.2.2 (x + o) j (by omega)).2
  have q0 : ∀ j, (j < 77 ∨ 83 < j) → cq_I q x j = cq_I g x j := fun j w => (eL_.2.2.2.2 x j (by omega)).1
  have X1 := X.tg F C0 hc (g' := q) (fun j w => q0 j (by omega)) qI qJ
  have F1 := F.eL eL_
  have Fr1 : zFr x n h q := fun w sw => by
    obtain ⟨u', i', a1, a2, a3, a4, a5, a6⟩ := Fr w sw
    exact ⟨u', i', a1, a2, a3, by rw [qI 12 _ (by decide) (by decide)]; exact a4, a5, by rw [qJ 1 _ (by decide) (by decide)]; exact a6⟩
  have A1 : zAA x n q := fun u1 u2 i1 i2 a1 a2 a3 a4 a5 a6 a7 a8 a9 => by
    rw [qJ 1 _ (by decide) (by decide), qJ 1 _ (by decide) (by decide)] at a9
    exact A u1 u2 i1 i2 a1 a2 a3 a4 a5 a6 a7 a8 a9
  have d12' : 0 ≤ cq_I q (x + 12) u ∧ cq_I q (x + 12) u < 141 := by rw [qI 12 _ (by decide) (by decide)]; exact d12
  have n2' : 1 ≤ cq_I q x 2 := by rw [q0 2 (by omega)]; exact n2_
  have o10' : 0 ≤ cq_I q x 10 := by rw [q0 10 (by omega)]; exact o10
  have hU' : cq_I q (x + 11) u ≠ 0 := by rw [qI 11 _ (by decide) (by decide)]; exact hU
  have r41' : ∀ s, 0 ≤ cq_I q (x + 41) s := fun s => by rw [qI 41 _ (by decide) (by decide)]; exact r41 s
  have h62' : ∀ j, 0 ≤ cq_I q (x + 62) j ∧ cq_I q (x + 62) j ≤ 255 := fun j => by rw [qI 62 _ (by decide) (by decide)]; exact h62 j
  obtain ⟨e, rc⟩ := rc
  have e' : exT x q g' := ⟨⟨by rw [q0 2 (by omega)]; exact e.1.1, by rw [q0 10 (by omega)]; exact e.1.2⟩, fun k o w1 w2 w3 => by
    rw [q0 2 (by omega)] at w1
    rw [qI o k (by omega) (by omega)]
    exact e.2.1 k o w1 w2 w3, fun k k0 k1 => by
    rw [q0 2 (by omega)] at k0
    exact e.2.2.1 k k0 k1, fun k k0 => by
    rw [q0 10 (by omega)] at k0
    rw [qI 10 k (by decide) (by decide), qJ 9 k (by decide) (by decide)]
    exact e.2.2.2 k k0⟩
  have eR : ∀ o, o ∈ tR → 1 ≤ o ∧ o ≤ 65 := by decide
  have hF : RE x q (fR x g) := fun o ho j => qI o j (eR o ho).1 (eR o ho).2
  have r4 := (F1.fo u v hu.1 hu.2 hv.1 hv.2).r4
  have o60 := (F1.fu u hu.1 hu.2).o60
  -- a SESSION that was there
  have main : ∀ (i : Int) (F' : Nat → Int → Int) (T_ : Int), 0 ≤ i → i < cq_I q (x + 30) (6 * u + v) → T' = T → m_openA q x l (cq_I q (x + 29) (4 * (6 * u + v) + i)) = 0 → OX x u (cq_I q (x + 29) (4 * (6 * u + v) + i)) q (T (cq_I q (x + 29) (4 * (6 * u + v) + i))) h h' → eT x (cq_sI (m_front (m_openQ q x u (cq_I q (x + 29) (4 * (6 * u + v) + i))) x (6 * u + v) i) x 84 (cq_I g x 84 + 1)) g' → RE x g' F' → owE x g' q (cq_I q x 10) (fR x g) F' u (cq_I q (x + 29) (4 * (6 * u + v) + i)) T_ → owN x q (cq_I q x 10) (cq_I g' x 10) (cq_I q x 2) (cq_I q (x + 29) (4 * (6 * u + v) + i)) T_ → ∃ dom' sd' rt' ct' dp' kd', TX c x nt n T' Lf dom' sd' rt' ct' dp' kd' m' h' g' := fun i F' T_ i0 i1 eT' oa ox et_ re ow on_ => by
    rw [eT']
    exact X1.opn F1 C0 C hC hc he1 W U Fr1 A1 hm hu hv d12' n2' o10' ⟨i0, i1⟩ rfl (r41' _) h81 oa ox hF et_ e' re ow on_
  rcases mx with ⟨b1, mx⟩ | ⟨b1, t1, ox⟩
  · rw [if_pos b1] at eT_
    have ca := co1 b1
    rcases rc with ⟨_, F', T_, tF, re, ce, cn⟩ | ⟨b2, _⟩
    rotate_left
    · exact absurd b1 b2
    have on0 := (m_bytes_2r (x := x) (p := 21) h62').1
    unfold m_cfQ at eT_
    unfold m_cfA at ca
    generalize (m_bytes q x 19 2).toInt32.toInt = ln at *
    generalize (m_bytes q x 21 2).toInt32.toInt = on_ at *
    generalize m_bytes q x 3 8 = who at *
    generalize m_bytes q x 11 8 = e_ at *
    unfold m_cfQ1 at eT_
    unfold m_cfA0 at ca
    rcases mx with ⟨i2, a, d, oc, s, t1, hs, ha, hd, hoc, nx_⟩ | ⟨i2, t1, ox⟩
    · rw [if_pos i2] at eT_ ca
      obtain ⟨hln, ⟨_, hon⟩, l81⟩ := cfA1_0 ca on0
      rcases ce with ⟨_, ce⟩ | ⟨y, _⟩
      rotate_left
      · exact absurd i2 y
      have cn' := cn.1 i2
      unfold m_cfQ0 at eT_
      rw [hs] at t1
      exact X1.nw F1 C0 C hC hc he1 W U Fr1 A1 (by omega) hm3 hu hv hU' d12' n2' o10' ⟨h81, l81⟩ hln ⟨on0, by
        by_cases z : on_ = 0
        · omega
        · exact hon z⟩ t1 ha hd hoc nx_ eT_ e' hF re ce cn'
    · rw [if_neg i2] at eT_ ca
      rcases ce with ⟨y, _⟩ | ⟨_, ce⟩
      · exact absurd y i2
      have cn' := cn.2 i2
      have ir : 0 ≤ m_cfI q x (6 * u + v) e_ ∧ m_cfI q x (6 * u + v) e_ < cq_I q (x + 30) (6 * u + v) := by
        rcases m_ci_rg (f := m_cfB q x (6 * u + v) e_) (n := (cq_I q (x + 30) (6 * u + v)).toNat) (k := 0) with z | z
        · exact absurd z i2
        · have : m_cfI q x (6 * u + v) e_ = m_ci (m_cfB q x (6 * u + v) e_) (cq_I q (x + 30) (6 * u + v)).toNat 0 := rfl
          rw [this]
          omega
      exact main _ F' T_ ir.1 ir.2 t1 ca ox eT_ re ce cn'
  · rw [if_neg b1] at eT_
    have ca := co2 b1
    rcases rc with ⟨b2, _⟩ | ⟨_, F', T_, re, ce, cn⟩
    · exact absurd b2 b1
    unfold m_clQ at eT_
    unfold m_clA at ca
    by_cases z0 : cq_I q (x + 30) (6 * u + v) = 0
    · rw [if_pos z0] at ca
      exact absurd ca (by decide)
    rw [if_neg z0] at ca
    have ir : 0 ≤ m_clI q x l (6 * u + v) ∧ m_clI q x l (6 * u + v) < cq_I q (x + 30) (6 * u + v) ∧ m_openA q x l (cq_I q (x + 29) (4 * (6 * u + v) + m_clI q x l (6 * u + v))) = 0 := by
      have ei : m_clI q x l (6 * u + v) = m_ci (m_clF q x l (6 * u + v)) (cq_I q (x + 30) (6 * u + v)).toNat 0 := rfl
      rcases m_ci_rg (f := m_clF q x l (6 * u + v)) (n := (cq_I q (x + 30) (6 * u + v)).toNat) (k := 0) with z | ⟨z1, z2, z3⟩
      · rw [← ei] at z
        rw [if_pos z] at ca
        exfalso
        obtain ⟨N, eN⟩ : ∃ N, (cq_I q (x + 30) (6 * u + v)).toNat = N + 1 := ⟨(cq_I q (x + 30) (6 * u + v)).toNat - 1, by omega⟩
        rw [ei, eN, m_ci, if_pos ca] at z
        exact absurd z (by decide)
      · rw [← ei] at z1 z2 z3
        exact ⟨by omega, by omega, z3⟩
    exact main _ F' T_ ir.1 ir.2.1 t1 ir.2.2 ox eT_ re ce cn
end
