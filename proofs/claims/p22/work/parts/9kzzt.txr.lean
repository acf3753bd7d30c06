/-! turns and terms: register, publish -/
section
variable {c x nt : Nat} {n : Int} {T Lf : Int → Nat} {dom sd : Nat → Prop} {rt ct : Nat → Int} {dp : Nat → Nat} {kd kd' : Int → Nat} {m m' : Nat} {h g h' g' : cx_Q} {E E0 : Nat → Option Int} {pe : Int → Nat} {ro : Int → Int → Nat} {pa lb tp rd en op ob : Nat}
theorem TX.reg (X : TX c x nt n T Lf dom sd rt ct dp kd m h g) (F : FX c x n pe ro pa lb tp rd en op ob T Lf h g) {gr gq : cx_Q} (F' : FX c x n pe ro pa lb tp rd en op ob T Lf h' gq) (C0 : CT c E0 h [] h) (C : CT c E h [] h') (hC : E c = none) (hc : cq_s h c = 9) (he : ∀ d, cq_s h d = 7 ∨ cq_s h d = 174 ∨ cq_s h d = 1 → E d = none) (W : TW x g') (U : ∀ w w', cq_s h' w = 6 → cq_s h' w' = 6 → cq_J h' w 1 = cq_J h' w' 1 → w = w') (Fr : zFr x n h g) (A : zAA x n g) (hm : m ≤ m') {u : Int} (hu : 0 ≤ u ∧ u < n) (hU : cq_I g (x + 11) u = 0) (d12 : 0 ≤ cq_I g (x + 12) u ∧ cq_I g (x + 12) u < 140) (n2_ : 1 ≤ cq_I g x 2) (R : RQ x u g gr) (L : LQ x u gr gq) (eT_ : eT x gq g') (e : exT x g g') (re : RE x g' (upF (upF (fR x g) 15 u (cq_I g x 2)) 19 (21 * u + 1) (cq_I g x 2 + 1))) (dr1 : drT x g' (cq_I g x 2) (cq_I g x 10) (dO (cq_J g (x + 1) u) (cq_I g (x + 12) u))) (dr2 : drT x g' (cq_I g x 2 + 1) (cq_I g x 10 + 1) (dO (cq_J g (x + 1) u) (cq_I g (x + 12) u + 1))) (e10 : cq_I g' x 10 = cq_I g x 10 + 2) (o10 : 0 ≤ cq_I g x 10) : ∃ kd', TX c x nt n T Lf dom sd rt ct dp kd' m' h' g' := by
  have B := X.b
  obtain ⟨l0, on0, row0⟩ := X.n0 u hu.1 hu.2 hU
  have r16 : cq_I gr (x + 16) u = 0 := by rw [R.I_ 16 u (by decide) (by omega)]; exact l0
  have gI : ∀ o j, 1 ≤ o → o ∉ tL → ¬ ((o = 11 ∨ o = 12 ∨ o = 16) ∧ j = u) → cq_I g' (x + o) j = cq_I g (x + o) j := fun o j w1 w2 w3 => by rw [eT_.fI w1 w2, L.I_ o j w1 (fun z => w3 ⟨Or.inr z.1, z.2⟩), R.I_ o j w1 (fun z => w3 ⟨z.1.imp id (fun y => Or.inl y), z.2⟩)]
  have gJ : ∀ o j, 1 ≤ o → o ∉ tL → ¬ ((o = 13 ∨ o = 14 ∨ o = 20 ∨ o = 21 ∨ o = 22) ∧ j = u) → ¬ ((o = 17 ∨ o = 18) ∧ j = 21 * u + 1) → cq_J g' (x + o) j = cq_J g (x + o) j := fun o j w1 w2 w3 w4 => by rw [eT_.fJ w1 w2, L.J_ o j w1 (by omega) (by rw [r16]; omega), R.J_ o j w1 (by omega)]
  have g11 : cq_I g' (x + 11) u = 1 := by rw [eT_.fI (by decide) (by decide), L.I_ 11 u (by decide) (by omega), R.i11]
  have g16 : cq_I g' (x + 16) u = 1 := by rw [eT_.fI (by decide) (by decide), L.i16, r16]; rfl
  have q14 : cq_J gq (x + 14) u = dO (cq_J g (x + 1) u) (cq_I g (x + 12) u) := by rw [L.J_ 14 u (by decide) (by omega) (by omega), R.j14]
  have q18 : cq_J gq (x + 18) (21 * u + 1) = dO (cq_J g (x + 1) u) (cq_I g (x + 12) u + 1) := by
    have := L.j18
    rw [r16, R.J_ 1 u (by decide) (by omega), R.i12] at this
    exact this
  have j14 : cq_J g' (x + 14) u = dO (cq_J g (x + 1) u) (cq_I g (x + 12) u) := by rw [eT_.fJ (by decide) (by decide), q14]
  have j18 : cq_J g' (x + 18) (21 * u + 1) = dO (cq_J g (x + 1) u) (cq_I g (x + 12) u + 1) := by rw [eT_.fJ (by decide) (by decide), q18]
  have rr : ∀ o j, o ∈ tR → ¬ (o = 15 ∧ j = u) → ¬ (o = 19 ∧ j = 21 * u + 1) → cq_I g' (x + o) j = cq_I g (x + o) j := fun o j w1 w2 w3 => by
    rw [re o w1 j]
    unfold upF
    rw [if_neg w3, if_neg w2]
    rfl
  have r15 : cq_I g' (x + 15) u = cq_I g x 2 := by
    rw [re 15 (by decide)]
    unfold upF
    rw [if_neg (fun z => absurd z.1 (by decide)), if_pos ⟨rfl, rfl⟩]
  have r19 : cq_I g' (x + 19) (21 * u + 1) = cq_I g x 2 + 1 := by
    rw [re 19 (by decide)]
    exact if_pos ⟨rfl, rfl⟩
  have f' := F'.fu u hu.1 hu.2
  obtain ⟨d, d1, d2, _, d3, _⟩ := f'.n1 (by rw [L.I_ 11 u (by decide) (by omega), R.i11]; decide)
  obtain ⟨k, k1, k2, _, k3⟩ := f'.lk 1 (by decide) (by rw [L.i16, r16]; decide)
  rw [q14] at d3
  rw [q18] at k3
  have kc : ∀ k, cq_I g x 10 ≤ k → k < cq_I g' x 10 → k = cq_I g x 10 ∨ k = cq_I g x 10 + 1 := fun k k0 k1 => by omega
  obtain ⟨N, O⟩ := zNO Fr A C U e (fun j j0 j1 => by
    rcases kc j j0 j1 with y | y
    · rw [y]
      exact ⟨u, cq_I g (x + 12) u, d, ⟨hu, Int.le_refl _, d12.1, by omega⟩, dr1.2.2.1, ⟨d2, d3⟩, by rw [dr1.2.2.2]; exact dr1.1, by rw [dr1.2.2.2]; exact Int.le_refl _⟩
    · rw [y]
      exact ⟨u, cq_I g (x + 12) u + 1, k, ⟨hu, by omega, by omega, by omega⟩, dr2.2.2.1, ⟨k2, k3⟩, by rw [dr2.2.2.2]; exact dr2.1, by rw [dr2.2.2.2]; omega⟩) (fun j j' j0 j1 l0 l1 z => by
    have ne : ¬ (cq_I g x 2 = cq_I g x 2 + 1 ∨ dO (cq_J g (x + 1) u) (cq_I g (x + 12) u) = dO (cq_J g (x + 1) u) (cq_I g (x + 12) u + 1)) := fun y => by
      rcases y with y | y
      · omega
      · have := (A u u _ _ hu.1 hu.2 hu.1 hu.2 d12.1 (by omega) (by omega) (by omega) y).2
        omega
    rcases kc j j0 j1 with y | y <;> rcases kc j' l0 l1 with y' | y'
    · rw [y, y']
    · rw [y, y', dr1.2.2.1, dr2.2.2.1, dr1.2.2.2, dr2.2.2.2] at z
      exact absurd z ne
    · rw [y, y', dr1.2.2.1, dr2.2.2.1, dr1.2.2.2, dr2.2.2.2] at z
      exact absurd (z.imp Eq.symm Eq.symm) ne
    · rw [y, y'])
  have lt := dr2.1.1.2
  have K : zKd kd (fun t => if t = cq_I g x 2 then 2 else if t = cq_I g x 2 + 1 then 3 else kd t) (cq_I g x 2) (cq_I g' x 2) := ⟨fun t z => by
    show (if t = cq_I g x 2 then 2 else if t = cq_I g x 2 + 1 then 3 else kd t) = kd t
    rw [if_neg (by omega), if_neg (by omega)], fun t z => by
    show (if t = cq_I g x 2 then 2 else if t = cq_I g x 2 + 1 then 3 else kd t) = 0
    rw [if_neg (by omega), if_neg (by omega)]
    exact Classical.byContradiction fun y => by have := B.k2 t y; omega⟩
  have hk := K.k B
  have B' := B.ext C0 C hC hc W N O hk (fun t z => Or.inl (by
    by_cases y : t = cq_I g x 2
    · rw [if_pos y] at z
      exact absurd z (by decide)
    · rw [if_neg y] at z
      by_cases y' : t = cq_I g x 2 + 1
      · rw [if_pos y'] at z
        exact absurd z (by decide)
      · rw [if_neg y'] at z
        exact z)) K.tt hm
  have z15 := dr_zS o10 dr1
  have z19 := dr_zS (by omega) dr2
  refine ⟨_, X.gen F C0 C he B' N (by rw [if_neg (by omega), if_neg (by omega)]; exact X.kz) ⟨fun o j w => ?_, fun j => Or.inl (gI 30 j (by decide) (by decide) (by omega))⟩ (by rw [eT_.xI (by decide) (by decide) (by decide), L.x_, R.x_]) (fun l => rr 64 l (by decide) (by omega) (by omega)) (fun u' u0 u1 q => ?_) (fun u' u0 u1 q => ?_) (fun u' k u0 u1 k0 k1 => ?_) (fun u' k u0 u1 k0 k1 => ?_)⟩
  · rcases w with w | w | w | w | w | w | w | w | w | w <;> rw [w]
    · exact gI 29 j (by decide) (by decide) (by omega)
    · exact gI 40 j (by decide) (by decide) (by omega)
    · exact gI 41 j (by decide) (by decide) (by omega)
    · exact rr 48 j (by decide) (by omega) (by omega)
    · exact rr 50 j (by decide) (by omega) (by omega)
    · exact rr 51 j (by decide) (by omega) (by omega)
    · exact rr 52 j (by decide) (by omega) (by omega)
    · exact gI 53 j (by decide) (by decide) (by omega)
    · exact gI 55 j (by decide) (by decide) (by omega)
    · exact rr 57 j (by decide) (by omega) (by omega)
  · have ne : u' ≠ u := fun z => by rw [z, g11] at q; exact absurd q (by decide)
    rw [gI 11 u' (by decide) (by decide) (by omega)] at q
    obtain ⟨y1, y2, y3⟩ := X.n0 u' u0 u1 q
    refine ⟨?_, ?_, fun v v0 v1 => ?_⟩
    · rw [gI 16 u' (by decide) (by decide) (by omega)]; exact y1
    · rw [gI 23 u' (by decide) (by decide) (by omega)]; exact y2
    · rw [gI 30 _ (by decide) (by decide) (by omega)]; exact y3 v v0 v1
  · by_cases z : u' = u
    · rw [z, j14, r15]
      exact ⟨z15, if_pos rfl⟩
    · rw [gI 11 u' (by decide) (by decide) (by omega)] at q
      exact X.old1 F N hk u0 u1 q (gJ 14 u' (by decide) (by decide) (by omega) (by omega)) (rr 15 u' (by decide) (by omega) (by omega))
  · by_cases z : u' = u
    · rw [z, g16] at k1
      have ek : k = 1 := by omega
      rw [z, ek, j18, r19]
      refine ⟨z19, ?_⟩
      show (if cq_I g x 2 + 1 = cq_I g x 2 then 2 else if cq_I g x 2 + 1 = cq_I g x 2 + 1 then 3 else kd (cq_I g x 2 + 1)) = 3
      rw [if_neg (by omega), if_pos rfl]
    · have l20' := (F.fu u' u0 u1).l20
      rw [gI 16 u' (by decide) (by decide) (by omega)] at k1
      exact X.old2 F N hk u0 u1 k0 k1 (gJ 18 _ (by decide) (by decide) (by omega) (by omega)) (rr 19 _ (by decide) (by omega) (by omega))
  · rw [gI 23 u' (by decide) (by decide) (by omega)] at k1
    exact X.old3 F N hk u0 u1 k0 k1 (gJ 25 _ (by decide) (by decide) (by omega) (by omega)) (rr 26 _ (by decide) (by omega) (by omega))
/-- so many ONCE keys -/
def PR (x : Nat) (u : Int) (r : Nat) (g g' : cx_Q) : Prop := (∀ j, cq_I g' x j = cq_I g x j) ∧ (∀ o j, 1 ≤ o → ¬ ((o = 12 ∨ o = 23) ∧ j = u) → ¬ (o = 27 ∨ o = 28) → cq_I g' (x + o) j = cq_I g (x + o) j) ∧ (cq_I g' (x + 12) u = cq_I g (x + 12) u + r) ∧ (cq_I g' (x + 23) u = cq_I g (x + 23) u + r) ∧ (∀ o j, 1 ≤ o → ¬ ((o = 24 ∨ o = 25) ∧ 61 * u + cq_I g (x + 23) u < j ∧ j ≤ 61 * u + cq_I g (x + 23) u + r) → cq_J g' (x + o) j = cq_J g (x + o) j) ∧ (∀ i, 1 ≤ i → i ≤ (r : Int) → cq_J g' (x + 25) (61 * u + cq_I g (x + 23) u + i) = dO (cq_J g (x + 1) u) (cq_I g (x + 12) u + i - 1))
theorem PR.x_ {x : Nat} {u : Int} {r : Nat} {g g' : cx_Q} (F_ : PR x u r g g') : ∀ j, cq_I g' x j = cq_I g x j := F_.1
theorem PR.I_ {x : Nat} {u : Int} {r : Nat} {g g' : cx_Q} (F_ : PR x u r g g') : ∀ o j, 1 ≤ o → ¬ ((o = 12 ∨ o = 23) ∧ j = u) → ¬ (o = 27 ∨ o = 28) → cq_I g' (x + o) j = cq_I g (x + o) j := F_.2.1
theorem PR.i12 {x : Nat} {u : Int} {r : Nat} {g g' : cx_Q} (F_ : PR x u r g g') : cq_I g' (x + 12) u = cq_I g (x + 12) u + r := F_.2.2.1
theorem PR.i23 {x : Nat} {u : Int} {r : Nat} {g g' : cx_Q} (F_ : PR x u r g g') : cq_I g' (x + 23) u = cq_I g (x + 23) u + r := F_.2.2.2.1
theorem PR.J_ {x : Nat} {u : Int} {r : Nat} {g g' : cx_Q} (F_ : PR x u r g g') : ∀ o j, 1 ≤ o → ¬ ((o = 24 ∨ o = 25) ∧ 61 * u + cq_I g (x + 23) u < j ∧ j ≤ 61 * u + cq_I g (x + 23) u + r) → cq_J g' (x + o) j = cq_J g (x + o) j := F_.2.2.2.2.1
theorem PR.j25 {x : Nat} {u : Int} {r : Nat} {g g' : cx_Q} (F_ : PR x u r g g') : ∀ i, 1 ≤ i → i ≤ (r : Int) → cq_J g' (x + 25) (61 * u + cq_I g (x + 23) u + i) = dO (cq_J g (x + 1) u) (cq_I g (x + 12) u + i - 1) := F_.2.2.2.2.2
theorem pub_r {u : Int} : ∀ (r : Nat) {g : cx_Q}, PR x u r g (m_pub x u r g)
  | 0, g => by
    rw [m_pub]
    exact ⟨fun _ => rfl, fun _ _ _ _ _ => rfl, by omega, by omega, fun _ _ _ _ => rfl, fun i i0 i1 => by omega⟩
  | r + 1, g => by
    have P : PR x u r g (m_pub x u r g) := pub_r r
    rw [m_pub_r]
    have Q := pub_q (x := x) (u := u) (g := m_pub x u r g)
    refine ⟨fun j => by rw [Q.x_, P.x_], fun o j w1 w2 w3 => by rw [Q.I_ o j w1 w2 (fun z => w3 z.1), P.I_ o j w1 w2 w3], by rw [Q.i12, P.i12]; omega, by rw [Q.i23, P.i23]; omega, fun o j w1 w2 => ?_, fun i i0 i1 => ?_⟩
    · rw [Q.J_ o j w1 (by rw [P.i23]; omega), P.J_ o j w1 (by omega)]
    · by_cases z : i = r + 1
      · have := Q.j25
        rw [P.i23, P.i12, P.J_ 1 u (by decide) (by omega)] at this
        rw [z]
        have e1 : 61 * u + cq_I g (x + 23) u + ((r : Int) + 1) = 61 * u + (cq_I g (x + 23) u + (r : Int) + 1) := by omega
        have e2 : cq_I g (x + 12) u + ((r : Int) + 1) - 1 = cq_I g (x + 12) u + (r : Int) := by omega
        rw [e1, e2]
        exact this
      · rw [Q.J_ 25 _ (by decide) (by rw [P.i23]; omega)]
        exact P.j25 i i0 (by omega)
theorem TX.pub (X : TX c x nt n T Lf dom sd rt ct dp kd m h g) (F : FX c x n pe ro pa lb tp rd en op ob T Lf h g) {gq : cx_Q} (F' : FX c x n pe ro pa lb tp rd en op ob T Lf h' gq) (C0 : CT c E0 h [] h) (C : CT c E h [] h') (hC : E c = none) (hc : cq_s h c = 9) (he : ∀ d, cq_s h d = 7 ∨ cq_s h d = 174 ∨ cq_s h d = 1 → E d = none) (W : TW x g') (U : ∀ w w', cq_s h' w = 6 → cq_s h' w' = 6 → cq_J h' w 1 = cq_J h' w' 1 → w = w') (Fr : zFr x n h g) (A : zAA x n g) (hm : m ≤ m') {u : Int} {r : Nat} (hu : 0 ≤ u ∧ u < n) (hU : cq_I g (x + 11) u ≠ 0) (d12 : 0 ≤ cq_I g (x + 12) u ∧ cq_I g (x + 12) u + r ≤ 141) (hr : cq_I g (x + 23) u + r ≤ 60) (n2_ : 1 ≤ cq_I g x 2) (P : PR x u r g gq) (eT_ : eT x gq g') (e : exT x g g') (re : RE x g' (fun o j => if o = 26 ∧ 61 * u + cq_I g (x + 23) u < j ∧ j ≤ 61 * u + cq_I g (x + 23) u + r then cq_I g x 2 + (j - (61 * u + cq_I g (x + 23) u)) - 1 else fR x g o j)) (dr : ∀ i : Nat, i < r → drT x g' (cq_I g x 2 + i) (cq_I g x 10 + i) (dO (cq_J g (x + 1) u) (cq_I g (x + 12) u + i))) (e10 : cq_I g' x 10 = cq_I g x 10 + r) (o10 : 0 ≤ cq_I g x 10) : ∃ kd', TX c x nt n T Lf dom sd rt ct dp kd' m' h' g' := by
  have B := X.b
  have o60 := (F.fu u hu.1 hu.2).o60
  have gI : ∀ o j, 1 ≤ o → o ∉ tL → ¬ ((o = 12 ∨ o = 23) ∧ j = u) → ¬ (o = 27 ∨ o = 28) → cq_I g' (x + o) j = cq_I g (x + o) j := fun o j w1 w2 w3 w4 => by rw [eT_.fI w1 w2, P.I_ o j w1 w3 w4]
  have gJ : ∀ o j, 1 ≤ o → o ∉ tL → ¬ ((o = 24 ∨ o = 25) ∧ 61 * u + cq_I g (x + 23) u < j ∧ j ≤ 61 * u + cq_I g (x + 23) u + r) → cq_J g' (x + o) j = cq_J g (x + o) j := fun o j w1 w2 w3 => by rw [eT_.fJ w1 w2, P.J_ o j w1 w3]
  have g23 : cq_I g' (x + 23) u = cq_I g (x + 23) u + r := by rw [eT_.fI (by decide) (by decide), P.i23]
  have rr : ∀ o j, o ∈ tR → ¬ (o = 26 ∧ 61 * u + cq_I g (x + 23) u < j ∧ j ≤ 61 * u + cq_I g (x + 23) u + r) → cq_I g' (x + o) j = cq_I g (x + o) j := fun o j w1 w2 => (re o w1 j).trans (if_neg w2)
  have le := e.1.1
  have f' := F'.fu u hu.1 hu.2
  have cell : ∀ i : Nat, i < r → ∃ w, cq_s h' w = 6 ∧ cq_J h' w 1 = dO (cq_J g (x + 1) u) (cq_I g (x + 12) u + i) := fun i hi => by
    obtain ⟨w, _, w2, _, w3⟩ := f'.ok (cq_I g (x + 23) u + (i + 1)) (by omega) (by rw [P.i23]; omega)
    have := P.j25 (i + 1) (by omega) (by omega)
    have e1 : 61 * u + cq_I g (x + 23) u + ((i : Int) + 1) = 61 * u + (cq_I g (x + 23) u + ((i : Int) + 1)) := by omega
    have e2 : cq_I g (x + 12) u + ((i : Int) + 1) - 1 = cq_I g (x + 12) u + (i : Int) := by omega
    rw [e1, e2] at this
    exact ⟨w, w2, w3.trans this⟩
  have kc : ∀ k, cq_I g x 10 ≤ k → k < cq_I g' x 10 → ∃ i : Nat, i < r ∧ k = cq_I g x 10 + i := fun k k0 k1 => ⟨(k - cq_I g x 10).toNat, by omega, by omega⟩
  obtain ⟨N, O⟩ := zNO Fr A C U e (fun j j0 j1 => by
    obtain ⟨i, hi, y⟩ := kc j j0 j1
    obtain ⟨w, w1, w2⟩ := cell i hi
    have d := dr i hi
    rw [y]
    exact ⟨u, cq_I g (x + 12) u + i, w, ⟨hu, by omega, by omega, by omega⟩, d.2.2.1, ⟨w1, w2⟩, by rw [d.2.2.2]; exact d.1, by rw [d.2.2.2]; omega⟩) (fun j j' j0 j1 l0 l1 z => by
    obtain ⟨i, hi, y⟩ := kc j j0 j1
    obtain ⟨i', hi', y'⟩ := kc j' l0 l1
    rw [y, y', (dr i hi).2.2.1, (dr i' hi').2.2.1, (dr i hi).2.2.2, (dr i' hi').2.2.2] at z
    rcases z with z | z
    · omega
    · have := (A u u _ _ hu.1 hu.2 hu.1 hu.2 (by omega) (by omega) (by omega) (by omega) z).2
      omega)
  have K : zKd kd (fun t => if cq_I g x 2 ≤ t ∧ t < cq_I g x 2 + r then 4 else kd t) (cq_I g x 2) (cq_I g' x 2) := ⟨fun t z => by
    show (if cq_I g x 2 ≤ t ∧ t < cq_I g x 2 + r then 4 else kd t) = kd t
    rw [if_neg (by omega)], fun t z => by
    have hl : cq_I g x 2 + r ≤ cq_I g' x 2 := by
      by_cases y : r = 0
      · omega
      · have := (dr (r - 1) (by omega)).1.1.2
        omega
    show (if cq_I g x 2 ≤ t ∧ t < cq_I g x 2 + r then 4 else kd t) = 0
    rw [if_neg (by omega)]
    exact Classical.byContradiction fun y => by have := B.k2 t y; omega⟩
  have hk := K.k B
  have B' := B.ext C0 C hC hc W N O hk (fun t z => Or.inl (by
    by_cases y : cq_I g x 2 ≤ t ∧ t < cq_I g x 2 + r
    · rw [if_pos y] at z
      exact absurd z (by decide)
    · rw [if_neg y] at z
      exact z)) K.tt hm
  refine ⟨_, X.gen F C0 C he B' N (by rw [if_neg (by omega)]; exact X.kz) ⟨fun o j w => ?_, fun j => Or.inl (gI 30 j (by decide) (by decide) (by omega) (by omega))⟩ (by rw [eT_.xI (by decide) (by decide) (by decide), P.x_]) (fun l => rr 64 l (by decide) (by omega)) (fun u' u0 u1 q => ?_) (fun u' u0 u1 q => ?_) (fun u' k u0 u1 k0 k1 => ?_) (fun u' k u0 u1 k0 k1 => ?_)⟩
  · rcases w with w | w | w | w | w | w | w | w | w | w <;> rw [w]
    · exact gI 29 j (by decide) (by decide) (by omega) (by omega)
    · exact gI 40 j (by decide) (by decide) (by omega) (by omega)
    · exact gI 41 j (by decide) (by decide) (by omega) (by omega)
    · exact rr 48 j (by decide) (by omega)
    · exact rr 50 j (by decide) (by omega)
    · exact rr 51 j (by decide) (by omega)
    · exact rr 52 j (by decide) (by omega)
    · exact gI 53 j (by decide) (by decide) (by omega) (by omega)
    · exact gI 55 j (by decide) (by decide) (by omega) (by omega)
    · exact rr 57 j (by decide) (by omega)
  · rw [gI 11 u' (by decide) (by decide) (by omega) (by omega)] at q
    have ne : u' ≠ u := fun z => by rw [z] at q; exact hU q
    obtain ⟨y1, y2, y3⟩ := X.n0 u' u0 u1 q
    refine ⟨?_, ?_, fun v v0 v1 => ?_⟩
    · rw [gI 16 u' (by decide) (by decide) (by omega) (by omega)]; exact y1
    · rw [gI 23 u' (by decide) (by decide) (by omega) (by omega)]; exact y2
    · rw [gI 30 _ (by decide) (by decide) (by omega) (by omega)]; exact y3 v v0 v1
  · rw [gI 11 u' (by decide) (by decide) (by omega) (by omega)] at q
    exact X.old1 F N hk u0 u1 q (gJ 14 u' (by decide) (by decide) (by omega)) (rr 15 u' (by decide) (by omega))
  · rw [gI 16 u' (by decide) (by decide) (by omega) (by omega)] at k1
    exact X.old2 F N hk u0 u1 k0 k1 (gJ 18 _ (by decide) (by decide) (by omega)) (rr 19 _ (by decide) (by omega))
  · have o60' := (F.fu u' u0 u1).o60
    by_cases z : u' = u ∧ cq_I g (x + 23) u < k
    · have k1' : k ≤ cq_I g (x + 23) u + r := by rw [z.1, g23] at k1; exact k1
      have ei : ∃ i : Nat, i < r ∧ k = cq_I g (x + 23) u + i + 1 := ⟨(k - cq_I g (x + 23) u - 1).toNat, by omega, by omega⟩
      obtain ⟨i, hi, ek⟩ := ei
      have d := dr i hi
      have j25 : cq_J g' (x + 25) (61 * u + k) = dO (cq_J g (x + 1) u) (cq_I g (x + 12) u + i) := by
        have := P.j25 (i + 1) (by omega) (by omega)
        have e1 : 61 * u + cq_I g (x + 23) u + ((i : Int) + 1) = 61 * u + k := by omega
        have e2 : cq_I g (x + 12) u + ((i : Int) + 1) - 1 = cq_I g (x + 12) u + (i : Int) := by omega
        rw [e1, e2] at this
        rw [eT_.fJ (by decide) (by decide), this]
      have r26 : cq_I g' (x + 26) (61 * u + k) = cq_I g x 2 + i := (re 26 (by decide) _).trans ((if_pos ⟨rfl, by omega, by omega⟩).trans (by omega))
      rw [z.1, j25, r26]
      refine ⟨dr_zS (by omega) d, ?_⟩
      show (if cq_I g x 2 ≤ cq_I g x 2 + (i : Int) ∧ cq_I g x 2 + (i : Int) < cq_I g x 2 + r then 4 else kd (cq_I g x 2 + (i : Int))) = 4
      rw [if_pos (by omega)]
    · have k1' : k ≤ cq_I g (x + 23) u' := by
        by_cases y : u' = u
        · rw [y]
          omega
        · rw [gI 23 u' (by decide) (by decide) (by omega) (by omega)] at k1
          exact k1
      refine X.old3 F N hk u0 u1 k0 k1' (gJ 25 _ (by decide) (by decide) (fun y => z ?_)) (rr 26 _ (by decide) (fun y => z ?_))
      · have : u' = u := by omega
        rw [this] at y
        exact ⟨this, by omega⟩
      · have : u' = u := by omega
        rw [this] at y
        exact ⟨this, by omega⟩
end
