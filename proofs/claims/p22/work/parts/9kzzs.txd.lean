/-! turns and terms: what is drawn -/
/-- no two draws have one PUBLIC number -/
def zAA (x : Nat) (n : Int) (g : cx_Q) : Prop := ∀ u u' i i', 0 ≤ u → u < n → 0 ≤ u' → u' < n → 0 ≤ i → i < 141 → 0 ≤ i' → i' < 141 → dO (cq_J g (x + 1) u) i = dO (cq_J g (x + 1) u') i' → u = u' ∧ i = i'
/-- every SECRET is a draw of somebody -/
def zFr (x : Nat) (n : Int) (h g : cx_Q) : Prop := ∀ w, cq_s h w = 6 → ∃ u i, 0 ≤ u ∧ u < n ∧ 0 ≤ i ∧ i < cq_I g (x + 12) u ∧ i < 141 ∧ cq_J h w 1 = dO (cq_J g (x + 1) u) i
section
variable {c x nt : Nat} {n : Int} {T Lf : Int → Nat} {dom sd : Nat → Prop} {rt ct : Nat → Int} {dp : Nat → Nat} {kd kd' : Int → Nat} {m m' : Nat} {h g h' g' : cx_Q} {E E0 : Nat → Option Int} {pe : Int → Nat} {ro : Int → Int → Nat} {pa lb tp rd en op ob : Nat}
theorem zFr.nw (Fr : zFr x n h g) (A : zAA x n g) {u i : Int} (u0 : 0 ≤ u) (u1 : u < n) (i0 : 0 ≤ i) (i1 : i < 141) (il : cq_I g (x + 12) u ≤ i) {w : Nat} (q : cq_J h w 1 = dO (cq_J g (x + 1) u) i) : cq_s h w ≠ 6 := fun s => by
  obtain ⟨u', i', a1, a2, a3, a4, a5, a6⟩ := Fr w s
  obtain ⟨e1, e2⟩ := A u u' i i' u0 u1 a1 a2 i0 i1 a3 a5 (q.symm.trans a6)
  rw [← e1] at a4
  omega
/-- the new draws: user and number of each, its cell in the class -/
def zDw (x : Nat) (n : Int) (g g' h' : cx_Q) (k u i : Int) (w : Nat) : Prop := ((0 ≤ u ∧ u < n) ∧ cq_I g (x + 12) u ≤ i ∧ 0 ≤ i ∧ i < 141) ∧ cq_J g' (x + 9) k = dO (cq_J g (x + 1) u) i ∧ (cq_s h' w = 6 ∧ cq_J h' w 1 = dO (cq_J g (x + 1) u) i) ∧ tmT x g' (cq_I g' (x + 10) k) 1 0 0 0 0 ∧ cq_I g x 2 ≤ cq_I g' (x + 10) k
theorem zNO (Fr : zFr x n h g) (A : zAA x n g) (C : CT c E h [] h') (U : ∀ w w', cq_s h' w = 6 → cq_s h' w' = 6 → cq_J h' w 1 = cq_J h' w' 1 → w = w') (e : exT x g g') (D : ∀ k, cq_I g x 10 ≤ k → k < cq_I g' x 10 → ∃ u i w, zDw x n g g' h' k u i w) (dd : ∀ k k', cq_I g x 10 ≤ k → k < cq_I g' x 10 → cq_I g x 10 ≤ k' → k' < cq_I g' x 10 → (cq_I g' (x + 10) k = cq_I g' (x + 10) k' ∨ cq_J g' (x + 9) k = cq_J g' (x + 9) k') → k = k') : zN x h h' g g' ∧ zO x g g' := by
  have oJ : ∀ w, cq_s h w = 6 → cq_s h' w = 6 ∧ cq_J h' w 1 = cq_J h w 1 := fun w s => ⟨(C.1 w (by rw [s]; decide)).1.trans s, (C.2.1 w 1 s).1⟩
  refine ⟨⟨e, oJ, U, fun k k0 k1 => ?_⟩, fun k k0 k1 => ?_, dd⟩
  · obtain ⟨u, i, w, ⟨⟨u0, u1⟩, il, i0, i1⟩, d2, ⟨d3, d4⟩, _⟩ := D k k0 k1
    refine ⟨w, fun s => ?_, d3, d4.trans d2.symm⟩
    exact Fr.nw A u0 u1 i0 i1 il ((oJ w s).2.symm.trans d4) s
  · obtain ⟨u, i, w, _, _, _, d5, d6⟩ := D k k0 k1
    exact ⟨d5, d6⟩
/-- kinds of new terms -/
def zKd (kd kd' : Int → Nat) (lo hi : Int) : Prop := (∀ t, t < lo → kd' t = kd t) ∧ (∀ t, hi ≤ t → kd' t = 0)
theorem zKd.k (K : zKd kd kd' (cq_I g x 2) (cq_I g' x 2)) (B : TB c x nt dom sd rt ct dp kd m h g) : ∀ t, kd t ≠ 0 → kd' t = kd t := fun t z => K.1 t (B.k2 t z)
theorem zKd.tt (K : zKd kd kd' (cq_I g x 2) (cq_I g' x 2)) : ∀ t, kd' t ≠ 0 → t < cq_I g' x 2 := fun t z => Classical.byContradiction fun y => z (K.2 t (by omega))
/-- a LENT key is drawn: rotate -/
theorem TX.rot (X : TX c x nt n T Lf dom sd rt ct dp kd m h g) (F : FX c x n pe ro pa lb tp rd en op ob T Lf h g) {gq : cx_Q} (F' : FX c x n pe ro pa lb tp rd en op ob T Lf h' gq) (C0 : CT c E0 h [] h) (C : CT c E h [] h') (hC : E c = none) (hc : cq_s h c = 9) (he : ∀ d, cq_s h d = 7 ∨ cq_s h d = 174 ∨ cq_s h d = 1 → E d = none) (W : TW x g') (U : ∀ w w', cq_s h' w = 6 → cq_s h' w' = 6 → cq_J h' w 1 = cq_J h' w' 1 → w = w') (Fr : zFr x n h g) (A : zAA x n g) (hm : m ≤ m') {u : Int} (hu : 0 ≤ u ∧ u < n) (hU : cq_I g (x + 11) u ≠ 0) (d12 : 0 ≤ cq_I g (x + 12) u ∧ cq_I g (x + 12) u < 141) (n2_ : 1 ≤ cq_I g x 2) (L : LQ x u g gq) (eT_ : eT x gq g') (e : exT x g g') (re : RE x g' (upF (fR x g) 19 (21 * u + (cq_I g (x + 16) u + 1)) (cq_I g x 2))) (dr : drT x g' (cq_I g x 2) (cq_I g x 10) (dO (cq_J g (x + 1) u) (cq_I g (x + 12) u))) (e10 : cq_I g' x 10 = cq_I g x 10 + 1) (o10 : 0 ≤ cq_I g x 10) : ∃ kd', TX c x nt n T Lf dom sd rt ct dp kd' m' h' g' := by
  have l20 := (F.fu u hu.1 hu.2).l20
  have gI : ∀ o j, 1 ≤ o → o ≤ 65 → o ∉ tL → ¬ ((o = 12 ∨ o = 16) ∧ j = u) → cq_I g' (x + o) j = cq_I g (x + o) j := fun o j w1 _ w2 w3 => by rw [eT_.fI w1 w2, L.I_ o j w1 w3]
  have gJ : ∀ o j, 1 ≤ o → o ∉ tL → ¬ ((o = 20 ∨ o = 21 ∨ o = 22) ∧ j = u) → ¬ ((o = 17 ∨ o = 18) ∧ j = 21 * u + (cq_I g (x + 16) u + 1)) → cq_J g' (x + o) j = cq_J g (x + o) j := fun o j w1 w2 w3 w4 => by rw [eT_.fJ w1 w2, L.J_ o j w1 w3 w4]
  have g16 : cq_I g' (x + 16) u = cq_I g (x + 16) u + 1 := by rw [eT_.fI (by decide) (by decide), L.i16]
  have j18 : cq_J g' (x + 18) (21 * u + (cq_I g (x + 16) u + 1)) = dO (cq_J g (x + 1) u) (cq_I g (x + 12) u) := by rw [eT_.fJ (by decide) (by decide), L.j18]
  have rr : ∀ o j, o ∈ tR → ¬ (o = 19 ∧ j = 21 * u + (cq_I g (x + 16) u + 1)) → cq_I g' (x + o) j = cq_I g (x + o) j := fun o j w1 w2 => by
    rw [re o w1 j]
    exact if_neg w2
  have r19 : cq_I g' (x + 19) (21 * u + (cq_I g (x + 16) u + 1)) = cq_I g x 2 := by
    rw [re 19 (by decide)]
    exact if_pos ⟨rfl, rfl⟩
  obtain ⟨d, d1, d2, _, d3⟩ := (F'.fu u hu.1 hu.2).lk (cq_I g (x + 16) u + 1) (by omega) (by rw [L.i16]; omega)
  rw [L.j18] at d3
  have k1 : ∀ k, cq_I g x 10 ≤ k → k < cq_I g' x 10 → k = cq_I g x 10 := fun k k0 k1 => by omega
  obtain ⟨N, O⟩ := zNO Fr A C U e (fun k k0 k1' => by
    rw [k1 k k0 k1']
    exact ⟨u, cq_I g (x + 12) u, d, ⟨hu, Int.le_refl _, d12.1, d12.2⟩, dr.2.2.1, ⟨d2, d3⟩, by rw [dr.2.2.2]; exact dr.1, by rw [dr.2.2.2]; exact Int.le_refl _⟩) (fun k k' k0 k1' l0 l1 _ => by rw [k1 k k0 k1', k1 k' l0 l1])
  have B := X.b
  have lt := dr.1.1.2
  have K : zKd kd (fun t => if t = cq_I g x 2 then 3 else kd t) (cq_I g x 2) (cq_I g' x 2) := ⟨fun t z => if_neg (by omega), fun t z => by
    show (if t = cq_I g x 2 then 3 else kd t) = 0
    rw [if_neg (by omega)]
    exact Classical.byContradiction fun y => by have := B.k2 t y; omega⟩
  have hk := K.k B
  have B' := B.ext C0 C hC hc W N O hk (fun t z => Or.inl (by
    by_cases y : t = cq_I g x 2
    · rw [if_pos y] at z
      exact absurd z (by decide)
    · rw [if_neg y] at z
      exact z)) K.tt hm
  have z19 := dr_zS o10 dr
  refine ⟨_, X.gen F C0 C he B' N (by rw [if_neg (by omega)]; exact X.kz) ⟨fun o j w => ?_, fun j => Or.inl (gI 30 j (by decide) (by decide) (by decide) (by omega))⟩ (by rw [eT_.xI (by decide) (by decide) (by decide), L.x_]) (fun l => rr 64 l (by decide) (by omega)) (fun u' u0 u1 q => ?_) (fun u' u0 u1 q => ?_) (fun u' k u0 u1 k0 k1 => ?_) (fun u' k u0 u1 k0 k1 => ?_)⟩
  · rcases w with w | w | w | w | w | w | w | w | w | w <;> rw [w]
    · exact gI 29 j (by decide) (by decide) (by decide) (by omega)
    · exact gI 40 j (by decide) (by decide) (by decide) (by omega)
    · exact gI 41 j (by decide) (by decide) (by decide) (by omega)
    · exact rr 48 j (by decide) (by omega)
    · exact rr 50 j (by decide) (by omega)
    · exact rr 51 j (by decide) (by omega)
    · exact rr 52 j (by decide) (by omega)
    · exact gI 53 j (by decide) (by decide) (by decide) (by omega)
    · exact gI 55 j (by decide) (by decide) (by decide) (by omega)
    · exact rr 57 j (by decide) (by omega)
  · rw [gI 11 u' (by decide) (by decide) (by decide) (by omega)] at q
    have ne : u' ≠ u := fun z => by rw [z] at q; exact hU q
    obtain ⟨y1, y2, y3⟩ := X.n0 u' u0 u1 q
    refine ⟨?_, ?_, fun v v0 v1 => ?_⟩
    · rw [gI 16 u' (by decide) (by decide) (by decide) (by omega)]; exact y1
    · rw [gI 23 u' (by decide) (by decide) (by decide) (by omega)]; exact y2
    · rw [gI 30 _ (by decide) (by decide) (by decide) (by omega)]; exact y3 v v0 v1
  · rw [gI 11 u' (by decide) (by decide) (by decide) (by omega)] at q
    exact X.old1 F N hk u0 u1 q (gJ 14 u' (by decide) (by decide) (by omega) (by omega)) (rr 15 u' (by decide) (by omega))
  · by_cases z : u' = u ∧ k = cq_I g (x + 16) u + 1
    · rw [z.1, z.2, j18, r19]
      exact ⟨z19, if_pos rfl⟩
    · have l20' := (F.fu u' u0 u1).l20
      have k1' : k ≤ cq_I g (x + 16) u' := by
        by_cases y : u' = u
        · rw [y, g16] at k1
          rw [y]
          omega
        · rw [gI 16 u' (by decide) (by decide) (by decide) (by omega)] at k1
          exact k1
      refine X.old2 F N hk u0 u1 k0 k1' (gJ 18 _ (by decide) (by decide) (by omega) (fun y => z ?_)) (rr 19 _ (by decide) (fun y => z ?_))
      · omega
      · omega
  · rw [gI 23 u' (by decide) (by decide) (by decide) (by omega)] at k1
    exact X.old3 F N hk u0 u1 k0 k1 (gJ 25 _ (by decide) (by decide) (by omega) (by omega)) (rr 26 _ (by decide) (by omega))
end
