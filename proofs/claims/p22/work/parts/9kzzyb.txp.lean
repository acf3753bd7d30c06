/-! turns and terms: a letter is opened in a SESSION -/
/-- the reference's rows: the i-th SESSION of row w comes first, all but the SESSION s are as they were -/
def PMQ (x : Nat) (w i s : Int) (g g' : cx_Q) : Prop := (cq_I g' x 72 = cq_I g x 72) ∧ (∀ o j, 1 ≤ o → o ≤ 64 → o ∉ tL → o ≠ 12 → ¬ inS s o j → ¬ (o = 29 ∧ 4 * w ≤ j ∧ j < 4 * w + 4) → cq_I g' (x + o) j = cq_I g (x + o) j) ∧ (∀ o j, 1 ≤ o → o ≤ 65 → o ∉ tL → ¬ inS s o j → cq_J g' (x + o) j = cq_J g (x + o) j) ∧ (∀ k, 0 ≤ k → k < 4 → cq_I g' (x + 29) (4 * w + k) = cq_I g (x + 29) (4 * w + pm i k))
theorem PMQ.x72 {x : Nat} {w i s : Int} {g g' : cx_Q} (F_ : PMQ x w i s g g') : cq_I g' x 72 = cq_I g x 72 := F_.1
theorem PMQ.I_ {x : Nat} {w i s : Int} {g g' : cx_Q} (F_ : PMQ x w i s g g') : ∀ o j, 1 ≤ o → o ≤ 64 → o ∉ tL → o ≠ 12 → ¬ inS s o j → ¬ (o = 29 ∧ 4 * w ≤ j ∧ j < 4 * w + 4) → cq_I g' (x + o) j = cq_I g (x + o) j := F_.2.1
theorem PMQ.J_ {x : Nat} {w i s : Int} {g g' : cx_Q} (F_ : PMQ x w i s g g') : ∀ o j, 1 ≤ o → o ≤ 65 → o ∉ tL → ¬ inS s o j → cq_J g' (x + o) j = cq_J g (x + o) j := F_.2.2.1
theorem PMQ.p_ {x : Nat} {w i s : Int} {g g' : cx_Q} (F_ : PMQ x w i s g g') : ∀ k, 0 ≤ k → k < 4 → cq_I g' (x + 29) (4 * w + k) = cq_I g (x + 29) (4 * w + pm i k) := F_.2.2.2
theorem PMQ.mk1 {x : Nat} {w i s u d V : Int} {g g1 g' : cx_Q} (hi : 0 ≤ i ∧ i < 4) (f : FRM x s u d g g1) (e72 : cq_I g1 x 72 = cq_I g x 72) (e : eT x (cq_sI (m_front g1 x w i) x 84 V) g') : PMQ x w i s g g' ∧ (∀ o j, 1 ≤ o → o ∉ tL → o ≠ 29 → cq_I g' (x + o) j = cq_I g1 (x + o) j) := by
  obtain ⟨f1, f2, f3⟩ := front_q (x := x) (g := g1) (w := w) (i := i) hi
  have oI : ∀ o j, 1 ≤ o → o ∉ tL → cq_I g' (x + o) j = cq_I (m_front g1 x w i) (x + o) j := fun o j w1 w2 => by rw [e.fI w1 w2, mm_sI, if_neg (by omega)]
  refine ⟨⟨?_, fun o j w1 w2 w3 w4 w5 w6 => ?_, fun o j w1 w2 w3 w4 => ?_, fun k k0 k1 => ?_⟩, fun o j w1 w2 w3 => ?_⟩
  · rw [e.xI (by decide) (by decide) (by decide), mm_sI, if_neg (by omega), f2 _ _ (by omega), e72]
  · rw [oI o j w1 w3, f2 _ _ (by omega)]
    exact f.I_ o j w1 (by omega) w3 w5 (by omega) (by omega)
  · rw [e.fJ w1 w3, mm_JI, f3]
    exact f.J_ o j w1 w2 w3 w4
  · rw [oI 29 _ (by decide) (by decide), f1 k k0 k1]
    have : 0 ≤ pm i k := by unfold pm; split; exact hi.1; split <;> omega
    exact f.I_ 29 _ (by decide) (by decide) (by decide) (by unfold inS; omega) (by decide) (by omega)
  · rw [oI o j w1 w2, f2 _ _ (by omega)]
section
variable {c x nt : Nat} {n : Int} {T Lf T' Lf' : Int → Nat} {dom sd dom' sd' : Nat → Prop} {rt ct rt' ct' : Nat → Int} {dp dp' : Nat → Nat} {kd kd' : Int → Nat} {m m' : Nat} {h g h' g' : cx_Q} {E E0 : Nat → Option Int} {pe : Int → Nat} {ro : Int → Int → Nat} {pa lb tp rd en op ob : Nat}
/-- a ROOT's term is an old one -/
theorem TB.rlt (B : TB c x nt dom sd rt ct dp kd m h g) {a : Nat} (da : dom a) : rt a < cq_I g x 2 := by
  obtain ⟨_, _, b, r, _, _, _, y⟩ := B.t1 a da
  rcases y with ⟨_, _, _, _, _, _, _, _, _, _, y⟩ | ⟨_, _, _, _, _, y, _⟩
  · exact y.1.2
  · exact y.1.2
/-- the other SESSIONS and the letters, where one SESSION opened a letter -/
theorem TX.opA (X : TX c x nt n T Lf dom sd rt ct dp kd m h g) (F : FX c x n pe ro pa lb tp rd en op ob T Lf h g) (C0 : CT c E0 h [] h) (C : CT c E h [] h') (he1 : ∀ d, cq_s h d = 1 → E d = none) (B' : TB c x nt dom' sd' rt' ct' dp' kd' m' h' g') (Z : zE dom sd rt ct dom' sd' rt' ct') (N : zN x h h' g g') (hk : ∀ t, kd t ≠ 0 → kd' t = kd t) (kz : kd' 0 = 0) {u v i s : Int} (hu : 0 ≤ u ∧ u < n) (hv : 0 ≤ v ∧ v < n) (hi : 0 ≤ i ∧ i < cq_I g (x + 30) (6 * u + v)) (es : s = cq_I g (x + 29) (4 * (6 * u + v) + i)) (Q : PMQ x (6 * u + v) i s g g') (rr : ∀ o j, o ∈ tR → ¬ ((o = 48 ∨ o = 50 ∨ o = 51 ∨ o = 52) ∧ j = s) → ¬ (o = 57 ∧ 20 * s ≤ j ∧ j < 20 * s + 20) → o ≠ 49 → cq_I g' (x + o) j = cq_I g (x + o) j) (e7 : ∀ d, cq_s h d = 7 → d ≠ T s → cq_A h' d = cq_A h d) (e174 : ∀ d, cq_s h d = 174 → d ≠ T s + 5 → cq_A h' d = cq_A h d) (new : zR x nt dom' sd' rt' ct' h' g' (T s) s) : TX c x nt n T Lf dom' sd' rt' ct' dp' kd' m' h' g' := by
  have r4 := (F.fo u v hu.1 hu.2 hv.1 hv.2).r4
  have n6 := F.n26
  have g30 : ∀ j, cq_I g' (x + 30) j = cq_I g (x + 30) j := fun j => Q.I_ 30 j (by decide) (by decide) (by decide) (by decide) (by unfold inS; omega) (by omega)
  have c18 := C.2.2.2.2.2.2.2.2.2.2.2.2.2.2.2.2.2.1
  -- a SESSION that was there
  have old : ∀ u' v' i', 0 ≤ u' → u' < n → 0 ≤ v' → v' < n → 0 ≤ i' → i' < cq_I g (x + 30) (6 * u' + v') → zR x nt dom' sd' rt' ct' h' g' (T (cq_I g (x + 29) (4 * (6 * u' + v') + i'))) (cq_I g (x + 29) (4 * (6 * u' + v') + i')) := fun u' v' i' u0 u1 v0 v1 i0 i1 => by
    have Q' := X.q1 u' v' i' u0 u1 v0 v1 i0 i1
    have k20 := ((F.fo u' v' u0 u1 v0 v1).ss i' i0 i1).k20
    have ti := F.ti u v u' v' i i' hu.1 hu.2 hv.1 hv.2 u0 u1 v0 v1 hi.1 hi.2 i0 i1
    rw [← es] at ti
    by_cases z : cq_I g (x + 29) (4 * (6 * u' + v') + i') = s
    · rw [z]
      exact new
    · have tn : T s ≠ T (cq_I g (x + 29) (4 * (6 * u' + v') + i')) := ti (fun y => z (by rw [← y.1, ← y.2.1, ← y.2.2, ← es]))
      generalize cq_I g (x + 29) (4 * (6 * u' + v') + i') = s' at Q' k20 z tn ⊢
      have m1 := Q'.2.2.2.1
      have k2 := Q'.2.2.1.2.1
      have k3 := Q'.2.2.1.2.2.1
      refine Q'.fr X.b C0 C Z N (e7 _ m1 (fun y => tn y.symm)) (c18 _ 3 1 k2 (Or.inr (Or.inr ⟨rfl, rfl⟩)) (he1 _ k2)) (e174 _ k3 (by omega)) (fun o w => ?_) (fun o j w w1 w2 => ?_) (by rw [Q.x72]; exact Int.le_refl _)
      · rcases w with w | w | w | w | w | w | w <;> rw [w]
        · exact Q.I_ 40 _ (by decide) (by decide) (by decide) (by decide) (by unfold inS; omega) (by omega)
        · exact Q.I_ 41 _ (by decide) (by decide) (by decide) (by decide) (by unfold inS; omega) (by omega)
        · exact rr 48 _ (by decide) (by omega) (by omega) (by decide)
        · exact rr 50 _ (by decide) (by omega) (by omega) (by decide)
        · exact rr 51 _ (by decide) (by omega) (by omega) (by decide)
        · exact rr 52 _ (by decide) (by omega) (by omega) (by decide)
        · exact Q.I_ 53 _ (by decide) (by decide) (by decide) (by decide) (by unfold inS; omega) (by omega)
      · rcases w with w | w <;> rw [w]
        · exact Q.I_ 55 _ (by decide) (by decide) (by decide) (by decide) (by unfold inS; omega) (by omega)
        · exact rr 57 _ (by decide) (by omega) (by omega) (by decide)
  refine X.asm F B' N hk kz (fun o j w => ?_) (fun o j w => ?_) (fun u' v' _ _ _ _ _ => g30 _) (fun u' v' k u0 u1 v0 v1 k0 k1 => ?_) (fun l l0 l1 => ?_)
  · rcases w with w | w | w | w | w | w <;> rw [w]
    · exact Q.I_ 11 j (by decide) (by decide) (by decide) (by decide) (by unfold inS; omega) (by omega)
    · exact rr 15 j (by decide) (by omega) (by omega) (by decide)
    · exact Q.I_ 16 j (by decide) (by decide) (by decide) (by decide) (by unfold inS; omega) (by omega)
    · exact rr 19 j (by decide) (by omega) (by omega) (by decide)
    · exact Q.I_ 23 j (by decide) (by decide) (by decide) (by decide) (by unfold inS; omega) (by omega)
    · exact rr 26 j (by decide) (by omega) (by omega) (by decide)
  · rcases w with w | w | w <;> rw [w]
    · exact Q.J_ 14 j (by decide) (by decide) (by decide) (by unfold inS; omega)
    · exact Q.J_ 18 j (by decide) (by decide) (by decide) (by unfold inS; omega)
    · exact Q.J_ 25 j (by decide) (by decide) (by decide) (by unfold inS; omega)
  · rw [g30] at k1
    by_cases z : u' = u ∧ v' = v
    · rw [z.1, z.2] at k1 ⊢
      rw [Q.p_ k k0 (by omega)]
      have q := pm_rg hi ⟨k0, k1⟩
      exact old u v (pm i k) hu.1 hu.2 hv.1 hv.2 q.1 q.2
    · have fo := F.fo u' v' u0 u1 v0 v1
      have r4' := fo.r4
      have nw : 6 * u' + v' ≠ 6 * u + v := fun y => z ⟨by omega, by omega⟩
      rw [Q.I_ 29 _ (by decide) (by decide) (by decide) (by decide) (by unfold inS; omega) (by omega)]
      exact old u' v' k u0 u1 v0 v1 k0 k1
  · rw [Q.x72] at l1
    exact (X.l1 l l0 l1).fr X.b C Z N.1 (F.fl l l0 l1).2.s0 (rr 64 l (by decide) (by omega) (by omega) (by decide))
end
