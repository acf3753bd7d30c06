/-! turns and terms: begin and write -/
section
variable {c x nt : Nat} {n : Int} {T Lf T' Lf' : Int → Nat} {dom sd dom' sd' : Nat → Prop} {rt ct rt' ct' : Nat → Int} {dp dp' : Nat → Nat} {kd kd' : Int → Nat} {m m' : Nat} {h g h' g' : cx_Q} {E E0 : Nat → Option Int} {pe : Int → Nat} {ro : Int → Int → Nat} {pa lb tp rd en op ob : Nat}
theorem nq_cs {r : Nat} {w s : Int} (F : FO x r w T h g) (Q : NQ x w s g g') (hs : s = m_slotN g x w) : (4 * w ≤ s ∧ s < 4 * w + 4) ∧ ∀ i, 0 ≤ i → i < cq_I g' (x + 30) w → (i = 0 ∧ cq_I g' (x + 29) (4 * w + i) = s) ∨ (0 < i ∧ cq_I g' (x + 29) (4 * w + i) = cq_I g (x + 29) (4 * w + (i - 1)) ∧ cq_I g (x + 29) (4 * w + (i - 1)) ≠ s ∧ i - 1 < cq_I g (x + 30) w) := by
  have r4 := F.r4
  obtain ⟨q1, q2, q3⟩ := slot_q F.r4 F.sl
  rw [← hs] at q1 q2 q3
  have rm := F.rm
  have g30 := Q.r30
  have rr : 1 ≤ rw1 (cq_I g (x + 30) w) ∧ rw1 (cq_I g (x + 30) w) ≤ 4 ∧ rw1 (cq_I g (x + 30) w) ≤ cq_I g (x + 30) w + 1 := by unfold rw1; split <;> omega
  have ne : ∀ i, 0 < i → i < rw1 (cq_I g (x + 30) w) → cq_I g (x + 29) (4 * w + (i - 1)) ≠ s := by
    intro i i0 i1
    by_cases w4 : cq_I g (x + 30) w = 4
    · rw [q3 w4]
      exact F.di (i - 1) 3 (by omega) (by omega) (by omega)
    · exact q2 (by omega) (i - 1) (by omega) (by omega)
  refine ⟨q1, fun i i0 i1 => ?_⟩
  rw [g30] at i1
  have := Q.r29 i i0 i1
  by_cases w0 : i = 0
  · rw [if_pos w0] at this
    exact Or.inl ⟨w0, this⟩
  · rw [if_neg w0] at this
    exact Or.inr ⟨by omega, this, ne i (by omega) i1, by omega⟩
/-- SESSIONS, where one more is in a row -/
theorem q_new (F : FX c x n pe ro pa lb tp rd en op ob T Lf h g) {P : Nat → Int → Prop} {u v sl : Int} {a : Nat} (hu : 0 ≤ u ∧ u < n) (hv : 0 ≤ v ∧ v < n) (hs : sl = m_slotN g x (6 * u + v)) (Q : NQ x (6 * u + v) sl g g') (r29 : ∀ j, ¬ (4 * (6 * u + v) ≤ j ∧ j < 4 * (6 * u + v) + 4) → cq_I g' (x + 29) j = cq_I g (x + 29) j) (r30 : ∀ j, j ≠ 6 * u + v → cq_I g' (x + 30) j = cq_I g (x + 30) j) (eT' : T' = fun q => if q = sl then a else T q) (new : P a sl) (old : ∀ u' v' i, 0 ≤ u' → u' < n → 0 ≤ v' → v' < n → 0 ≤ i → i < cq_I g (x + 30) (6 * u' + v') → cq_I g (x + 29) (4 * (6 * u' + v') + i) ≠ sl → P (T (cq_I g (x + 29) (4 * (6 * u' + v') + i))) (cq_I g (x + 29) (4 * (6 * u' + v') + i))) : ∀ u' v' i, 0 ≤ u' → u' < n → 0 ≤ v' → v' < n → 0 ≤ i → i < cq_I g' (x + 30) (6 * u' + v') → P (T' (cq_I g' (x + 29) (4 * (6 * u' + v') + i))) (cq_I g' (x + 29) (4 * (6 * u' + v') + i)) := by
  intro u' v' i u0 u1 v0 v1 i0 i1
  have n6 := F.n26
  have tn : ∀ {s : Int}, s ≠ sl → T' s = T s := fun {s} w => by rw [eT']; exact if_neg w
  have ts : T' sl = a := by rw [eT']; exact if_pos rfl
  obtain ⟨q1, cs⟩ := nq_cs (F.fo u v hu.1 hu.2 hv.1 hv.2) Q hs
  by_cases z : u' = u ∧ v' = v
  · rw [z.1, z.2] at i1 ⊢
    rcases cs i i0 i1 with ⟨e1, e2⟩ | ⟨e1, e2, e3, e4⟩
    · rw [e2, ts]
      exact new
    · rw [e2, tn e3]
      exact old u v (i - 1) hu.1 hu.2 hv.1 hv.2 (by omega) e4 e3
  · have nw : 6 * u' + v' ≠ 6 * u + v := fun y => z ⟨by omega, by omega⟩
    rw [r30 _ nw] at i1
    have fo := F.fo u' v' u0 u1 v0 v1
    have r4 := fo.r4
    have sl' := fo.sl i i0 i1
    rw [r29 _ (by omega), tn (by omega)]
    exact old u' v' i u0 u1 v0 v1 i0 i1 (by omega)
/-- put together -/
theorem TX.asm (X : TX c x nt n T Lf dom sd rt ct dp kd m h g) (F : FX c x n pe ro pa lb tp rd en op ob T Lf h g) (B' : TB c x nt dom' sd' rt' ct' dp' kd' m' h' g') (N : zN x h h' g g') (hk : ∀ t, kd t ≠ 0 → kd' t = kd t) (kz : kd' 0 = 0) (rI : ∀ o j, o = 11 ∨ o = 15 ∨ o = 16 ∨ o = 19 ∨ o = 23 ∨ o = 26 → cq_I g' (x + o) j = cq_I g (x + o) j) (rJ : ∀ o j, o = 14 ∨ o = 18 ∨ o = 25 → cq_J g' (x + o) j = cq_J g (x + o) j) (r30 : ∀ u v, 0 ≤ u → u < n → 0 ≤ v → v < n → cq_I g (x + 11) u = 0 → cq_I g' (x + 30) (6 * u + v) = cq_I g (x + 30) (6 * u + v)) (q1 : ∀ u v i, 0 ≤ u → u < n → 0 ≤ v → v < n → 0 ≤ i → i < cq_I g' (x + 30) (6 * u + v) → zR x nt dom' sd' rt' ct' h' g' (T' (cq_I g' (x + 29) (4 * (6 * u + v) + i))) (cq_I g' (x + 29) (4 * (6 * u + v) + i))) (l1 : ∀ l, 0 ≤ l → l < cq_I g' x 72 → zL x sd' ct' h' g' (Lf' l) l) : TX c x nt n T' Lf' dom' sd' rt' ct' dp' kd' m' h' g' := by
  refine ⟨B', kz, fun u u0 u1 q => ?_, fun u u0 u1 q => ?_, fun u k u0 u1 k0 k1 => ?_, fun u k u0 u1 k0 k1 => ?_, q1, l1⟩
  · rw [rI 11 u (by omega)] at q
    rw [rI 16 u (by omega), rI 23 u (by omega)]
    obtain ⟨y1, y2, y3⟩ := X.n0 u u0 u1 q
    exact ⟨y1, y2, fun v v0 v1 => by rw [r30 u v u0 u1 v0 v1 q]; exact y3 v v0 v1⟩
  · rw [rI 11 u (by omega)] at q
    exact X.old1 F N hk u0 u1 q (rJ 14 u (by omega)) (rI 15 u (by omega))
  · rw [rI 16 u (by omega)] at k1
    exact X.old2 F N hk u0 u1 k0 k1 (rJ 18 _ (by omega)) (rI 19 _ (by omega))
  · rw [rI 23 u (by omega)] at k1
    exact X.old3 F N hk u0 u1 k0 k1 (rJ 25 _ (by omega)) (rI 26 _ (by omega))
end
/-- what the reference's rows are when a SESSION was BEGUN -/
def BQ (x : Nat) (u v sl : Int) (g g' : cx_Q) : Prop := (cq_I g' x 72 = cq_I g x 72) ∧ (∀ o j, 1 ≤ o → o ≠ 12 → o ≠ 27 → ¬ (o = 30 ∧ j = 6 * u + v) → ¬ (o = 29 ∧ 4 * (6 * u + v) ≤ j ∧ j < 4 * (6 * u + v) + 4) → ¬ (((31 ≤ o ∧ o ≤ 47) ∨ o = 53) ∧ j = sl) → cq_I g' (x + o) j = cq_I g (x + o) j) ∧ (∀ o j, 1 ≤ o → ¬ ((31 ≤ o ∧ o ≤ 47) ∧ j = sl) → cq_J g' (x + o) j = cq_J g (x + o) j) ∧ (NQ x (6 * u + v) sl g g') ∧ (cq_I g' (x + 40) sl = 0) ∧ (cq_I g' (x + 53) sl = 0)
theorem BQ.x72 {x : Nat} {u v sl : Int} {g g' : cx_Q} (F_ : BQ x u v sl g g') : cq_I g' x 72 = cq_I g x 72 := F_.1
theorem BQ.I_ {x : Nat} {u v sl : Int} {g g' : cx_Q} (F_ : BQ x u v sl g g') : ∀ o j, 1 ≤ o → o ≠ 12 → o ≠ 27 → ¬ (o = 30 ∧ j = 6 * u + v) → ¬ (o = 29 ∧ 4 * (6 * u + v) ≤ j ∧ j < 4 * (6 * u + v) + 4) → ¬ (((31 ≤ o ∧ o ≤ 47) ∨ o = 53) ∧ j = sl) → cq_I g' (x + o) j = cq_I g (x + o) j := F_.2.1
theorem BQ.J_ {x : Nat} {u v sl : Int} {g g' : cx_Q} (F_ : BQ x u v sl g g') : ∀ o j, 1 ≤ o → ¬ ((31 ≤ o ∧ o ≤ 47) ∧ j = sl) → cq_J g' (x + o) j = cq_J g (x + o) j := F_.2.2.1
theorem BQ.nq {x : Nat} {u v sl : Int} {g g' : cx_Q} (F_ : BQ x u v sl g g') : NQ x (6 * u + v) sl g g' := F_.2.2.2.1
theorem BQ.i40 {x : Nat} {u v sl : Int} {g g' : cx_Q} (F_ : BQ x u v sl g g') : cq_I g' (x + 40) sl = 0 := F_.2.2.2.2.1
theorem BQ.i53 {x : Nat} {u v sl : Int} {g g' : cx_Q} (F_ : BQ x u v sl g g') : cq_I g' (x + 53) sl = 0 := F_.2.2.2.2.2
theorem begin_q {x : Nat} {u v : Int} {g : cx_Q} (r4 : 0 ≤ cq_I g (x + 30) (6 * u + v) ∧ cq_I g (x + 30) (6 * u + v) ≤ 4) : BQ x u v (m_slotN (m_bnC g x u v) x (6 * u + v)) g (m_begin g x u v) ∧ m_slotN (m_bnC g x u v) x (6 * u + v) = m_slotN g x (6 * u + v) := by
  have Q0 := bn0_q (x := x) (g := g) (v := v)
  have D0 := draw_q (x := x) (u := u) (g := cq_sI (m_bn0 g x v) x 63 (cq_I g x 63 + 1))
  have eI : ∀ o j, 1 ≤ o → o ≠ 12 → o ≠ 27 → cq_I (m_bnC g x u v) (x + o) j = cq_I g (x + o) j := fun o j w1 w2 w3 => by
    unfold m_bnC
    rw [D0.I_ o j w1 (fun z => w2 z.1), mm_sI, if_neg (fun z => by omega), Q0.I_ o j w1 (fun z => w3 z.1)]
  have eJ : ∀ o j, 1 ≤ o → cq_J (m_bnC g x u v) (x + o) j = cq_J g (x + o) j := fun o j w1 => by
    unfold m_bnC
    rw [D0.J_ o j w1, mm_JI, Q0.J_ o j]
  have ex : cq_I (m_bnC g x u v) x 72 = cq_I g x 72 := by
    unfold m_bnC
    rw [D0.x_, mm_sI, if_neg (fun z => absurd z.2 (by decide)), Q0.x_]
  have esl : m_slotN (m_bnC g x u v) x (6 * u + v) = m_slotN g x (6 * u + v) := slot_c (funext fun j => eI 29 j (by decide) (by decide) (by decide)) (funext fun j => eI 30 j (by decide) (by decide) (by decide))
  have B := bn2_q (x := x) (g := m_bnC g x u v) (u := u) (v := v) (k := m_leastOnce g x v) (R := m_bnR (m_bnC g x u v) x u v (m_leastOnce g x v) (cq_J g (x + 20) v)) (ot := cq_J g (x + 20) v) (eO := cq_J (m_bnC g x u v) x 32) (by rw [eI 30 _ (by decide) (by decide) (by decide)]; exact r4)
  have em : m_begin g x u v = m_bn2 (m_bnC g x u v) x u v (m_leastOnce g x v) (m_bnR (m_bnC g x u v) x u v (m_leastOnce g x v) (cq_J g (x + 20) v)) (cq_J g (x + 20) v) (cq_J (m_bnC g x u v) x 32) := by
    unfold m_begin
    rfl
  rw [em]
  refine ⟨⟨by rw [B.x_, ex], fun o j w1 w2 w3 w4 w5 w6 => by rw [B.I_ o j w1 (fun z => w2 z.1) w4 w5 w6, eI o j w1 w2 w3], fun o j w1 w2 => by rw [B.J_ o j w1 w2, eJ o j w1], ⟨?_, fun i i0 i1 => ?_⟩, B.i40, B.i53⟩, esl⟩
  · rw [B.nq.r30, eI 30 _ (by decide) (by decide) (by decide)]
  · rw [B.nq.r29 i i0 (by rw [eI 30 _ (by decide) (by decide) (by decide)]; exact i1), eI 29 _ (by decide) (by decide) (by decide)]
theorem BQ.eT {x : Nat} {u v sl : Int} {g g1 g' : cx_Q} (B : BQ x u v sl g g1) (e : eT x g1 g') : cq_I g' x 72 = cq_I g x 72 ∧ (∀ o j, 1 ≤ o → o ∉ tL → o ≠ 12 → o ≠ 27 → ¬ (o = 30 ∧ j = 6 * u + v) → ¬ (o = 29 ∧ 4 * (6 * u + v) ≤ j ∧ j < 4 * (6 * u + v) + 4) → ¬ (((31 ≤ o ∧ o ≤ 47) ∨ o = 53) ∧ j = sl) → cq_I g' (x + o) j = cq_I g (x + o) j) ∧ (∀ o j, 1 ≤ o → o ∉ tL → ¬ ((31 ≤ o ∧ o ≤ 47) ∧ j = sl) → cq_J g' (x + o) j = cq_J g (x + o) j) ∧ NQ x (6 * u + v) sl g g' ∧ cq_I g' (x + 40) sl = 0 ∧ cq_I g' (x + 53) sl = 0 := by
  refine ⟨by rw [e.xI (by decide) (by decide) (by decide), B.x72], fun o j w1 w w2 w3 w4 w5 w6 => by rw [e.fI w1 w, B.I_ o j w1 w2 w3 w4 w5 w6], fun o j w1 w w2 => by rw [e.fJ w1 w, B.J_ o j w1 w2], ⟨?_, fun i i0 i1 => ?_⟩, by rw [e.fI (by decide) (by decide), B.i40], by rw [e.fI (by decide) (by decide), B.i53]⟩
  · rw [e.fI (by decide) (by decide), B.nq.r30]
  · rw [e.fI (by decide) (by decide), B.nq.r29 i i0 i1]
