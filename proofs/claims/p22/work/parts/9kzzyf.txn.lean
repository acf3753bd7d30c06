/-! turns and terms: a first letter makes a SESSION -/
/-- the reference's rows then -/
def NWQ (x : Nat) (u v sl : Int) (g g' : cx_Q) : Prop := (cq_I g' x 72 = cq_I g x 72) ∧ (∀ o j, 1 ≤ o → o ≤ 57 → o ∉ tL → o ≠ 12 → o ≠ 28 → ¬ (o = 30 ∧ j = 6 * u + v) → ¬ (o = 29 ∧ 4 * (6 * u + v) ≤ j ∧ j < 4 * (6 * u + v) + 4) → ¬ inS sl o j → cq_I g' (x + o) j = cq_I g (x + o) j) ∧ (∀ o j, 1 ≤ o → o ≤ 57 → o ∉ tL → ¬ inS sl o j → cq_J g' (x + o) j = cq_J g (x + o) j) ∧ (NQ x (6 * u + v) sl g g') ∧ (cq_I g' (x + 40) sl = 0) ∧ (cq_I g' (x + 41) sl = cq_I g x 81 + 1) ∧ (cq_I g' (x + 53) sl = cq_I g x 81) ∧ (∀ i, 0 ≤ i → i < cq_I g x 81 → cq_I g' (x + 55) (20 * sl + i) = i)
theorem NWQ.x72 {x : Nat} {u v sl : Int} {g g' : cx_Q} (F_ : NWQ x u v sl g g') : cq_I g' x 72 = cq_I g x 72 := F_.1
theorem NWQ.I_ {x : Nat} {u v sl : Int} {g g' : cx_Q} (F_ : NWQ x u v sl g g') : ∀ o j, 1 ≤ o → o ≤ 57 → o ∉ tL → o ≠ 12 → o ≠ 28 → ¬ (o = 30 ∧ j = 6 * u + v) → ¬ (o = 29 ∧ 4 * (6 * u + v) ≤ j ∧ j < 4 * (6 * u + v) + 4) → ¬ inS sl o j → cq_I g' (x + o) j = cq_I g (x + o) j := F_.2.1
theorem NWQ.J_ {x : Nat} {u v sl : Int} {g g' : cx_Q} (F_ : NWQ x u v sl g g') : ∀ o j, 1 ≤ o → o ≤ 57 → o ∉ tL → ¬ inS sl o j → cq_J g' (x + o) j = cq_J g (x + o) j := F_.2.2.1
theorem NWQ.nq {x : Nat} {u v sl : Int} {g g' : cx_Q} (F_ : NWQ x u v sl g g') : NQ x (6 * u + v) sl g g' := F_.2.2.2.1
theorem NWQ.i40 {x : Nat} {u v sl : Int} {g g' : cx_Q} (F_ : NWQ x u v sl g g') : cq_I g' (x + 40) sl = 0 := F_.2.2.2.2.1
theorem NWQ.i41 {x : Nat} {u v sl : Int} {g g' : cx_Q} (F_ : NWQ x u v sl g g') : cq_I g' (x + 41) sl = cq_I g x 81 + 1 := F_.2.2.2.2.2.1
theorem NWQ.i53 {x : Nat} {u v sl : Int} {g g' : cx_Q} (F_ : NWQ x u v sl g g') : cq_I g' (x + 53) sl = cq_I g x 81 := F_.2.2.2.2.2.2.1
theorem NWQ.n_ {x : Nat} {u v sl : Int} {g g' : cx_Q} (F_ : NWQ x u v sl g g') : ∀ i, 0 ≤ i → i < cq_I g x 81 → cq_I g' (x + 55) (20 * sl + i) = i := F_.2.2.2.2.2.2.2
theorem cfD_q {x : Nat} {u s ln on : Int} {e : Int64} {g : cx_Q} : (cq_I (m_cfD g x u s ln on e) x 72 = cq_I g x 72) ∧ (∀ o j, 1 ≤ o → o ≤ 57 → o ≠ 28 → ¬ (o = 43 ∧ j = s) → cq_I (m_cfD g x u s ln on e) (x + o) j = cq_I g (x + o) j) ∧ ∀ o j, 1 ≤ o → o ≤ 57 → cq_J (m_cfD g x u s ln on e) (x + o) j = cq_J g (x + o) j := by
  have n1 : (cq_I (m_cfN g x u s ln e) x 72 = cq_I g x 72) ∧ (∀ o j, 1 ≤ o → o ≤ 57 → ¬ (o = 43 ∧ j = s) → cq_I (m_cfN g x u s ln e) (x + o) j = cq_I g (x + o) j) ∧ ∀ o j, 1 ≤ o → o ≤ 57 → cq_J (m_cfN g x u s ln e) (x + o) j = cq_J g (x + o) j := by
    unfold m_cfN
    refine ⟨?_, fun o j w1 w2 w3 => ?_, fun o j w1 w2 => ?_⟩
    · rw [mm_sI, if_neg (by omega), mm_sI, if_neg (by omega), mm_IJ, mm_sI, if_neg (by omega), mm_sI, if_neg (by omega)]
    · rw [mm_sI, if_neg (by omega), mm_sI, if_neg (by omega), mm_IJ, mm_sI, if_neg (by omega), mm_sI, if_neg (by omega)]
    · rw [mm_JI, mm_JI, mm_sJ, if_neg (by omega), mm_JI, mm_JI]
  unfold m_cfD
  split
  · exact ⟨n1.1, fun o j w1 w2 _ w3 => n1.2.1 o j w1 w2 w3, n1.2.2⟩
  · refine ⟨?_, fun o j w1 w2 w4 w3 => ?_, fun o j w1 w2 => ?_⟩
    · rw [mm_sI, if_neg (by omega)]
      exact n1.1
    · rw [mm_sI, if_neg (by omega)]
      exact n1.2.1 o j w1 w2 w3
    · rw [mm_JI]
      exact n1.2.2 o j w1 w2
theorem NWQ.mk1 {x : Nat} {u v ln on V : Int} {e root : Int64} {g g' : cx_Q} (h4 : 0 ≤ cq_I g (x + 30) (6 * u + v) ∧ cq_I g (x + 30) (6 * u + v) ≤ 4) (h81 : 0 ≤ cq_I g x 81 ∧ cq_I g x 81 ≤ 10) (e_ : eT x (cq_sI (m_cfD (m_openQ (m_cfG g x u (6 * u + v) ln on e root) x u (m_slotN g x (6 * u + v))) x u (m_slotN g x (6 * u + v)) ln on e) x 84 V) g') : NWQ x u v (m_slotN g x (6 * u + v)) g g' := by
  have Q := cfG_q (u := u) (ln := ln) (on := on) (e := e) (root := root) h4
  have r4 : ∀ i, rw1 (cq_I g (x + 30) (6 * u + v)) ≤ 4 := fun _ => by unfold rw1; split <;> omega
  generalize m_slotN g x (6 * u + v) = sl at *
  generalize m_cfG g x u (6 * u + v) ln on e root = G at *
  obtain ⟨fr, rd, ok⟩ := cfG_Q Q h81
  generalize m_openQ G x u sl = g1 at *
  obtain ⟨d1, d2, d3⟩ := cfD_q (x := x) (u := u) (s := sl) (ln := ln) (on := on) (e := e) (g := g1)
  generalize m_cfD g1 x u sl ln on e = g2 at *
  have oI : ∀ o j, 1 ≤ o → o ≤ 57 → o ∉ tL → o ≠ 28 → ¬ (o = 43 ∧ j = sl) → cq_I g' (x + o) j = cq_I g1 (x + o) j := fun o j w1 w2 w3 w4 w5 => by rw [e_.fI w1 w3, mm_sI, if_neg (by omega), d2 o j w1 w2 w4 w5]
  have g53 : cq_I G (x + 53) sl = 0 := Q.i53
  refine ⟨?_, fun o j w1 w2 w3 w4 w5 w6 w7 w8 => ?_, fun o j w1 w2 w3 w4 => ?_, ⟨?_, fun i i0 i1 => ?_⟩, ?_, ?_, ?_, fun i i0 i1 => ?_⟩
  · rw [e_.xI (by decide) (by decide) (by decide), mm_sI, if_neg (by omega), d1]
    exact rd.x_ 72 (by decide)
  · rw [oI o j w1 w2 w3 w5 (fun z => w8 (by unfold inS; omega)), fr.I_ o j w1 (by omega) w3 w8 (by omega) (by omega)]
    exact Q.I_ o j w1 w6 w7 (fun z => w8 (Or.inl z))
  · rw [e_.fJ w1 w3, mm_JI, d3 o j w1 w2, fr.J_ o j w1 (by omega) w3 w4]
    exact Q.J_ o j w1 (fun z => w4 (Or.inl ⟨Or.inl z.1, z.2⟩))
  · rw [oI 30 _ (by decide) (by decide) (by decide) (by decide) (by omega), fr.I_ 30 _ (by decide) (by decide) (by decide) (by unfold inS; omega) (by decide) (by omega)]
    exact Q.nq.r30
  · rw [oI 29 _ (by decide) (by decide) (by decide) (by decide) (by omega), fr.I_ 29 _ (by decide) (by decide) (by decide) (by unfold inS; omega) (by decide) (by omega)]
    exact Q.nq.r29 i i0 i1
  · rw [oI 40 _ (by decide) (by decide) (by decide) (by decide) (by omega)]
    exact ok.i40
  · rw [oI 41 _ (by decide) (by decide) (by decide) (by decide) (by omega)]
    exact ok.i41
  · rw [oI 53 _ (by decide) (by decide) (by decide) (by decide) (by omega), ok.i53, g53]
    omega
  · rw [oI 55 _ (by decide) (by decide) (by decide) (by decide) (by omega)]
    have := (ok.n_ i i0 i1).2.1
    rw [g53] at this
    have ei : 20 * sl + (0 + 0 + i) = 20 * sl + i := by omega
    rw [ei] at this
    exact this
section
variable {c x nt : Nat} {n : Int} {T Lf T' Lf' : Int → Nat} {dom sd dom' sd' : Nat → Prop} {rt ct rt' ct' : Nat → Int} {dp dp' : Nat → Nat} {kd kd' : Int → Nat} {m m' : Nat} {h g h' g' : cx_Q} {E E0 : Nat → Option Int} {pe : Int → Nat} {ro : Int → Int → Nat} {pa lb tp rd en op ob : Nat}
/-- a SESSION that a first letter made -/
theorem zR.op4 {a q q2 r2 t : Nat} {s k1 : Int} (e1 : cq_A h' (a + 1) 3 = some (a + 5)) (sa : cq_s h' a = 7 ∧ cq_s h' (a + 1) = 1 ∧ cq_s h' (a + 5) = 174) (k00 : 0 ≤ k1) (a7 : cq_A h' a 7 = some q2 ∧ cq_A h' a 9 = some q2 ∧ cq_A h' a 11 = some q ∧ cq_A h' a 12 = some t) (ds : sd' q2) (er : rt' q2 = cq_I g' (x + 48) s) (ec : ct' q2 = cq_I g' (x + 50) s) (i40 : cq_I g' (x + 40) s = 0) (es1 : cq_A h' q2 1 = some r2) (es2 : cq_A h' r2 0 = some t) (st : cq_s h' t = 6) (vT : zS x g' (cq_J h' t 1) (cq_I g' (x + 52) s)) (dq : dom' q ∧ cq_A h' q 0 ≠ some nt) (i41 : cq_I g' (x + 41) s = k1 + 1) (n51 : nx x g' (ct' q) (k1.toNat + 1) (cq_I g' (x + 51) s)) (i53 : cq_I g' (x + 53) s = k1) (e5n : ∀ i, 0 ≤ i → i < k1 → cq_A h' (a + 5) i = some q) (eN : ∀ i, 0 ≤ i → i < k1 → cq_I g' (x + 55) (20 * s + i) = i ∧ kx x g' (ct' q) i.toNat (cq_I g' (x + 57) (20 * s + i))) (l72 : 0 ≤ cq_I g' x 72) : zR x nt dom' sd' rt' ct' h' g' a s := by
  obtain ⟨a7, a9, a11, a12⟩ := a7
  refine ⟨⟨q2, r2, t, a7, a9, ds, er.symm, ?_, a12, es1, es2, st, vT⟩, fun R z => ?_, ⟨e1, sa.2.1, sa.2.2, fun i i0 i1 => ?_⟩, sa.1, by omega, by omega⟩
  · have o0 : (cq_I g' (x + 40) s).toNat = 0 := by rw [i40]; rfl
    rw [o0, ec]
    exact rfl
  · rw [a11] at z
    rw [← Option.some.inj z]
    refine ⟨dq.1, dq.2, ?_⟩
    have en_ : (cq_I g' (x + 41) s).toNat = k1.toNat + 1 := by omega
    rw [en_]
    exact n51
  · rw [i53] at i1
    obtain ⟨w1, w2⟩ := eN i i0 i1
    refine ⟨q, e5n i i0 i1, dq.1, dq.2, by omega, ?_⟩
    rw [w1]
    exact w2
/-- what was told of a number where one was drawn -/
theorem soN.p {v : Int64} {o : Option Nat} {t : Nat} (U : ∀ w w', cq_s h' w = 6 → cq_s h' w' = 6 → cq_J h' w 1 = cq_J h' w' 1 → w = w') (st : cq_s h' t = 6) (hn : ∀ k, cq_I g x 10 ≤ k → k < cq_I g' x 10 → cq_J g' (x + 9) k = cq_J h' t 1) (p : soN h h' t v o) : (o = none ∧ ∀ w, cq_s h w = 6 → cq_J h w 1 ≠ v) ∨ ∃ w, o = some w ∧ cq_s h' w = 6 ∧ cq_J h' w 1 = v ∧ ∀ k, cq_I g x 10 ≤ k → k < cq_I g' x 10 → cq_J g' (x + 9) k ≠ v := by
  rcases p with p | ⟨w, p1, p2, p3, p4⟩
  · exact Or.inl p
  · exact Or.inr ⟨w, p1, p2, p3, fun k k0 k1 y => p4 (U w t p2 st (by rw [p3, ← hn k k0 k1, y]))⟩
end
