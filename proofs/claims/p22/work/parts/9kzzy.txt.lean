/-! turns and terms: a chain is TURNED, twice -/
section
variable {c x nt : Nat} {n : Int} {T Lf T' Lf' : Int → Nat} {dom sd dom0 : Nat → Prop} {rt ct rt0 ct0 : Nat → Int} {dp dp0 : Nat → Nat} {kd kd0 : Int → Nat} {m m0 : Nat} {h g h' g' : cx_Q} {E E0 : Nat → Option Int} {pe : Int → Nat} {ro : Int → Int → Nat} {pa lb tp rd en op ob : Nat}
theorem turnB (B0 : TB c x nt dom0 sd rt0 ct0 dp0 kd0 m0 h g) (N : zN x h h' g g') (B1 : TB c x nt dom sd rt ct dp kd m h' g') (C1 : CT c E h' [] h') (e10 : cq_I g' x 10 = cq_I g x 10 + 1) (kz : kd 0 = 0) {b q q2 t w : Nat} {o : Option Nat} {hv : Int64} {tO T_ tC tQ tC2 tQ2 : Int} (db : dom b) (nb : nt < b) (bd : dp b + 2 ≤ m) (v1 : zV x h' g' (some w) tO) (hso : (o = none ∧ ∀ w, cq_s h w = 6 → cq_J h w 1 ≠ hv) ∨ ∃ w, o = some w ∧ cq_s h' w = 6 ∧ cq_J h' w 1 = hv ∧ ∀ k, cq_I g x 10 ≤ k → k < cq_I g' x 10 → cq_J g' (x + 9) k ≠ hv) (w1 : tw h h' b (some w) o q) (w2 : tq h h' q (some t) o q2) (nq : cq_s h q2 = 99) (st : cq_s h' t = 6) (vT : zS x g' (cq_J h' t 1) T_) (kT : kd T_ = 5) (oT : cq_I g' (x + 10) (cq_I g x 10) = T_) (lT : cq_I g x 2 ≤ T_) (dm : ∀ a, dom a → cq_s h a = 8 ∨ a = b) (od : ∀ a, dom a → rt a < cq_I g x 2 ∨ cq_I g' (x + 2) (rt a) = 3) (ob : ∀ a r', sd a → cq_A h' a 1 = some r' → cq_A h' r' 0 ≠ some t) (uq : ∀ (r : Nat) (k t2 : Int), cq_A h' q 0 = some b → cq_s h' q = 8 → cq_A h' q 1 = some r → cq_z h' r = 2 → (∀ w', o = some w' → (cq_A h' r 0 = some w ∧ cq_A h' r 1 = o) ∨ (cq_A h' r 0 = o ∧ cq_A h' r 1 = some w)) → zV x h' g' o t2 → cmT x g' k tO t2 → tmT x g' tQ 4 (rt b) k 0 0 → ∀ a, sd a → rt a = tQ → a = q) (tn1 : tnT x g' (cq_I g x 10) tO (rt b) hv tC tQ) (tn2 : tnT x g' (cq_I g x 10 + 1) T_ tQ hv tC2 tQ2) : ∃ dom' sd' rt' ct' dp' r2, TB c x nt dom' sd' rt' ct' dp' kd m h' g' ∧ zE dom sd rt ct dom' sd' rt' ct' ∧ (dom' q ∧ cq_A h' q 0 ≠ some nt ∧ ct' q = tC) ∧ sd' q2 ∧ rt' q2 = tQ2 ∧ ct' q2 = tC2 ∧ cq_A h' q2 1 = some r2 ∧ cq_A h' r2 0 = some t := by
  have e := N.1
  obtain ⟨q_, k, s1, ck, hC1, hR1⟩ := tn1
  have v2 := B0.so_v N hso s1.2
  obtain ⟨sq, e0, r, e1, sr, zr, alt⟩ := w1
  have bq : b < q := C1.bl sq e0
  have uq' := uq r k q_ e0 sq e1 zr (fun w' ew => by
    rcases alt with ⟨_, y⟩ | ⟨_, _, y⟩
    · exact Or.inl y
    · exact y) v2 ck hR1
  obtain ⟨dom2, rt2, ct2, dp2, B2, Z2, sub2, dq, rq, cq_, dpq⟩ := B1.getQ (q := q) (b := b) (r := r) (o1 := some w) (o2 := o) nb bq sq e0 db e1 sr zr (alt.imp (fun y => ⟨fun dq => by
    rcases dm q dq with z | z
    · rw [y.1] at z
      exact absurd z (by decide)
    · omega, y.2⟩) (fun y => y)) v1 v2 ck hR1 hC1 uq' (by omega)
  obtain ⟨q2_, k2, s2, ck2, hC2, hR2⟩ := tn2
  have p2 : zP x h' g' kd (some t) o k2 := by
    refine ⟨T_, q2_, Or.inr ⟨t, rfl, st, vT⟩, ck2, ?_⟩
    rcases B0.so_p N ⟨by omega, by omega⟩ hso s2.2 with y | ⟨y1, k', y2, y3, y4⟩
    · exact Or.inl y
    · have ek : k' = cq_I g x 10 := by omega
      rw [ek, oT] at y4
      exact Or.inr ⟨y1, Option.some_ne_none _, Or.inl y4.symm⟩
  obtain ⟨ss, es0, r2, es1, sr2, zr2, alt2⟩ := w2
  rcases alt2 with ⟨_, a0, a1⟩ | ⟨y, _⟩
  rotate_left
  · rw [nq] at y
    exact absurd y (by decide)
  have qq2 : q < q2 := C1.bl ss es0
  obtain ⟨dom', sd', rt', ct', dp', B3, Z3, _, ds, er, ec⟩ := B2.getS (s := q2) (b := q) (r := r2) (t := t) (o2 := o) (T := T_) (k := k2) (tR := tQ2) (tC := tC2) (lo := cq_I g x 2) (by omega) qq2 ss (fun y => by
    rcases sub2 q2 y with z | z
    · rcases dm q2 z with z | z
      · rw [nq] at z
        exact absurd z (by decide)
      · omega
    · omega) es0 dq es1 sr2 zr2 a0 a1 st vT kT p2 (by rw [rq]; exact hR2) (by rw [rq]; exact hC2) kz lT (fun t' z1 z2 z3 => by have := zG_lt e z2 z3; omega) (fun a da ne => by
    rcases sub2 a da with z | z
    · rw [(Z2.1 a z).2.1]
      exact od a z
    · exact absurd z ne) ob (fun rb z1 _ => by
    rw [e0] at z1
    have := Option.some.inj z1
    omega) (by omega)
  have d3 := Z3.1 q dq
  exact ⟨dom', sd', rt', ct', dp', r2, B3, Z2.trans Z3, ⟨d3.1, fun z => by rw [e0] at z; have := Option.some.inj z; omega, d3.2.2.trans cq_⟩, ds, er, ec, es1, a0⟩
end
