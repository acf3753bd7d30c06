/-! turns and terms: a letter is opened behind a TURN -/
section
variable {c x nt : Nat} {n : Int} {T Lf T' Lf' : Int → Nat} {dom sd dom' sd' : Nat → Prop} {rt ct rt' ct' : Nat → Int} {dp dp' : Nat → Nat} {kd kd' : Int → Nat} {m m' : Nat} {h g h' g' : cx_Q} {E E0 : Nat → Option Int} {pe : Int → Nat} {ro : Int → Int → Nat} {pa lb tp rd en op ob : Nat}
/-- one number is drawn: its term, its kind -/
theorem TX.draw1 (X : TX c x nt n T Lf dom sd rt ct dp kd m h g) (C0 : CT c E0 h [] h) (C : CT c E h [] h') (hC : E c = none) (hc : cq_s h c = 9) (W : TW x g') (U : ∀ w w', cq_s h' w = 6 → cq_s h' w' = 6 → cq_J h' w 1 = cq_J h' w' 1 → w = w') (Fr : zFr x n h g) (A : zAA x n g) (hm : m ≤ m') {u : Int} (hu : 0 ≤ u ∧ u < n) (d12 : 0 ≤ cq_I g (x + 12) u ∧ cq_I g (x + 12) u < 141) (n2_ : 1 ≤ cq_I g x 2) (e : exT x g g') (e10 : cq_I g' x 10 = cq_I g x 10 + 1) {T_ : Int} {t : Nat} (st : cq_s h' t = 6 ∧ cq_J h' t 1 = dO (cq_J g (x + 1) u) (cq_I g (x + 12) u)) (dr : drT x g' T_ (cq_I g x 10) (dO (cq_J g (x + 1) u) (cq_I g (x + 12) u))) (lT : cq_I g x 2 ≤ T_) : ∃ kd', TB c x nt dom sd rt ct dp kd' m' h' g' ∧ zN x h h' g g' ∧ (∀ t, kd t ≠ 0 → kd' t = kd t) ∧ kd' 0 = 0 ∧ kd' T_ = 5 ∧ ∀ q, kd' q = 1 → kd q = 1 := by
  have B := X.b
  have k1 : ∀ k, cq_I g x 10 ≤ k → k < cq_I g' x 10 → k = cq_I g x 10 := fun k k0 k1 => by omega
  obtain ⟨N, O⟩ := zNO Fr A C U e (fun k k0 k1' => by
    rw [k1 k k0 k1']
    exact ⟨u, cq_I g (x + 12) u, t, ⟨hu, Int.le_refl _, d12.1, d12.2⟩, dr.2.2.1, st, by rw [dr.2.2.2]; exact dr.1, by rw [dr.2.2.2]; exact lT⟩) (fun k k' k0 k1' l0 l1 _ => by rw [k1 k k0 k1', k1 k' l0 l1])
  have lt := dr.1.1.2
  obtain ⟨kd', hkd⟩ : ∃ f : Int → Nat, f = fun q => if q = T_ then 5 else kd q := ⟨_, rfl⟩
  have kT : kd' T_ = 5 := by rw [hkd]; exact if_pos rfl
  have kO : ∀ q, q ≠ T_ → kd' q = kd q := fun q y => by
    rw [hkd]
    exact if_neg y
  have K : zKd kd kd' (cq_I g x 2) (cq_I g' x 2) := ⟨fun q z => kO q (by omega), fun q z => by
    rw [kO q (by omega)]
    exact Classical.byContradiction fun y => by have := B.k2 q y; omega⟩
  have hk := K.k B
  have k1' : ∀ q, kd' q = 1 → kd q = 1 := fun q z => by
    by_cases y : q = T_
    · rw [y, kT] at z
      exact absurd z (by decide)
    · rw [kO q y] at z
      exact z
  have B' := B.ext C0 C hC hc W N O hk (fun q z => Or.inl (k1' q z)) K.tt hm
  exact ⟨kd', B', N, hk, by rw [kO 0 (by omega)]; exact X.kz, kT, k1'⟩
/-- no SENDING turn is of a SECRET that was not there -/
theorem TB.obn (B : TB c x nt dom sd rt ct dp kd m h g) (C0 : CT c E0 h [] h) (C : CT c E h [] h') {t : Nat} (nt_ : cq_s h t = 99) : ∀ a r', sd a → cq_A h' a 1 = some r' → cq_A h' r' 0 ≠ some t := fun a r' sa z y => by
  have c3 := C.2.2.1
  have c4 := C.2.2.2.1
  have f14 := C0.2.2.2.2.2.2.2.2.2.2.2.2.2.1
  obtain ⟨da, r, b, e1, ⟨w, _, e2, sw, _⟩, _⟩ := B.t3 a sa
  have s8 := (B.t1 a da).1
  rw [(c3 a 1 s8).1 (by decide), e1] at z
  have er := Option.some.inj z
  rw [← er, c4 r 0 (f14 a r s8 List.not_mem_nil e1), e2] at y
  rw [Option.some.inj y, nt_] at sw
  exact absurd sw (by decide)
theorem TX.op3 (X : TX c x nt n T Lf dom sd rt ct dp kd m h g) (F : FX c x n pe ro pa lb tp rd en op ob T Lf h g) (C0 : CT c E0 h [] h) (C : CT c E h [] h') (hC : E c = none) (hc : cq_s h c = 9) (he1 : ∀ d, cq_s h d = 1 → E d = none) (W : TW x g') (U : ∀ w w', cq_s h' w = 6 → cq_s h' w' = 6 → cq_J h' w 1 = cq_J h' w' 1 → w = w') (Fr : zFr x n h g) (A : zAA x n g) (hm : m + 2 ≤ m') {u v i s V : Int} (hu : 0 ≤ u ∧ u < n) (hv : 0 ≤ v ∧ v < n) (d12 : 0 ≤ cq_I g (x + 12) u ∧ cq_I g (x + 12) u < 141) (n2_ : 1 ≤ cq_I g x 2) (o10 : 0 ≤ cq_I g x 10) (hi : 0 ≤ i ∧ i < cq_I g (x + 30) (6 * u + v)) (es : s = cq_I g (x + 29) (4 * (6 * u + v) + i)) (r41 : 0 ≤ cq_I g (x + 41) s) {g1 : cx_Q} {F_ F0 F1 F2 F' : Nat → Int → Int} (hF : RE x g F_) {T_ tC tQ tC2 tQ2 t3 k0 k1 : Int} {hv_ : Int64} {C_ R1 X2 V_ O_ : Int64} (e72 : cq_I g1 x 72 = cq_I g x 72) (eT_ : eT x (cq_sI (m_front g1 x (6 * u + v) i) x 84 V) g') (e : exT x g g') (e10 : cq_I g' x 10 = cq_I g x 10 + 1) (re : RE x g' F') (f : FRM x s u 1 g g1) (e7 : ∀ d, cq_s h d = 7 → d ≠ T s → cq_A h' d = cq_A h d) (k00 : 0 ≤ k0 ∧ 0 ≤ k1) (kr : 0 < k0 → cq_I g (x + 35) s ≠ 0) (kl : cq_I g (x + 53) s + k0 + k1 ≤ 20) (ok : OK3 x s k0 k1 hv_ C_ R1 X2 V_ O_ g g1) (kp : kpF x g' F_ F0 s (cq_I g (x + 53) s) k0.toNat) (tn1 : tnT x g' (cq_I g x 10) (F0 52 s) (F0 48 s) hv_ tC tQ) (dr : drT x g' T_ (cq_I g x 10) (dO (cq_J g (x + 1) u) (cq_I g (x + 12) u))) (lT : cq_I g x 2 ≤ T_) (tn2 : tnT x g' (cq_I g x 10 + 1) T_ tQ hv_ tC2 tQ2) (eF1 : F1 = upF (upF (upF (upF (upF F0 51 s tC) 48 s tQ) 52 s T_) 50 s tC2) 48 s tQ2) (kp' : kpF x g' F1 F2 s (cq_I g (x + 53) s + k0) k1.toNat) (tm : tmT x g' t3 6 (F2 51 s) 0 0 0) (eF' : F' = upF F2 51 s t3) {q q2 t r w : Nat} {o : Option Nat} (so : soT h hv_ o) (ar : cq_A h (T s) 7 = some r ∧ cq_A h (T s) 12 = some w) (an : cq_A h' (T s) 7 = some q2 ∧ cq_A h' (T s) 9 = some q2 ∧ cq_A h' (T s) 11 = some q ∧ cq_A h' (T s) 12 = some t) (w1 : tq h h' r (some w) o q) (w2 : tq h h' q (some t) o q2) (nq : cq_s h q2 = 99) (st : cq_s h t = 99 ∧ cq_s h' t = 6 ∧ cq_J h' t 1 = dO (cq_J g (x + 1) u) (cq_I g (x + 12) u)) (e4_ : e4 h h' (T s + 5) (kpG (kpG (cq_A h (T s + 5)) (cq_I g (x + 53) s) k0 (fun _ => cq_A h (T s) 11)) (cq_I g (x + 53) s + k0) k1 (fun _ => some q))) : ∃ dom' sd' rt' ct' dp' kd', TX c x nt n T Lf dom' sd' rt' ct' dp' kd' m' h' g' := by
  have fo := F.fo u v hu.1 hu.2 hv.1 hv.2
  have r4 := fo.r4
  have sr := fo.ss i hi.1 hi.2
  rw [← es] at sr
  have k20 := sr.k20
  have hr := sr.hr
  have zr := X.q1 u v i hu.1 hu.2 hv.1 hv.2 hi.1 hi.2
  rw [← es] at zr
  obtain ⟨⟨S, rS_, wS, p1, p2, p3, p4, p5, p6, p7, p8, p9, p10⟩, zq, ⟨z1, z2, z3, z4⟩, m1, m2, m3⟩ := zr
  have B := X.b
  have er_ : r = S := Option.some.inj (ar.1.symm.trans p1)
  have ew_ : w = wS := Option.some.inj (ar.2.symm.trans p6)
  rw [er_] at w1
  rw [ew_] at w1
  obtain ⟨Q, oI⟩ := PMQ.mk1 (w := 6 * u + v) (i := i) (by omega) f e72 eT_
  obtain ⟨kd', B1, N, hk, kz, kT, _⟩ := X.draw1 C0 C hC hc W U Fr A (by omega : m ≤ m') hu d12 n2_ e e10 st.2 dr lT
  have C1 : CT c E h' [] h' := C.an
  have c1 := C.1
  have c3 := C.2.2.1
  have c4 := C.2.2.2.1
  have f14 := C0.2.2.2.2.2.2.2.2.2.2.2.2.2.1
  have s_ : ∀ {d k : Nat}, cq_s h d = k → k ≠ 99 → cq_s h' d = k := fun {d k} y z => (c1 d (by rw [y]; exact z)).1.trans y
  have dS := (B.t3 S p3).1
  have s8 := (B.t1 S dS).1
  obtain ⟨kp1, kp2, kp3⟩ := kp
  obtain ⟨kq1, kq2, kq3⟩ := kp'
  have f51 := hF 51 (by decide) s
  rw [← f51] at kp2 kp3
  have kt0 : (k0.toNat : Int) = k0 := by omega
  have kt1 : (k1.toNat : Int) = k1 := by omega
  have f52 : F0 52 s = cq_I g (x + 52) s := (kp1 52 s (by omega) (by omega)).trans (hF 52 (by decide) s).symm
  have f48 : F0 48 s = rt S := ((kp1 48 s (by omega) (by omega)).trans (hF 48 (by decide) s).symm).trans p4
  rw [f52, f48] at tn1
  have v1 : zV x h' g' (some wS) (cq_I g (x + 52) s) := N.v (Or.inr ⟨wS, rfl, p9, p10⟩)
  have k5 : kd (cq_I g (x + 52) s) = 5 := by
    obtain ⟨_, r', b', y1, ⟨w', t', y2, y3, y4, y5⟩, _⟩ := B.t3 S p3
    rw [p7] at y1
    rw [← Option.some.inj y1, p8] at y2
    rw [← Option.some.inj y2] at y4
    rw [B.sfun p10 y4]
    exact y5
  have k5' : kd' (cq_I g (x + 52) s) = 5 := by rw [hk _ (by rw [k5]; decide)]; exact k5
  have zT : zS x g' (cq_J h' t 1) T_ := by rw [st.2.2]; exact dr_zS o10 dr
  have nS := B.ntl C0 m S dS (B.d1 S dS)
  obtain ⟨dom', sd', rt', ct', dp', r2, B', Z, ⟨dq1, dq2, dq3⟩, ds, er, ec, es1, es2⟩ := turnB (b := S) (q := q) (q2 := q2) (t := t) (w := wS) (o := o) B N B1 C1 e10 kz dS nS (by have := B.d1 S dS; omega) v1 (so.p N) (w1.tw id) w2 nq st.2.1 zT kT dr.2.2.2 lT (fun a da => Or.inl (B.t1 a da).1) (fun a da => Or.inl (B.rlt da)) (B.obn C0 C st.1) (fun r' k t2 y0 y1 y2 y3 y4 y5 y6 y7 => B1.uqS C1 p3 y0 y1 y2 y3 y4 ⟨rS_, by rw [(c3 S 1 s8).1 (by decide)]; exact p7, by rw [c4 rS_ 0 (f14 S rS_ s8 List.not_mem_nil p7)]; exact p8⟩ v1 k5' kz y5 y6 y7) tn1 tn2
  have g51 : F1 51 s = tC := by
    rw [eF1]
    unfold upF
    rw [if_neg (by omega), if_neg (by omega), if_neg (by omega), if_neg (by omega), if_pos ⟨rfl, rfl⟩]
  have g57 : ∀ j, F1 57 j = F0 57 j := fun j => by
    rw [eF1]
    unfold upF
    rw [if_neg (by omega), if_neg (by omega), if_neg (by omega), if_neg (by omega), if_neg (by omega)]
  have gO : ∀ o j, ¬ ((o = 48 ∨ o = 50 ∨ o = 51 ∨ o = 52) ∧ j = s) → F1 o j = F0 o j := fun o j y => by
    rw [eF1]
    unfold upF
    rw [if_neg (by omega), if_neg (by omega), if_neg (by omega), if_neg (by omega), if_neg (by omega)]
  have rN : ∀ o j, o ∈ tR → ¬ (o = 51 ∧ j = s) → ¬ (o = 57 ∧ 20 * s + (cq_I g (x + 53) s + k0) ≤ j ∧ j < 20 * s + (cq_I g (x + 53) s + k0) + k1) → cq_I g' (x + o) j = F1 o j := fun o j y1 y2 y3 => by
    rw [re o y1 j, eF']
    unfold upF
    rw [if_neg y2]
    exact kq1 o j y2 (by rw [kt1]; exact y3)
  have r48 : cq_I g' (x + 48) s = tQ2 := by
    rw [rN 48 s (by decide) (by omega) (by omega), eF1]
    exact if_pos ⟨rfl, rfl⟩
  have r50 : cq_I g' (x + 50) s = tC2 := by
    rw [rN 50 s (by decide) (by omega) (by omega), eF1]
    unfold upF
    rw [if_neg (by omega), if_pos ⟨rfl, rfl⟩]
  have r52 : cq_I g' (x + 52) s = T_ := by
    rw [rN 52 s (by decide) (by omega) (by omega), eF1]
    unfold upF
    rw [if_neg (by omega), if_neg (by omega), if_pos ⟨rfl, rfl⟩]
  have r51 : cq_I g' (x + 51) s = t3 := by
    rw [re 51 (by decide), eF']
    exact if_pos ⟨rfl, rfl⟩
  have rr : ∀ o j, o ∈ tR → ¬ ((o = 48 ∨ o = 50 ∨ o = 51 ∨ o = 52) ∧ j = s) → ¬ (o = 57 ∧ 20 * s + cq_I g (x + 53) s ≤ j ∧ j < 20 * s + 20) → cq_I g' (x + o) j = cq_I g (x + o) j := fun o j y1 y2 y3 => by
    rw [rN o j y1 (by omega) (by omega), gO o j y2]
    exact (kp1 o j (by omega) (by omega)).trans (hF o y1 j).symm
  rw [g51] at kq2 kq3
  have e5 : ∀ j, cq_A h' (T s + 5) j = if cq_I g (x + 53) s + k0 ≤ j ∧ j < cq_I g (x + 53) s + k0 + k1 then some q else if cq_I g (x + 53) s ≤ j ∧ j < cq_I g (x + 53) s + k0 then cq_A h (T s) 11 else cq_A h (T s + 5) j := fun j => by
    rw [e4_ _ z3, if_pos rfl]
    rfl
  have c18 := C.2.2.2.2.2.2.2.2.2.2.2.2.2.2.2.2.2.1
  have e13 := c18 _ 3 1 z2 (Or.inr (Or.inr ⟨rfl, rfl⟩)) (he1 _ z2)
  refine ⟨dom', sd', rt', ct', dp', kd', X.opA F C0 C he1 B' Z N hk kz hu hv hi es Q (fun o j y1 y2 y3 y4 => rr o j y1 y2 (by omega)) e7 (fun d sd_ nd => by rw [e4_ d sd_, if_neg nd]) ?_⟩
  refine zR.op3 (q := q) (q2 := q2) (r2 := r2) (t := t) (k0 := k0) (k1 := k1) B C Z N (e13.trans z1) ⟨s_ m1 (by decide), s_ z2 (by decide), s_ z3 (by decide)⟩ k00 k20.1 r41 an ds (er.trans r48.symm) (ec.trans r50.symm) ?_ es1 es2 st.2.1 (by rw [r52]; exact zT) ⟨dq1, dq2⟩ ?_ ?_ ?_ z4 (fun y => ?_) (fun j j0 j1 => ?_) (fun j j0 j1 => ?_) (fun j j0 j1 => ?_) (fun o j y j0 j1 => ?_) (fun j j0 j1 => ⟨?_, ?_⟩) (fun j j0 j1 => ⟨?_, ?_⟩) (by rw [Q.x72]; have := F.l80; omega)
  · rw [oI 40 s (by decide) (by decide) (by decide)]
    exact ok.i40
  · rw [oI 41 s (by decide) (by decide) (by decide)]
    exact ok.i41
  · rw [dq3, r51]
    exact ⟨_, kq2, tm⟩
  · rw [oI 53 s (by decide) (by decide) (by decide)]
    exact ok.i53
  · have rc := kr y
    cases y' : cq_A h (T s) 11 with
    | none => exact absurd (hr.mp y') rc
    | some R =>
      obtain ⟨y1, y2, y3⟩ := zq R y'
      exact ⟨R, rfl, y1, y2, y3⟩
  · rw [e5, if_neg (by omega), if_neg (by omega)]
  · rw [e5, if_neg (by omega), if_pos ⟨by omega, by omega⟩]
  · rw [e5, if_pos ⟨by omega, by omega⟩]
  · rcases y with y | y <;> rw [y]
    · rw [oI 55 _ (by decide) (by decide) (by decide)]
      exact (ok.k_ j j0 j1).2.1
    · exact rr 57 _ (by decide) (by omega) (by omega)
  · rw [oI 55 _ (by decide) (by decide) (by decide)]
    exact (ok.m_ j j0 j1).2.1
  · have := kp3 j.toNat (by omega)
    have ej : 20 * s + cq_I g (x + 53) s + (j.toNat : Int) = 20 * s + (cq_I g (x + 53) s + j) := by omega
    rw [ej] at this
    rw [rN 57 _ (by decide) (by omega) (by omega), g57]
    exact this
  · rw [oI 55 _ (by decide) (by decide) (by decide)]
    exact (ok.n_ j j0 j1).2.1
  · have := kq3 j.toNat (by omega)
    have ej : 20 * s + (cq_I g (x + 53) s + k0) + (j.toNat : Int) = 20 * s + (cq_I g (x + 53) s + k0 + j) := by omega
    rw [ej] at this
    rw [dq3, re 57 (by decide), eF']
    unfold upF
    rw [if_neg (by omega)]
    exact this
end
