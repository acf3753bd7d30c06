/-! turns and terms: a first letter makes a SESSION: its turns -/
section
variable {c x nt : Nat} {n : Int} {T Lf T' Lf' : Int → Nat} {dom sd dom' sd' : Nat → Prop} {rt ct rt' ct' : Nat → Int} {dp dp' : Nat → Nat} {kd kd' : Int → Nat} {m m' : Nat} {h g h' g' : cx_Q} {E E0 : Nat → Option Int} {pe : Int → Nat} {ro : Int → Int → Nat} {pa lb tp rd en op ob : Nat}
theorem TX.nwB (X : TX c x nt n T Lf dom sd rt ct dp kd m h g) (F : FX c x n pe ro pa lb tp rd en op ob T Lf h g) (C0 : CT c E0 h [] h) (C : CT c E h [] h') (hC : E c = none) (hc : cq_s h c = 9) (W : TW x g') (U : ∀ w w', cq_s h' w = 6 → cq_s h' w' = 6 → cq_J h' w 1 = cq_J h' w' 1 → w = w') (Fr : zFr x n h g) (A : zAA x n g) (hm : m ≤ m') (hm3 : 3 ≤ m') {u : Int} (hu : 0 ≤ u ∧ u < n) (hU : cq_I g (x + 11) u ≠ 0) (d12 : 0 ≤ cq_I g (x + 12) u ∧ cq_I g (x + 12) u < 141) (n2_ : 1 ≤ cq_I g x 2) (o10 : 0 ≤ cq_I g x 10) {ln on_ : Int} (hln : 1 ≤ ln ∧ ln ≤ cq_I g (x + 16) u) (hon : 0 ≤ on_ ∧ on_ ≤ cq_I g (x + 23) u) {who e_ : Int64} {d : Nat} {oc : Option Nat} (hd : cq_A h (pe u + 1) ln = some d) (hoc : (oc = none ↔ on_ = 0) ∧ (on_ ≠ 0 → oc = cq_A h (pe u + 2) on_)) (e : exT x g g') (e10 : cq_I g' x 10 = cq_I g x 10 + 1) {f q q2 t di nt' : Nat} {oa oe o : Option Nat} (hnt : cq_A h c 14 = some nt') (hdi : cq_A h (pe u) 3 = some di) (sa : soN h h' t who oa) (se : soN h h' t e_ oe) (so : soN h h' t (cq_J g x 79) o) (fp : fpw h h' nt' f oa (some di) oe (some d) oc) (w1 : tw h h' f (some d) o q) (w2 : tq h h' q (some t) o q2) (nq : cq_s h q2 = 99) (st : cq_s h t = 99 ∧ cq_s h' t = 6 ∧ cq_J h' t 1 = dO (cq_J g (x + 1) u) (cq_I g (x + 12) u)) {T_ tF tC tQ tC2 tQ2 : Int} (fn : fnT x g' (cq_I g x 10) (cq_I g (x + 19) (21 * u + ln)) (cq_I g (x + 15) u) (cq_I g (x + 26) (61 * u + on_)) who e_ on_ tF) (tn1 : tnT x g' (cq_I g x 10) (cq_I g (x + 19) (21 * u + ln)) tF (cq_J g x 79) tC tQ) (dr : drT x g' T_ (cq_I g x 10) (dO (cq_J g (x + 1) u) (cq_I g (x + 12) u))) (lT : cq_I g x 2 ≤ T_) (tn2 : tnT x g' (cq_I g x 10 + 1) T_ tQ (cq_J g x 79) tC2 tQ2) : ∃ dom' sd' rt' ct' dp' kd' r2, TB c x nt dom' sd' rt' ct' dp' kd' m' h' g' ∧ zE dom sd rt ct dom' sd' rt' ct' ∧ zN x h h' g g' ∧ (∀ t, kd t ≠ 0 → kd' t = kd t) ∧ kd' 0 = 0 ∧ (dom' q ∧ cq_A h' q 0 ≠ some nt ∧ ct' q = tC) ∧ sd' q2 ∧ rt' q2 = tQ2 ∧ ct' q2 = tC2 ∧ cq_A h' q2 1 = some r2 ∧ cq_A h' r2 0 = some t ∧ zS x g' (cq_J h' t 1) T_ := by
  have B := X.b
  have en_ : nt' = nt := Option.some.inj (hnt.symm.trans B.t0.1)
  rw [en_] at fp
  obtain ⟨kd', B1, N, hk, kz, kT, _⟩ := X.draw1 C0 C hC hc W U Fr A hm hu d12 n2_ e e10 st.2 dr lT
  have C1 : CT c E h' [] h' := C.an
  have hn : ∀ k, cq_I g x 10 ≤ k → k < cq_I g' x 10 → cq_J g' (x + 9) k = cq_J h' t 1 := fun k k0 k1 => by
    have ek : k = cq_I g x 10 := by omega
    rw [ek, st.2.2]
    exact dr.2.2.1
  have pa_ := sa.p U st.2.1 hn
  have pe_ := se.p U st.2.1 hn
  have po_ := so.p U st.2.1 hn
  obtain ⟨wi, ei, ta, tb, tc, td, f1, f2, ca, cb, cc, cd, hF⟩ := fn
  have v0 := B.so_v N pa_ f1.2
  have v2 := B.so_v N pe_ f2.2
  -- IDENTITY, LENT, ONCE
  have fu := F.fu u hu.1 hu.2
  obtain ⟨zI, kI⟩ := X.n1 u hu.1 hu.2 hU
  obtain ⟨zL_, kL⟩ := X.n2 u ln hu.1 hu.2 hln.1 hln.2
  obtain ⟨di', i1, i2, _, i3, _⟩ := fu.n1 hU
  have edi : di' = di := Option.some.inj (i1.symm.trans hdi)
  rw [edi] at i2 i3
  rw [← i3] at zI
  obtain ⟨d', l1, l2, _, l3⟩ := fu.lk ln hln.1 hln.2
  have ed : d' = d := Option.some.inj (l1.symm.trans hd)
  rw [ed] at l2 l3
  rw [← l3] at zL_
  have v1 : zV x h' g' (some di) (cq_I g (x + 15) u) := N.v (Or.inr ⟨di, rfl, i2, zI⟩)
  have v3 : zV x h' g' (some d) (cq_I g (x + 19) (21 * u + ln)) := N.v (Or.inr ⟨d, rfl, l2, zL_⟩)
  have v4 : oc ≠ none → zV x h' g' oc (cq_I g (x + 26) (61 * u + on_)) ∧ kd (cq_I g (x + 26) (61 * u + on_)) = 4 := fun z => by
    have o0 : on_ ≠ 0 := fun y => z (hoc.1.mpr y)
    obtain ⟨dc, c1, c2, _, c3⟩ := fu.ok on_ (by omega) hon.2
    obtain ⟨zO_, kO⟩ := X.n3 u on_ hu.1 hu.2 (by omega) hon.2
    rw [← c3] at zO_
    rw [hoc.2 o0, c1]
    exact ⟨N.v (Or.inr ⟨dc, rfl, c2, zO_⟩), kO⟩
  have cd' : (oc = none ∧ td = 0) ∨ (oc ≠ none ∧ cmT x g' td (cq_I g (x + 26) (61 * u + on_)) ei) := by
    rcases cd with ⟨y1, y2⟩ | ⟨y1, y2⟩
    · exact Or.inl ⟨hoc.1.mpr y1, y2⟩
    · exact Or.inr ⟨fun z => y1 (hoc.1.mp z), y2⟩
  have kI' : kd' (cq_I g (x + 15) u) = 2 := by rw [hk _ (by rw [kI]; decide)]; exact kI
  have kL' : kd' (cq_I g (x + 19) (21 * u + ln)) = 3 := by rw [hk _ (by rw [kL]; decide)]; exact kL
  have kO' : oc ≠ none → kd' (cq_I g (x + 26) (61 * u + on_)) = 4 := fun z => by
    have := (v4 z).2
    rw [hk _ (by rw [this]; decide)]
    exact this
  -- the first turn
  obtain ⟨sf, ef0, rf, ef1, srf, alt⟩ := fp
  have ltf : nt < f := C1.bl sf ef0
  have fm : FPm h' rf oa (some di) oe (some d) oc := by
    rcases alt with ⟨_, y⟩ | ⟨p, y1, y2⟩
    · exact y.m
    · exact (y1.mt y2).1
  have dn : dom f → oa ≠ none ∧ oe ≠ none ∧ (some d : Option Nat) ≠ none ∧ (some di : Option Nat) ≠ none := fun df => by
    rcases alt with ⟨y, _⟩ | ⟨p, y1, y2⟩
    · rw [(B.t1 f df).1] at y
      exact absurd y (by decide)
    · exact (y1.mt y2).2
  obtain ⟨dom1, rt1, dp1, B2, Z2, sub2, df, rf_, df1⟩ := B1.getF (f := f) (r := rf) ltf sf ef0 ef1 srf fm dn v0 v1 v2 v3 (fun z => (v4 z).1) ca cb cc cd' hF (by omega)
  rw [← rf_] at tn1 hF
  have zT : zS x g' (cq_J h' t 1) T_ := by rw [st.2.2]; exact dr_zS o10 dr
  obtain ⟨dom', sd', rt', ct', dp', r2, B', Z, dq, ds, er, ec, es1, es2⟩ := turnB (b := f) (q := q) (q2 := q2) (t := t) (w := d) (o := o) B N B2 C1 e10 kz df ltf (by omega) v3 po_ w1 w2 nq st.2.1 zT kT dr.2.2.2 lT (fun a da => by
    rcases sub2 a da with y | y
    · exact Or.inl (B.t1 a y).1
    · exact Or.inr y) (fun a da => by
    rcases sub2 a da with y | y
    · rw [(Z2.1 a y).2.1]
      exact Or.inl (B.rlt y)
    · rw [y]
      exact Or.inr hF.2.1) (B.obn C0 C st.1) (fun r' k t2 y0 y1 y2 y3 y4 y5 y6 y7 => B2.uqF C1 df ef0 ef1 fm v0 v1 v2 v3 (fun z => (v4 z).1) kI' kL' kO' kz ca cb cc cd' hF y0 y1 y2 y3 y4 y5 y6 y7) tn1 tn2
  exact ⟨dom', sd', rt', ct', dp', kd', r2, B', Z2.trans Z, N, hk, kz, dq, ds, er, ec, es1, es2, zT⟩
end
