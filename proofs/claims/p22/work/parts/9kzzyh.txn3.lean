/-! turns and terms: a first letter makes a SESSION, whole; copy -/
section
variable {c x nt : Nat} {n : Int} {T Lf T' Lf' : Int → Nat} {dom sd dom' sd' : Nat → Prop} {rt ct rt' ct' : Nat → Int} {dp dp' : Nat → Nat} {kd kd' : Int → Nat} {m m' : Nat} {h g h' g' : cx_Q} {E E0 : Nat → Option Int} {pe : Int → Nat} {ro : Int → Int → Nat} {pa lb tp rd en op ob : Nat}
theorem TX.nw (X : TX c x nt n T Lf dom sd rt ct dp kd m h g) (F : FX c x n pe ro pa lb tp rd en op ob T Lf h g) (C0 : CT c E0 h [] h) (C : CT c E h [] h') (hC : E c = none) (hc : cq_s h c = 9) (he1 : ∀ d, cq_s h d = 1 → E d = none) (W : TW x g') (U : ∀ w w', cq_s h' w = 6 → cq_s h' w' = 6 → cq_J h' w 1 = cq_J h' w' 1 → w = w') (Fr : zFr x n h g) (A : zAA x n g) (hm : m ≤ m') (hm3 : 3 ≤ m') {u v V : Int} (hu : 0 ≤ u ∧ u < n) (hv : 0 ≤ v ∧ v < n) (hU : cq_I g (x + 11) u ≠ 0) (d12 : 0 ≤ cq_I g (x + 12) u ∧ cq_I g (x + 12) u < 141) (n2_ : 1 ≤ cq_I g x 2) (o10 : 0 ≤ cq_I g x 10) (h81 : 0 ≤ cq_I g x 81 ∧ cq_I g x 81 ≤ 10) {ln on_ : Int} (hln : 1 ≤ ln ∧ ln ≤ cq_I g (x + 16) u) (hon : 0 ≤ on_ ∧ on_ ≤ cq_I g (x + 23) u) {who e_ root : Int64} {a d : Nat} {oc : Option Nat} (eT' : T' = fun q => if q = m_slotN g x (6 * u + v) then a else T q) (ha : cq_s h a = 99) (hd : cq_A h (pe u + 1) ln = some d) (hoc : (oc = none ↔ on_ = 0) ∧ (on_ ≠ 0 → oc = cq_A h (pe u + 2) on_)) (N_ : NX c x pe u who e_ g a d oc h h') (eT_ : eT x (cq_sI (m_cfD (m_openQ (m_cfG g x u (6 * u + v) ln on_ e_ root) x u (m_slotN g x (6 * u + v))) x u (m_slotN g x (6 * u + v)) ln on_ e_) x 84 V) g') (e : exT x g g') {F_ F' : Nat → Int → Int} (hF : RE x g F_) {T_ tF : Int} (re : RE x g' F') (cf : cfE x g' (m_cfG g x u (6 * u + v) ln on_ e_ root) (cq_I g x 10) F_ F' u (m_slotN g x (6 * u + v)) (21 * u + ln) on_ who e_ T_ tF) (ow : owN x (m_cfG g x u (6 * u + v) ln on_ e_ root) (cq_I g x 10) (cq_I g' x 10) (cq_I g x 2) (m_slotN g x (6 * u + v)) T_) : ∃ dom' sd' rt' ct' dp' kd', TX c x nt n T' Lf dom' sd' rt' ct' dp' kd' m' h' g' := by
  have r4 := (F.fo u v hu.1 hu.2 hv.1 hv.2).r4
  have n6 := F.n26
  have l80 := F.l80
  have NQ_ := NWQ.mk1 r4 h81 eT_
  have GQ_ := cfG_q (x := x) (w := 6 * u + v) (g := g) (u := u) (ln := ln) (on := on_) (e := e_) (root := root) r4
  obtain ⟨v1, v2, v3, _⟩ := cfG_v GQ_
  have gd : dW x (m_cfG g x u (6 * u + v) ln on_ e_ root) u = dO (cq_J g (x + 1) u) (cq_I g (x + 12) u) := by
    have e1 : cq_J (m_cfG g x u (6 * u + v) ln on_ e_ root) (x + 1) u = cq_J g (x + 1) u := GQ_.J_ 1 u (by decide) (by omega)
    have e2 : cq_I (m_cfG g x u (6 * u + v) ln on_ e_ root) (x + 12) u = cq_I g (x + 12) u := GQ_.I_ 12 u (by decide) (by omega) (by omega) (by omega)
    rw [dW_eq e1 e2]
    rfl
  obtain ⟨fn, ow_⟩ := cf
  rw [← hF 19 (by decide), ← hF 15 (by decide), ← hF 26 (by decide)] at fn
  unfold owE at ow_
  obtain ⟨on1, _⟩ := ow
  have on2 := on1 ⟨by omega, by omega⟩
  rw [gd, GQ_.i35, GQ_.i53, GQ_.i41, GQ_.x_ 81, GQ_.x_ 80, GQ_.xJ 79, v2] at ow_
  clear eT_ gd on1
  have g_ := GQ_
  clear GQ_ g_
  have v1' : ¬ 0 ≤ m_keptAt (m_cfG g x u (6 * u + v) ln on_ e_ root) x (m_slotN g x (6 * u + v)) := by omega
  clear v1 v2 v3
  generalize esl_ : m_slotN g x (6 * u + v) = sl at *
  rcases ow_ with ⟨y, _⟩ | ⟨_, y⟩
  · exact absurd y v1'
  clear v1'
  generalize m_cfG g x u (6 * u + v) ln on_ e_ root = G at *
  rcases y with ⟨y, _⟩ | ⟨_, F0, F1, y, tC, tQ, tC2, tQ2, tn1, dr, tn2, eF1⟩
  · exact absurd y (by decide)
  rcases y with ⟨_, eF0, F2, t3, kp, tm, eF'⟩ | ⟨y, _⟩
  rotate_left
  · exact absurd rfl y
  obtain ⟨n1, n7, n3, f, q, q2, t, di, nt', oa, oe, o, b3, ⟨hnt, hdi⟩, ⟨sa, se, so⟩, fp, w1, ⟨w2, nq⟩, st, ⟨a7, a9, a11, a12, _⟩, ⟨s1, a3, s3, eb⟩, e174, e5⟩ := N_
  rw [eb] at a3 s3 e174 e5
  have f52 : F0 52 sl = cq_I g (x + 19) (21 * u + ln) := by
    rw [eF0]
    exact (if_pos ⟨rfl, rfl⟩).trans (hF 19 (by decide) _).symm
  have f48 : F0 48 sl = tF := by
    rw [eF0]
    unfold upF
    rw [if_neg (by omega), if_neg (by omega), if_pos ⟨rfl, rfl⟩]
  rw [f52, f48] at tn1
  obtain ⟨dom', sd', rt', ct', dp', kd', r2, B', Z, N, hk, kz, ⟨dq1, dq2, dq3⟩, ds, er, ec, es1, es2, zT⟩ := X.nwB F C0 C hC hc W U Fr A hm hm3 hu hU d12 n2_ o10 hln hon hd hoc e on2.2 hnt hdi sa se so fp w1 w2 nq st fn tn1 dr on2.1 tn2
  obtain ⟨kq1, kq2, kq3⟩ := kp
  have kt1 : ((cq_I g x 81).toNat : Int) = cq_I g x 81 := by omega
  have g51 : F1 51 sl = tC := by
    rw [eF1]
    unfold upF
    rw [if_neg (by omega), if_neg (by omega), if_neg (by omega), if_neg (by omega), if_pos ⟨rfl, rfl⟩]
  rw [g51] at kq2 kq3
  have rN : ∀ o j, o ∈ tR → ¬ (o = 51 ∧ j = sl) → ¬ (o = 57 ∧ 20 * sl ≤ j ∧ j < 20 * sl + cq_I g x 81) → cq_I g' (x + o) j = F1 o j := fun o j y1 y2 y3 => by
    rw [re o y1 j, eF']
    unfold upF
    rw [if_neg y2]
    exact kq1 o j y2 (by omega)
  have r48 : cq_I g' (x + 48) sl = tQ2 := by
    rw [rN 48 sl (by decide) (by omega) (by omega), eF1]
    exact if_pos ⟨rfl, rfl⟩
  have r50 : cq_I g' (x + 50) sl = tC2 := by
    rw [rN 50 sl (by decide) (by omega) (by omega), eF1]
    unfold upF
    rw [if_neg (by omega), if_pos ⟨rfl, rfl⟩]
  have r52 : cq_I g' (x + 52) sl = T_ := by
    rw [rN 52 sl (by decide) (by omega) (by omega), eF1]
    unfold upF
    rw [if_neg (by omega), if_neg (by omega), if_pos ⟨rfl, rfl⟩]
  have r51 : cq_I g' (x + 51) sl = t3 := by
    rw [re 51 (by decide), eF']
    exact if_pos ⟨rfl, rfl⟩
  have rr : ∀ o j, o ∈ tR → ¬ ((o = 48 ∨ o = 49 ∨ o = 50 ∨ o = 51 ∨ o = 52) ∧ j = sl) → ¬ (o = 57 ∧ 20 * sl ≤ j ∧ j < 20 * sl + 20) → cq_I g' (x + o) j = cq_I g (x + o) j := fun o j y1 y2 y3 => by
    rw [rN o j y1 (by omega) (by omega), eF1, eF0]
    unfold upF
    rw [if_neg (by omega), if_neg (by omega), if_neg (by omega), if_neg (by omega), if_neg (by omega), if_neg (by omega), if_neg (by omega), if_neg (by omega)]
    exact (hF o y1 j).symm
  have c18 := C.2.2.2.2.2.2.2.2.2.2.2.2.2.2.2.2.2.1
  have esl : sl = m_slotN g x (6 * u + v) := esl_.symm
  refine ⟨dom', sd', rt', ct', dp', kd', X.asm F B' N hk kz (fun o j w => ?_) (fun o j w => ?_) (fun u' v' u0 u1 v0 v1 q => ?_) (q_new F (P := zR x nt dom' sd' rt' ct' h' g') hu hv esl NQ_.nq (fun j w => NQ_.I_ 29 j (by decide) (by decide) (by decide) (by decide) (by decide) (by omega) (by omega) (by unfold inS; omega)) (fun j w => NQ_.I_ 30 j (by decide) (by decide) (by decide) (by decide) (by decide) (by omega) (by omega) (by unfold inS; omega)) eT' ?_ (fun u' v' i u0 u1 v0 v1 i0 i1 ne => ?_)) (fun l l0 l1' => ?_)⟩
  · rcases w with w | w | w | w | w | w <;> rw [w]
    · exact NQ_.I_ 11 j (by decide) (by decide) (by decide) (by decide) (by decide) (by omega) (by omega) (by unfold inS; omega)
    · exact rr 15 j (by decide) (by omega) (by omega)
    · exact NQ_.I_ 16 j (by decide) (by decide) (by decide) (by decide) (by decide) (by omega) (by omega) (by unfold inS; omega)
    · exact rr 19 j (by decide) (by omega) (by omega)
    · exact NQ_.I_ 23 j (by decide) (by decide) (by decide) (by decide) (by decide) (by omega) (by omega) (by unfold inS; omega)
    · exact rr 26 j (by decide) (by omega) (by omega)
  · rcases w with w | w | w <;> rw [w]
    · exact NQ_.J_ 14 j (by decide) (by decide) (by decide) (by unfold inS; omega)
    · exact NQ_.J_ 18 j (by decide) (by decide) (by decide) (by unfold inS; omega)
    · exact NQ_.J_ 25 j (by decide) (by decide) (by decide) (by unfold inS; omega)
  · have ne : u' ≠ u := fun z => by rw [z] at q; exact hU q
    exact NQ_.I_ 30 _ (by decide) (by decide) (by decide) (by decide) (by decide) (by omega) (by omega) (by unfold inS; omega)
  · refine zR.op4 (q := q) (q2 := q2) (r2 := r2) (t := t) (k1 := cq_I g x 81) a3 ⟨n3, s1, s3⟩ h81.1 ⟨a7, a9, a11, a12⟩ ds (er.trans r48.symm) (ec.trans r50.symm) NQ_.i40 es1 es2 st.2.1 (by rw [r52]; exact zT) ⟨dq1, dq2⟩ NQ_.i41 ?_ NQ_.i53 e5 (fun i i0 i1 => ⟨NQ_.n_ i i0 i1, ?_⟩) (by rw [NQ_.x72]; omega)
    · rw [dq3, r51]
      exact ⟨_, kq2, tm⟩
    · have := kq3 i.toNat (by omega)
      have ej : 20 * sl + 0 + (i.toNat : Int) = 20 * sl + i := by omega
      rw [ej] at this
      rw [dq3, re 57 (by decide), eF']
      unfold upF
      rw [if_neg (by omega)]
      exact this
  · have Q := X.q1 u' v' i u0 u1 v0 v1 i0 i1
    have k20 := ((F.fo u' v' u0 u1 v0 v1).ss i i0 i1).k20
    generalize cq_I g (x + 29) (4 * (6 * u' + v') + i) = s' at Q k20 ne ⊢
    have m1 := Q.2.2.2.1
    have k2 := Q.2.2.1.2.1
    have k3 := Q.2.2.1.2.2.1
    have na : T s' ≠ a := fun z => by rw [z, ha] at m1; exact absurd m1 (by decide)
    refine Q.fr X.b C0 C Z N (n7 _ m1 na) (c18 _ 3 1 k2 (Or.inr (Or.inr ⟨rfl, rfl⟩)) (he1 _ k2)) (e174 _ k3 (by omega)) (fun o w => ?_) (fun o j w w1 w2 => ?_) (by rw [NQ_.x72]; exact Int.le_refl _)
    · rcases w with w | w | w | w | w | w | w <;> rw [w]
      · exact NQ_.I_ 40 _ (by decide) (by decide) (by decide) (by decide) (by decide) (by omega) (by omega) (by unfold inS; omega)
      · exact NQ_.I_ 41 _ (by decide) (by decide) (by decide) (by decide) (by decide) (by omega) (by omega) (by unfold inS; omega)
      · exact rr 48 _ (by decide) (by omega) (by omega)
      · exact rr 50 _ (by decide) (by omega) (by omega)
      · exact rr 51 _ (by decide) (by omega) (by omega)
      · exact rr 52 _ (by decide) (by omega) (by omega)
      · exact NQ_.I_ 53 _ (by decide) (by decide) (by decide) (by decide) (by decide) (by omega) (by omega) (by unfold inS; omega)
    · rcases w with w | w <;> rw [w]
      · exact NQ_.I_ 55 _ (by decide) (by decide) (by decide) (by decide) (by decide) (by omega) (by omega) (by unfold inS; omega)
      · exact rr 57 _ (by decide) (by omega) (by omega)
  · rw [NQ_.x72] at l1'
    exact (X.l1 l l0 l1').fr X.b C Z N.1 (F.fl l l0 l1').2.s0 (rr 64 l (by decide) (by omega) (by omega))
end
