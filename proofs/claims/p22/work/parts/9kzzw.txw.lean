/-! turns and terms: begin, write, copy -/
section
variable {x : Nat} {u v : Int} {g : cx_Q}
theorem bnC_d : cq_J (m_bnC g x u v) x 32 = dO (cq_J g (x + 1) u) (cq_I g (x + 12) u) ∧ cq_J (m_bnC g x u v) (x + 1) u = cq_J g (x + 1) u ∧ cq_I (m_bnC g x u v) (x + 12) u = cq_I g (x + 12) u + 1 := by
  have Q0 := bn0_q (x := x) (g := g) (v := v)
  have D0 := draw_q (x := x) (u := u) (g := cq_sI (m_bn0 g x v) x 63 (cq_I g x 63 + 1))
  have e1 : cq_J (cq_sI (m_bn0 g x v) x 63 (cq_I g x 63 + 1)) (x + 1) u = cq_J g (x + 1) u := by rw [mm_JI, Q0.J_]
  have e2 : cq_I (cq_sI (m_bn0 g x v) x 63 (cq_I g x 63 + 1)) (x + 12) u = cq_I g (x + 12) u := by rw [mm_sI, if_neg (fun z => by omega), Q0.I_ 12 u (by decide) (fun z => absurd z.1 (by decide))]
  unfold m_bnC
  exact ⟨by rw [(draw_31 (x := x) (u := u)).2, e1, e2], by rw [D0.J_ 1 u (by decide), e1], by rw [D0.i12, e2]⟩
theorem bnP_d (r4 : 0 ≤ cq_I g (x + 30) (6 * u + v) ∧ cq_I g (x + 30) (6 * u + v) ≤ 4) : m_bnP g x u v = dO (cq_J g (x + 1) u) (cq_I g (x + 12) u + 1) := by
  obtain ⟨_, b2, b3⟩ := bnC_d (x := x) (u := u) (v := v) (g := g)
  have Q0 := bn0_q (x := x) (g := g) (v := v)
  have D0 := draw_q (x := x) (u := u) (g := cq_sI (m_bn0 g x v) x 63 (cq_I g x 63 + 1))
  have r4' : 0 ≤ cq_I (m_bnC g x u v) (x + 30) (6 * u + v) ∧ cq_I (m_bnC g x u v) (x + 30) (6 * u + v) ≤ 4 := by
    unfold m_bnC
    rw [D0.I_ 30 _ (by decide) (fun z => absurd z.1 (by decide)), mm_sI, if_neg (fun z => by omega), Q0.I_ 30 _ (by decide) (fun z => absurd z.1 (by decide))]
    exact r4
  unfold m_bnP
  rw [(draw_31 (x := x) (u := u)).2]
  generalize m_bnR _ _ _ _ _ _ = R
  generalize cq_J (m_bnC g x u v) x 32 = eO
  obtain ⟨_, q2, q3⟩ := newS_q (x := x) (g := m_bnC g x u v) (w := 6 * u + v) r4'
  generalize m_slotN (m_bnC g x u v) x (6 * u + v) = s
  generalize m_leastOnce g x v = k
  generalize m_newS (m_bnC g x u v) x (6 * u + v) = M at q2 q3
  have e1 : cq_J (m_bn1 (m_clear M x s) x s v k R (cq_J g (x + 20) v) eO) (x + 1) u = cq_J g (x + 1) u := by
    unfold m_bn1 m_clear
    simp only [mm_sI, mm_sJ, mm_sA, mm_IJ, mm_IA, mm_JI, mm_JA, mm_AI, mm_AJ, mm_ssI, mm_ssJ, mm_ssA, mm_zI, mm_zJ, mm_zA, mm_nI, mm_nJ, mm_nA, Nat.left_eq_add, Nat.add_eq_left, Nat.add_left_cancel_iff, Nat.reduceEqDiff, Int.reduceEq, false_and, and_false, if_false, if_true, and_self, true_and, true_or, or_true, false_or, or_false]
    rw [q3]
    exact b2
  have e2 : cq_I (m_bn1 (m_clear M x s) x s v k R (cq_J g (x + 20) v) eO) (x + 12) u = cq_I g (x + 12) u + 1 := by
    unfold m_bn1 m_clear
    simp only [mm_sI, mm_sJ, mm_sA, mm_IJ, mm_IA, mm_JI, mm_JA, mm_AI, mm_AJ, mm_ssI, mm_ssJ, mm_ssA, mm_zI, mm_zJ, mm_zA, mm_nI, mm_nJ, mm_nA, Nat.left_eq_add, Nat.add_eq_left, Nat.add_left_cancel_iff, Nat.reduceEqDiff, Int.reduceEq, false_and, and_false, if_false, if_true, and_self, true_and, true_or, or_true, false_or, or_false]
    rw [q2 (x + 12) u (by omega) (by omega)]
    exact b3
  rw [e1, e2]
end
section
variable {c x nt : Nat} {n : Int} {T Lf T' Lf' : Int → Nat} {dom sd dom' sd' : Nat → Prop} {rt ct rt' ct' : Nat → Int} {dp dp' : Nat → Nat} {kd kd' : Int → Nat} {m m' : Nat} {h g h' g' : cx_Q} {E E0 : Nat → Option Int} {pe : Int → Nat} {ro : Int → Int → Nat} {pa lb tp rd en op ob : Nat}
theorem TX.beg (X : TX c x nt n T Lf dom sd rt ct dp kd m h g) (F : FX c x n pe ro pa lb tp rd en op ob T Lf h g) (C0 : CT c E0 h [] h) (C : CT c E h [] h') (hC : E c = none) (hc : cq_s h c = 9) (he : ∀ d, cq_s h d = 7 ∨ cq_s h d = 174 ∨ cq_s h d = 1 → E d = none) (ty : ∀ a b, cq_s h' a = 1 → cq_A h' a 3 = some b → cq_s h' b = 174) (W : TW x g') (U : ∀ w w', cq_s h' w = 6 → cq_s h' w' = 6 → cq_J h' w 1 = cq_J h' w' 1 → w = w') (Fr : zFr x n h g) (A : zAA x n g) (hm : m ≤ m') (hm2 : 2 ≤ m') {u v : Int} (hu : 0 ≤ u ∧ u < n) (hv : 0 ≤ v ∧ v < n) (hU : cq_I g (x + 11) u ≠ 0) (hV : cq_I g (x + 11) v ≠ 0) (d12 : 0 ≤ cq_I g (x + 12) u ∧ cq_I g (x + 12) u < 140) (n2_ : 1 ≤ cq_I g x 2) (o10 : 0 ≤ cq_I g x 10) (bx : BX c pe T T' h h' u v (m_leastOnce g x v) (m_slotN (m_bnC g x u v) x (6 * u + v)) (cq_J g (x + 20) v) (cq_J g (x + 1) u) (cq_I g (x + 12) u)) {tF T_ tC tQ : Int} (eT_ : eT x (m_begin g x u v) g') (re : RE x g' (bgF (fR x g) (m_slotN (m_bnC g x u v) x (6 * u + v)) tF T_ tC tQ)) (G : bgG x g (fR x g) (fun q => exT x g q) u v tF T_ tC tQ g') (lT : cq_I g x 2 < T_) (e10 : cq_I g' x 10 = cq_I g x 10 + 2) : ∃ dom' sd' rt' ct' dp' kd', TX c x nt n T' Lf dom' sd' rt' ct' dp' kd' m' h' g' := by
  have r4 := (F.fo u v hu.1 hu.2 hv.1 hv.2).r4
  obtain ⟨BQ_, esl⟩ := begin_q (x := x) (u := u) (v := v) (g := g) r4
  obtain ⟨g72, gI, gJ, gN, i40, i53⟩ := BQ_.eT eT_
  obtain ⟨⟨⟨⟨e, dr1⟩, fi⟩, dr2⟩, tn⟩ := G
  rw [bnC_d.1] at dr1
  rw [bnP_d r4] at dr2
  have lo := m_leastOnce_rg (F.fu v hv.1 hv.2).o60
  obtain ⟨dom', sd', rt', ct', dp', kd', a, s, rs, r, B', Z, N, hk, kz, eT', sa, ⟨a7, a9, a11, a12⟩, ds, er, ec, es1, es2, sr, zr, sa1, a13⟩ := X.bgB F C0 C hC hc W U Fr A hm hm2 hu hv hU hV ⟨lo.1, lo.2.2⟩ d12 n2_ o10 bx e dr1 fi dr2 tn lT e10
  generalize m_slotN (m_bnC g x u v) x (6 * u + v) = sl at *
  have rr : ∀ o j, o ∈ tR → ¬ ((o = 48 ∨ o = 49 ∨ o = 50 ∨ o = 52) ∧ j = sl) → cq_I g' (x + o) j = cq_I g (x + o) j := fun o j w1 w2 => by
    rw [re o w1 j]
    unfold bgF upF
    rw [if_neg (by omega), if_neg (by omega), if_neg (by omega), if_neg (by omega), if_neg (by omega)]
    rfl
  have r48 : cq_I g' (x + 48) sl = tQ := by
    rw [re 48 (by decide) sl]
    exact if_pos ⟨rfl, rfl⟩
  have r50 : cq_I g' (x + 50) sl = tC := by
    rw [re 50 (by decide) sl]
    unfold bgF upF
    rw [if_neg (by omega), if_pos ⟨rfl, rfl⟩]
  have r52 : cq_I g' (x + 52) sl = T_ := by
    rw [re 52 (by decide) sl]
    unfold bgF upF
    rw [if_neg (by omega), if_neg (by omega), if_pos ⟨rfl, rfl⟩]
  have f72 := F.l80
  refine ⟨dom', sd', rt', ct', dp', kd', X.asm F B' N hk kz (fun o j w => ?_) (fun o j w => ?_) (fun u' v' u0 u1 v0 v1 q => ?_) (q_new F (P := zR x nt dom' sd' rt' ct' h' g') hu hv esl gN (fun j w => gI 29 j (by decide) (by decide) (by decide) (by decide) (by omega) (by omega) (by omega)) (fun j w => gI 30 j (by decide) (by decide) (by decide) (by decide) (by omega) (by omega) (by omega)) eT' ?_ (fun u' v' i u0 u1 v0 v1 i0 i1 ne => ?_)) (fun l l0 l1 => ?_)⟩
  · rcases w with w | w | w | w | w | w <;> rw [w]
    · exact gI 11 j (by decide) (by decide) (by decide) (by decide) (by omega) (by omega) (by omega)
    · exact rr 15 j (by decide) (by omega)
    · exact gI 16 j (by decide) (by decide) (by decide) (by decide) (by omega) (by omega) (by omega)
    · exact rr 19 j (by decide) (by omega)
    · exact gI 23 j (by decide) (by decide) (by decide) (by decide) (by omega) (by omega) (by omega)
    · exact rr 26 j (by decide) (by omega)
  · rcases w with w | w | w <;> rw [w]
    · exact gJ 14 j (by decide) (by decide) (by omega)
    · exact gJ 18 j (by decide) (by decide) (by omega)
    · exact gJ 25 j (by decide) (by decide) (by omega)
  · have n6 := F.n26
    have ne : u' ≠ u := fun z => by rw [z] at q; exact hU q
    exact gI 30 _ (by decide) (by decide) (by decide) (by decide) (by omega) (by omega) (by omega)
  · refine ⟨⟨s, rs, r, a7, a9, ds, by rw [r48, er], ?_, a12, es1, es2, sr, by rw [r52]; exact zr⟩, fun R z => ?_, ⟨a13, sa1, ty _ _ sa1 a13, fun i i0 i1 => by omega⟩, sa, by omega, by omega⟩
    · rw [i40, r50, ec]
      exact rfl
    · rw [a11] at z; cases z
  · have Q := X.q1 u' v' i u0 u1 v0 v1 i0 i1
    obtain ⟨f1, f2, f3⟩ := C.fs he Q
    refine Q.fr X.b C0 C Z N f1 f2 f3 (fun o w => ?_) (fun o j w _ _ => ?_) (by omega)
    · rcases w with w | w | w | w | w | w | w <;> rw [w]
      · exact gI 40 _ (by decide) (by decide) (by decide) (by decide) (by omega) (by omega) (by omega)
      · exact gI 41 _ (by decide) (by decide) (by decide) (by decide) (by omega) (by omega) (by omega)
      · exact rr 48 _ (by decide) (by omega)
      · exact rr 50 _ (by decide) (by omega)
      · exact rr 51 _ (by decide) (by omega)
      · exact rr 52 _ (by decide) (by omega)
      · exact gI 53 _ (by decide) (by decide) (by decide) (by decide) (by omega) (by omega) (by omega)
    · rcases w with w | w <;> rw [w]
      · exact gI 55 _ (by decide) (by decide) (by decide) (by decide) (by omega) (by omega) (by omega)
      · exact rr 57 _ (by decide) (by omega)
  · rw [g72] at l1
    exact (X.l1 l l0 l1).fr X.b C Z N.1 (F.fl l l0 l1).2.s0 (rr 64 l (by decide) (by omega))
end
