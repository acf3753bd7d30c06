/-! turns and terms: a letter is written, or copied -/
section
variable {c x nt : Nat} {n : Int} {T Lf T' Lf' : Int → Nat} {dom sd dom' sd' : Nat → Prop} {rt ct rt' ct' : Nat → Int} {dp dp' : Nat → Nat} {kd kd' : Int → Nat} {m m' : Nat} {h g h' g' : cx_Q} {E E0 : Nat → Option Int} {pe : Int → Nat} {ro : Int → Int → Nat} {pa lb tp rd en op ob : Nat}
theorem TX.wrb (X : TX c x nt n T Lf dom sd rt ct dp kd m h g) (F : FX c x n pe ro pa lb tp rd en op ob T Lf h g) (C0 : CT c E0 h [] h) (C : CT c E h [] h') (hC : E c = none) (hc : cq_s h c = 9) (he : ∀ d, cq_s h d = 7 ∨ cq_s h d = 174 ∨ cq_s h d = 1 → E d = none) (ty : ∀ a b, cq_s h' a = 1 → cq_A h' a 3 = some b → cq_s h' b = 174) (W : TW x g') (U : ∀ w w', cq_s h' w = 6 → cq_s h' w' = 6 → cq_J h' w 1 = cq_J h' w' 1 → w = w') (Fr : zFr x n h g) (A : zAA x n g) (hm : m ≤ m') (hm2 : 2 ≤ m') {u v : Int} (hu : 0 ≤ u ∧ u < n) (hv : 0 ≤ v ∧ v < n) (hU : cq_I g (x + 11) u ≠ 0) (hV : cq_I g (x + 11) v ≠ 0) (d12 : 0 ≤ cq_I g (x + 12) u ∧ cq_I g (x + 12) u < 140) (n2_ : 1 ≤ cq_I g x 2) (o10 : 0 ≤ cq_I g x 10) (h72 : cq_I g x 72 < 80) (bx : BX c pe T T' h h' u v (m_leastOnce g x v) (m_slotN (m_bnC g x u v) x (6 * u + v)) (cq_J g (x + 20) v) (cq_J g (x + 1) u) (cq_I g (x + 12) u)) (lx : LX x T' Lf Lf' (m_begin g x u v) u v h') {g1 : cx_Q} {tF T_ tC tQ t t2 : Int} (eT_ : eT x (m_begin g x u v) g1) (wr : WR x u v g1 g') (re : RE x g' (wlF (bgF (fR x g) (m_slotN (m_bnC g x u v) x (6 * u + v)) tF T_ tC tQ) (wrS x (m_begin g x u v) u v) (cq_I g x 72) t t2)) (G : wlG x (bgF (fR x g) (m_slotN (m_bnC g x u v) x (6 * u + v)) tF T_ tC tQ) (bgG x g (fR x g) (fun q => exT x g q) u v tF T_ tC tQ) (wrS x (m_begin g x u v) u v) t t2 g') (lT : cq_I g x 2 < T_) (e10 : cq_I g' x 10 ≤ cq_I g x 10 + 2) : ∃ dom' sd' rt' ct' dp' kd', TX c x nt n T' Lf' dom' sd' rt' ct' dp' kd' m' h' g' := by
  have r4 := (F.fo u v hu.1 hu.2 hv.1 hv.2).r4
  obtain ⟨BQ_, esl⟩ := begin_q (x := x) (u := u) (v := v) (g := g) r4
  have n40 := BQ_.i40
  have n72 := BQ_.x72
  obtain ⟨b72, bI, bJ, bN, i40, i53⟩ := BQ_.eT eT_
  obtain ⟨⟨⟨⟨⟨⟨e, dr1⟩, fi⟩, dr2⟩, tn⟩, tk⟩, tn2⟩ := G
  rw [bnC_d.1] at dr1
  rw [bnP_d r4] at dr2
  have lo := m_leastOnce_rg (F.fu v hv.1 hv.2).o60
  have e10' : cq_I g' x 10 = cq_I g x 10 + 2 := by have := dr2.2.1; omega
  have ews : wrS x (m_begin g x u v) u v = m_slotN (m_bnC g x u v) x (6 * u + v) := by
    unfold wrS
    have := BQ_.nq.r29 0 (Int.le_refl _) (by unfold rw1; split <;> omega)
    rw [if_pos rfl, Int.add_zero] at this
    exact this
  have ew1 : wrS x g1 u v = wrS x (m_begin g x u v) u v := by unfold wrS; rw [eT_.fI (by decide) (by decide)]
  have wr' : WQ x (wrS x g1 u v) (wrZ x g1 (wrS x g1 u v)) (wrB x g1 u v (wrS x g1 u v)) g1 g' := wr
  rw [ew1, ews] at wr'
  obtain ⟨l1, l2, l3⟩ := lx
  rw [ews] at re tk tn2 l2 l3
  rw [n72] at l1 l2 l3
  obtain ⟨dom', sd', rt', ct', dp', kd', a, s, rs, r, B', Z, N, hk, kz, eT', sa, ⟨a7, a9, a11, a12⟩, ds, er, ec, es1, es2, sr, zr, sa1, a13⟩ := X.bgB F C0 C hC hc W U Fr A hm hm2 hu hv hU hV ⟨lo.1, lo.2.2⟩ d12 n2_ o10 bx e dr1 fi dr2 tn lT e10'
  rw [n40] at l3
  clear n40 n72 ews ew1 BQ_ bx wr
  generalize m_slotN (m_bnC g x u v) x (6 * u + v) = sl at *
  have g72 : cq_I g' x 72 = cq_I g x 72 + 1 := by rw [wr'.x72, b72]
  have w40 : cq_I g' (x + 40) sl = 1 := by rw [wr'.i40, i40]; rfl
  have gI : ∀ o j, 1 ≤ o → o ≤ 61 → o ∉ tL → o ≠ 12 → o ≠ 27 → ¬ (o = 30 ∧ j = 6 * u + v) → ¬ (o = 29 ∧ 4 * (6 * u + v) ≤ j ∧ j < 4 * (6 * u + v) + 4) → ¬ (((31 ≤ o ∧ o ≤ 47) ∨ o = 53) ∧ j = sl) → cq_I g' (x + o) j = cq_I g (x + o) j := fun o j w1 w2 w3 w4 w5 w6 w7 w8 => by rw [wr'.I_ o j w1 (by omega) w3 (by omega) (by omega) (by omega), bI o j w1 w3 w4 w5 w6 w7 w8]
  have gJ : ∀ o j, 1 ≤ o → o ≤ 65 → o ∉ tL → ¬ ((31 ≤ o ∧ o ≤ 47) ∧ j = sl) → cq_J g' (x + o) j = cq_J g (x + o) j := fun o j w1 w2 w3 w4 => by rw [wr'.J_ o j w1 w2 w3 (by omega), bJ o j w1 w3 w4]
  have gN : NQ x (6 * u + v) sl g g' := ⟨by rw [wr'.I_ 30 _ (by decide) (by decide) (by decide) (by omega) (by omega) (by omega), bN.r30], fun i i0 i1 => by rw [wr'.I_ 29 _ (by decide) (by decide) (by decide) (by omega) (by omega) (by omega), bN.r29 i i0 i1]⟩
  have w53 : cq_I g' (x + 53) sl = 0 := by rw [wr'.I_ 53 _ (by decide) (by decide) (by decide) (by omega) (by omega) (by omega), i53]
  have rr : ∀ o j, o ∈ tR → ¬ ((o = 48 ∨ o = 49 ∨ o = 50 ∨ o = 52) ∧ j = sl) → ¬ (o = 64 ∧ j = cq_I g x 72) → cq_I g' (x + o) j = cq_I g (x + o) j := fun o j w1 w2 w3 => by
    rw [re o w1 j]
    unfold wlF bgF upF
    rw [if_neg w3, if_neg (by omega), if_neg (by omega), if_neg (by omega), if_neg (by omega), if_neg (by omega), if_neg (by omega)]
    rfl
  have r48 : cq_I g' (x + 48) sl = tQ := by
    rw [re 48 (by decide) sl]
    unfold wlF bgF upF
    rw [if_neg (by omega), if_neg (by omega), if_pos ⟨rfl, rfl⟩]
  have r50 : cq_I g' (x + 50) sl = t2 := by
    rw [re 50 (by decide) sl]
    unfold wlF upF
    rw [if_neg (by omega), if_pos ⟨rfl, rfl⟩]
  have r52 : cq_I g' (x + 52) sl = T_ := by
    rw [re 52 (by decide) sl]
    unfold wlF bgF upF
    rw [if_neg (by omega), if_neg (by omega), if_neg (by omega), if_neg (by omega), if_pos ⟨rfl, rfl⟩]
  have r64 : cq_I g' (x + 64) (cq_I g x 72) = t := by
    rw [re 64 (by decide)]
    exact if_pos ⟨rfl, rfl⟩
  have b50 : bgF (fR x g) sl tF T_ tC tQ 50 sl = tC := by
    unfold bgF upF
    rw [if_neg (by omega), if_pos ⟨rfl, rfl⟩]
  rw [b50] at tk tn2
  have tsl : T' sl = a := by rw [eT']; exact if_pos rfl
  rw [tsl] at l2
  have f72 := F.l80
  refine ⟨dom', sd', rt', ct', dp', kd', X.asm F B' N hk kz (fun o j w => ?_) (fun o j w => ?_) (fun u' v' u0 u1 v0 v1 q => ?_) (q_new F (P := zR x nt dom' sd' rt' ct' h' g') hu hv esl gN (fun j w => gI 29 j (by decide) (by decide) (by decide) (by decide) (by decide) (by omega) (by omega) (by omega)) (fun j w => gI 30 j (by decide) (by decide) (by decide) (by decide) (by decide) (by omega) (by omega) (by omega)) eT' ?_ (fun u' v' i u0 u1 v0 v1 i0 i1 ne => ?_)) (fun l l0 l1' => ?_)⟩
  · rcases w with w | w | w | w | w | w <;> rw [w]
    · exact gI 11 j (by decide) (by decide) (by decide) (by decide) (by decide) (by omega) (by omega) (by omega)
    · exact rr 15 j (by decide) (by omega) (by omega)
    · exact gI 16 j (by decide) (by decide) (by decide) (by decide) (by decide) (by omega) (by omega) (by omega)
    · exact rr 19 j (by decide) (by omega) (by omega)
    · exact gI 23 j (by decide) (by decide) (by decide) (by decide) (by decide) (by omega) (by omega) (by omega)
    · exact rr 26 j (by decide) (by omega) (by omega)
  · rcases w with w | w | w <;> rw [w]
    · exact gJ 14 j (by decide) (by decide) (by decide) (by omega)
    · exact gJ 18 j (by decide) (by decide) (by decide) (by omega)
    · exact gJ 25 j (by decide) (by decide) (by decide) (by omega)
  · have n6 := F.n26
    have ne : u' ≠ u := fun z => by rw [z] at q; exact hU q
    exact gI 30 _ (by decide) (by decide) (by decide) (by decide) (by decide) (by omega) (by omega) (by omega)
  · refine ⟨⟨s, rs, r, a7, a9, ds, by rw [r48, er], ?_, a12, es1, es2, sr, by rw [r52]; exact zr⟩, fun R z => ?_, ⟨a13, sa1, ty _ _ sa1 a13, fun i i0 i1 => by omega⟩, sa, by omega, by omega⟩
    · have o1 : (cq_I g' (x + 40) sl).toNat = 1 := by rw [w40]; rfl
      rw [o1, r50, ec]
      exact nx_1 tn2
    · rw [a11] at z; cases z
  · have Q := X.q1 u' v' i u0 u1 v0 v1 i0 i1
    obtain ⟨f1, f2, f3⟩ := C.fs he Q
    refine Q.fr X.b C0 C Z N f1 f2 f3 (fun o w => ?_) (fun o j w _ _ => ?_) (by omega)
    · rcases w with w | w | w | w | w | w | w <;> rw [w]
      · exact gI 40 _ (by decide) (by decide) (by decide) (by decide) (by decide) (by omega) (by omega) (by omega)
      · exact gI 41 _ (by decide) (by decide) (by decide) (by decide) (by decide) (by omega) (by omega) (by omega)
      · exact rr 48 _ (by decide) (by omega) (by omega)
      · exact rr 50 _ (by decide) (by omega) (by omega)
      · exact rr 51 _ (by decide) (by omega) (by omega)
      · exact rr 52 _ (by decide) (by omega) (by omega)
      · exact gI 53 _ (by decide) (by decide) (by decide) (by decide) (by decide) (by omega) (by omega) (by omega)
    · rcases w with w | w <;> rw [w]
      · exact gI 55 _ (by decide) (by decide) (by decide) (by decide) (by decide) (by omega) (by omega) (by omega)
      · exact rr 57 _ (by decide) (by omega) (by omega)
  · by_cases z : l = cq_I g x 72
    · rw [z]
      refine ⟨s, by rw [l2]; exact a9, ds, by rw [l3]; exact Int.le_refl _, by rw [l3]; decide, ?_⟩
      have o0 : (cq_I h' (Lf' (cq_I g x 72)) 3).toNat = 0 := by rw [l3]; rfl
      rw [o0, r64, ec]
      exact ⟨tC, rfl, tk⟩
    · have l2' : l < cq_I g x 72 := by omega
      rw [l1 l z]
      exact (X.l1 l l0 l2').fr X.b C Z N.1 (F.fl l l0 l2').2.s0 (rr 64 l (by decide) (by omega) (by omega))
end
