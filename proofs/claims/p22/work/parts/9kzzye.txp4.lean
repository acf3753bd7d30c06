/-! turns and terms: a letter is opened in a SESSION that was there, whole -/
section
variable {c x nt : Nat} {n : Int} {T Lf T' Lf' : Int → Nat} {dom sd dom' sd' : Nat → Prop} {rt ct rt' ct' : Nat → Int} {dp dp' : Nat → Nat} {kd kd' : Int → Nat} {m m' : Nat} {h g h' g' : cx_Q} {E E0 : Nat → Option Int} {pe : Int → Nat} {ro : Int → Int → Nat} {pa lb tp rd en op ob : Nat}
theorem TX.opn (X : TX c x nt n T Lf dom sd rt ct dp kd m h g) (F : FX c x n pe ro pa lb tp rd en op ob T Lf h g) (C0 : CT c E0 h [] h) (C : CT c E h [] h') (hC : E c = none) (hc : cq_s h c = 9) (he1 : ∀ d, cq_s h d = 1 → E d = none) (W : TW x g') (U : ∀ w w', cq_s h' w = 6 → cq_s h' w' = 6 → cq_J h' w 1 = cq_J h' w' 1 → w = w') (Fr : zFr x n h g) (A : zAA x n g) (hm : m + 2 ≤ m') {u v i s l V : Int} (hu : 0 ≤ u ∧ u < n) (hv : 0 ≤ v ∧ v < n) (d12 : 0 ≤ cq_I g (x + 12) u ∧ cq_I g (x + 12) u < 141) (n2_ : 1 ≤ cq_I g x 2) (o10 : 0 ≤ cq_I g x 10) (hi : 0 ≤ i ∧ i < cq_I g (x + 30) (6 * u + v)) (es : s = cq_I g (x + 29) (4 * (6 * u + v) + i)) (r41 : 0 ≤ cq_I g (x + 41) s) (h81 : 0 ≤ cq_I g x 81) (ok : m_openA g x l s = 0) (O : OX x u s g (T s) h h') {F_ F' : Nat → Int → Int} (hF : RE x g F_) {T_ : Int} (eT_ : eT x (cq_sI (m_front (m_openQ g x u s) x (6 * u + v) i) x 84 V) g') (e : exT x g g') (re : RE x g' F') (ow : owE x g' g (cq_I g x 10) F_ F' u s T_) (on_ : owN x g (cq_I g x 10) (cq_I g' x 10) (cq_I g x 2) s T_) : ∃ dom' sd' rt' ct' dp' kd', TX c x nt n T Lf dom' sd' rt' ct' dp' kd' m' h' g' := by
  have fo := F.fo u v hu.1 hu.2 hv.1 hv.2
  have sr := fo.ss i hi.1 hi.2
  rw [← es] at sr
  have k20 := sr.k20
  have zr := X.q1 u v i hu.1 hu.2 hv.1 hv.2 hi.1 hi.2
  rw [← es] at zr
  have z1 := zr.2.2.1.1
  have oq_ := openQ_q (u := u) (l := l) k20 h81 ok
  have e72 : cq_I (m_openQ g x u s) x 72 = cq_I g x 72 := openQ_x (by decide)
  generalize m_openQ g x u s = g1 at oq_ e72 eT_
  clear ok
  obtain ⟨o1, o2, o3, b3, o4, o5, o6⟩ := O
  have eb : b3 = T s + 5 := Option.some.inj (o4.symm.trans z1)
  rw [eb] at o6
  obtain ⟨on1, on2⟩ := on_
  rcases oq_ with ⟨ka, fr, ok1⟩ | ⟨kn, tn0, ⟨k0, rc, kl⟩, fr, ok2⟩ | ⟨kn, tn1, ⟨b0, kl⟩, fr, C_, R1, X2, V_, ok3⟩
  · rcases ow with ⟨w1, w2⟩ | ⟨w1, _⟩
    rotate_left
    · omega
    rcases o6 with ⟨y1, y2, y3⟩ | ⟨y1, _⟩ | ⟨y1, _⟩
    rotate_left
    · omega
    · omega
    exact ⟨dom, sd, rt, ct, dp, kd, X.op12 F C0 C hC hc he1 W U (by omega) hu hv hi es r41 hF e72 eT_ e (on2 (fun z => by omega)) re fr o3 y2 (Or.inl ⟨_, ka, ok1, w2, y3⟩)⟩
  · rcases ow with ⟨w1, _⟩ | ⟨w1, w2⟩
    · omega
    rcases o6 with ⟨y1, _⟩ | ⟨y1, _, y2, y3⟩ | ⟨_, y1, _⟩
    · omega
    rotate_left
    · omega
    rcases w2 with ⟨_, w2⟩ | ⟨w2, _⟩
    rotate_left
    · exact absurd tn0 w2
    exact ⟨dom, sd, rt, ct, dp, kd, X.op12 F C0 C hC hc he1 W U (by omega) hu hv hi es r41 hF e72 eT_ e (on2 (fun z => z.2 tn0)) re fr o3 y2 (Or.inr ⟨_, ⟨k0, rc⟩, ok2, w2, y3, kl⟩)⟩
  · rcases ow with ⟨w1, _⟩ | ⟨w1, w2⟩
    · omega
    rcases o6 with ⟨y1, _⟩ | ⟨_, y1, _⟩ | ⟨_, _, q, q2, t, r, w, o, y3, y4, ⟨y5, y6, y7, y8, _⟩, y9, ⟨y10, y11⟩, y12, y13⟩
    · omega
    · omega
    rcases w2 with ⟨w2, _⟩ | ⟨_, F0, F1, w3, tC, tQ, tC2, tQ2, tn1_, dr, tn2_, eF1⟩
    · omega
    obtain ⟨on3, on4⟩ := on1 ⟨kn, by omega⟩
    have kr : 0 < m_bef g x s 1 → cq_I g (x + 35) s ≠ 0 := fun z y => by
      unfold m_bef at z
      rw [if_neg (fun y' => y'.2.1 y)] at z
      omega
    have kp : kpF x g' F_ F0 s (cq_I g (x + 53) s) (m_bef g x s 1).toNat ∧ enE x g' F1 F' s (cq_I g (x + 53) s + m_bef g x s 1) (cq_I g x 81).toNat := by
      rcases w3 with ⟨z1, z2, z3⟩ | ⟨z1, z2, z3⟩
      · have : m_bef g x s 1 = 0 := by
          unfold m_bef
          exact if_neg (fun y' => y'.2.1 z1)
        rw [this, z2, Int.add_zero]
        exact ⟨kpF_0, z3⟩
      · have : (cq_I g x 80 - cq_I g (x + 41) s).toNat = (m_bef g x s 1).toNat ∧ ((cq_I g x 80 - cq_I g (x + 41) s).toNat : Int) = m_bef g x s 1 := by
          unfold m_bef
          by_cases z : cq_I g (x + 41) s < cq_I g x 80
          · rw [if_pos ⟨by decide, z1, z⟩]
            omega
          · rw [if_neg (fun y' => z y'.2.2)]
            omega
        rw [this.2] at z3
        rw [this.1] at z2
        exact ⟨z2, z3⟩
    obtain ⟨kp1, F2, t3, kp2, tm, eF'⟩ := kp
    exact X.op3 F C0 C hC hc he1 W U Fr A hm hu hv d12 n2_ o10 hi es r41 hF e72 eT_ e on4 re fr o3 ⟨b0, h81⟩ kr kl ok3 kp1 tn1_ dr on3 tn2_ eF1 kp2 tm eF' y3 y4 ⟨y5, y6, y7, y8⟩ y9 y10 y11 y12 y13
end
