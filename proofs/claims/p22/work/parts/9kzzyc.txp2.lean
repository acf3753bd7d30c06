/-! turns and terms: a letter is opened in a SESSION that was there -/
section
variable {c x nt : Nat} {n : Int} {T Lf T' Lf' : Int → Nat} {dom sd dom' sd' : Nat → Prop} {rt ct rt' ct' : Nat → Int} {dp dp' : Nat → Nat} {kd kd' : Int → Nat} {m m' : Nat} {h g h' g' : cx_Q} {E E0 : Nat → Option Int} {pe : Int → Nat} {ro : Int → Int → Nat} {pa lb tp rd en op ob : Nat}
theorem kpF_0 {F : Nat → Int → Int} {s k : Int} : kpF x g F F s k 0 := ⟨fun _ _ _ _ => rfl, rfl, fun i hi => absurd hi (Nat.not_lt_zero _)⟩
/-- with a KEPT key, or with one of the chain that goes on -/
theorem TX.op12 (X : TX c x nt n T Lf dom sd rt ct dp kd m h g) (F : FX c x n pe ro pa lb tp rd en op ob T Lf h g) (C0 : CT c E0 h [] h) (C : CT c E h [] h') (hC : E c = none) (hc : cq_s h c = 9) (he1 : ∀ d, cq_s h d = 1 → E d = none) (W : TW x g') (U : ∀ w w', cq_s h' w = 6 → cq_s h' w' = 6 → cq_J h' w 1 = cq_J h' w' 1 → w = w') (hm : m ≤ m') {u v i s V : Int} (hu : 0 ≤ u ∧ u < n) (hv : 0 ≤ v ∧ v < n) (hi : 0 ≤ i ∧ i < cq_I g (x + 30) (6 * u + v)) (es : s = cq_I g (x + 29) (4 * (6 * u + v) + i)) (r41 : 0 ≤ cq_I g (x + 41) s) {g1 : cx_Q} {F_ F' : Nat → Int → Int} (hF : RE x g F_) (e72 : cq_I g1 x 72 = cq_I g x 72) (eT_ : eT x (cq_sI (m_front g1 x (6 * u + v) i) x 84 V) g') (e : exT x g g') (e10 : cq_I g' x 10 = cq_I g x 10) (re : RE x g' F') (f : FRM x s u 0 g g1) (e7 : ∀ d, cq_s h d = 7 → d ≠ T s → cq_A h' d = cq_A h d) (ea : cq_A h' (T s) = cq_A h (T s)) (alt : (∃ kA, (0 ≤ kA ∧ kA < cq_I g (x + 53) s) ∧ OK1 x s kA g g1 ∧ F' = dkF F_ (20 * s + kA) (20 * s + (cq_I g (x + 53) s - 1)) ∧ e4 h h' (T s + 5) (fun r => if r = cq_I g (x + 53) s - 1 then none else shT (cq_A h (T s + 5)) kA (cq_I g (x + 53) s - 1) r)) ∨ ∃ k, (0 ≤ k ∧ cq_I g (x + 35) s ≠ 0) ∧ OK2 x s k g g1 ∧ enE x g' F_ F' s (cq_I g (x + 53) s) k.toNat ∧ e4 h h' (T s + 5) (kpG (cq_A h (T s + 5)) (cq_I g (x + 53) s) k (fun _ => cq_A h (T s) 11)) ∧ cq_I g (x + 53) s + k ≤ 20) : TX c x nt n T Lf dom sd rt ct dp kd m' h' g' := by
  have fo := F.fo u v hu.1 hu.2 hv.1 hv.2
  have r4 := fo.r4
  have sr := fo.ss i hi.1 hi.2
  rw [← es] at sr
  have k20 := sr.k20
  have hr := sr.hr
  have zr := X.q1 u v i hu.1 hu.2 hv.1 hv.2 hi.1 hi.2
  rw [← es] at zr
  have m1 := zr.2.2.2.1
  have k2 := zr.2.2.1.2.1
  have k3 := zr.2.2.1.2.2.1
  obtain ⟨Q, oI⟩ := PMQ.mk1 (w := 6 * u + v) (i := i) (by omega) f e72 eT_
  obtain ⟨N, O⟩ := zN_0 C e e10 U
  have hk : ∀ t, kd t ≠ 0 → kd t = kd t := fun _ _ => rfl
  have B' := X.b.ext C0 C hC hc W N O hk (fun t z => Or.inl z) (fun t z => by have := X.b.k2 t z; have := e.1.1; omega) hm
  have c18 := C.2.2.2.2.2.2.2.2.2.2.2.2.2.2.2.2.2.1
  have e13 := c18 _ 3 1 k2 (Or.inr (Or.inr ⟨rfl, rfl⟩)) (he1 _ k2)
  have l72 : cq_I g x 72 ≤ cq_I g' x 72 := by rw [Q.x72]; exact Int.le_refl _
  rcases alt with ⟨kA, ka, ok, eF, e4_⟩ | ⟨k, ⟨k0, rc⟩, ok, ⟨F1, t', kp, tm, eF⟩, e4_, kl⟩
  · have rr : ∀ o j, o ∈ tR → ¬ (o = 57 ∧ 20 * s + kA ≤ j ∧ j < 20 * s + (cq_I g (x + 53) s - 1)) → cq_I g' (x + o) j = cq_I g (x + o) j := fun o j w1 w2 => by
      rw [re o w1 j, eF]
      unfold dkF
      rw [if_neg w2]
      exact (hF o w1 j).symm
    refine X.opA F C0 C he1 B' zE.refl N hk X.kz hu hv hi es Q (fun o j w1 w2 w3 w4 => rr o j w1 (by omega)) e7 (fun d sd_ nd => ?_) ?_
    · rw [e4_ d sd_, if_neg nd]
    · refine zr.op1 X.b C0 C zE.refl N ea e13 ka (fun r r0 r1 => ?_) (fun o w => ?_) ?_ (fun o r w r0 r1 => ?_) l72
      · rw [e4_ _ k3, if_pos rfl]
        show (if r = cq_I g (x + 53) s - 1 then none else shT (cq_A h (T s + 5)) kA (cq_I g (x + 53) s - 1) r) = _
        rw [if_neg (by omega)]
        unfold shT
        by_cases z : kA ≤ r
        · rw [if_pos ⟨z, r1⟩, if_pos z]
        · rw [if_neg (fun y => z y.1), if_neg z]
      · rcases w with w | w | w | w | w | w <;> rw [w]
        · rw [oI 40 s (by decide) (by decide) (by decide)]
          exact ok.I_ 40 s (by unfold inS; omega) (by decide) (by decide) (by decide)
        · rw [oI 41 s (by decide) (by decide) (by decide)]
          exact ok.I_ 41 s (by unfold inS; omega) (by decide) (by decide) (by decide)
        · exact rr 48 s (by decide) (by omega)
        · exact rr 50 s (by decide) (by omega)
        · exact rr 51 s (by decide) (by omega)
        · exact rr 52 s (by decide) (by omega)
      · rw [oI 53 s (by decide) (by decide) (by decide)]
        exact ok.i53
      · rcases w with w | w <;> rw [w]
        · rw [oI 55 _ (by decide) (by decide) (by decide)]
          exact (ok.k_ r r0 r1).2.1
        · rw [re 57 (by decide), eF]
          unfold dkF
          by_cases z : kA ≤ r
          · rw [if_pos ⟨rfl, by omega, by omega⟩, if_pos z]
            have : 20 * s + r + 1 = 20 * s + (r + 1) := by omega
            rw [this]
            exact (hF 57 (by decide) _).symm
          · rw [if_neg (by omega), if_neg z]
            exact (hF 57 (by decide) _).symm
  · obtain ⟨kp1, kp2, kp3⟩ := kp
    have kt : (k.toNat : Int) = k := by omega
    have f51 := hF 51 (by decide) s
    rw [← f51] at kp2 kp3
    have rr : ∀ o j, o ∈ tR → ¬ (o = 51 ∧ j = s) → ¬ (o = 57 ∧ 20 * s + cq_I g (x + 53) s ≤ j ∧ j < 20 * s + cq_I g (x + 53) s + k) → cq_I g' (x + o) j = cq_I g (x + o) j := fun o j w1 w2 w3 => by
      rw [re o w1 j, eF]
      unfold upF
      rw [if_neg w2, kp1 o j w2 (by rw [kt]; exact w3)]
      exact (hF o w1 j).symm
    have r51 : cq_I g' (x + 51) s = t' := by
      rw [re 51 (by decide), eF]
      exact if_pos ⟨rfl, rfl⟩
    obtain ⟨R, eR⟩ : ∃ R, cq_A h (T s) 11 = some R := by
      cases z : cq_A h (T s) 11 with
      | none => exact absurd (hr.mp z) rc
      | some R => exact ⟨R, rfl⟩
    have e5 : ∀ r, cq_A h' (T s + 5) r = if cq_I g (x + 53) s ≤ r ∧ r < cq_I g (x + 53) s + k then cq_A h (T s) 11 else cq_A h (T s + 5) r := fun r => by
      rw [e4_ _ k3, if_pos rfl]
      rfl
    refine X.opA F C0 C he1 B' zE.refl N hk X.kz hu hv hi es Q (fun o j w1 w2 w3 w4 => rr o j w1 (by omega) (by omega)) e7 (fun d sd_ nd => ?_) ?_
    · rw [e4_ d sd_, if_neg nd]
    · refine zr.op2 (R := R) X.b C0 C zE.refl N ea e13 k0 k20.1 r41 eR (fun r r0 r1 => ?_) (fun j j0 j1 => ?_) (fun o w => ?_) ?_ ?_ ?_ (fun o r w r0 r1 => ?_) (fun j j0 j1 => ⟨?_, ?_⟩) l72
      · rw [e5, if_neg (by omega)]
      · rw [e5, if_pos ⟨by omega, by omega⟩, eR]
      · rcases w with w | w | w | w <;> rw [w]
        · rw [oI 40 s (by decide) (by decide) (by decide)]
          exact ok.I_ 40 s (by unfold inS; omega) (by decide) (by decide) (by decide) (by decide)
        · exact rr 48 s (by decide) (by omega) (by omega)
        · exact rr 50 s (by decide) (by omega) (by omega)
        · exact rr 52 s (by decide) (by omega) (by omega)
      · rw [oI 41 s (by decide) (by decide) (by decide)]
        exact ok.i41
      · rw [r51]
        exact ⟨_, kp2, tm⟩
      · rw [oI 53 s (by decide) (by decide) (by decide)]
        exact ok.i53
      · rcases w with w | w <;> rw [w]
        · rw [oI 55 _ (by decide) (by decide) (by decide)]
          exact (ok.k_ r r0 r1).2.1
        · exact rr 57 _ (by decide) (by omega) (by omega)
      · rw [oI 55 _ (by decide) (by decide) (by decide)]
        exact (ok.n_ j j0 j1).2.1
      · have := kp3 j.toNat (by omega)
        have ej : 20 * s + cq_I g (x + 53) s + (j.toNat : Int) = 20 * s + (cq_I g (x + 53) s + j) := by omega
        rw [ej] at this
        rw [re 57 (by decide), eF]
        unfold upF
        rw [if_neg (by omega)]
        exact this
end
