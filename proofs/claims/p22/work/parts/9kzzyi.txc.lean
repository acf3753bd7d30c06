/-! turns and terms: a letter is copied -/
section
variable {c x nt : Nat} {n : Int} {T Lf T' Lf' : Int → Nat} {dom sd dom' sd' : Nat → Prop} {rt ct rt' ct' : Nat → Int} {dp dp' : Nat → Nat} {kd kd' : Int → Nat} {m m' : Nat} {h g h' g' : cx_Q} {E E0 : Nat → Option Int} {pe : Int → Nat} {ro : Int → Int → Nat} {pa lb tp rd en op ob : Nat}
theorem TX.cop (X : TX c x nt n T Lf dom sd rt ct dp kd m h g) (F : FX c x n pe ro pa lb tp rd en op ob T Lf h g) (C0 : CT c E0 h [] h) (C : CT c E h [] h') (hC : E c = none) (hc : cq_s h c = 9) (he : ∀ d, cq_s h d = 7 ∨ cq_s h d = 174 ∨ cq_s h d = 1 → E d = none) (W : TW x g') (U : ∀ w w', cq_s h' w = 6 → cq_s h' w' = 6 → cq_J h' w 1 = cq_J h' w' 1 → w = w') (hm : m ≤ m') {l : Int} (hl : 0 ≤ l ∧ l < cq_I g x 72) (hl1 : ∀ k, k ≠ cq_I g x 72 → Lf' k = Lf k) (hl2 : cq_A h' (Lf' (cq_I g x 72)) 2 = cq_A h (Lf l) 2) (hl3 : cq_I h' (Lf' (cq_I g x 72)) 3 = cq_I h (Lf l) 3) (e : exT x g g') (e10 : cq_I g' x 10 = cq_I g x 10) (re : RE x g' (upF (fR x g) 64 (cq_I g x 72) (cq_I g (x + 64) l))) (g72 : cq_I g' x 72 = cq_I g x 72 + 1) (gI : ∀ o j, 1 ≤ o → o ≤ 61 → o ∉ tL → cq_I g' (x + o) j = cq_I g (x + o) j) (gJ : ∀ o j, 1 ≤ o → o ≤ 61 → o ∉ tL → cq_J g' (x + o) j = cq_J g (x + o) j) : TX c x nt n T Lf' dom sd rt ct dp kd m' h' g' := by
  have rr : ∀ o j, o ∈ tR → ¬ (o = 64 ∧ j = cq_I g x 72) → cq_I g' (x + o) j = cq_I g (x + o) j := fun o j w1 w3 => by
    rw [re o w1 j]
    unfold upF
    rw [if_neg w3]
    rfl
  have r64 : cq_I g' (x + 64) (cq_I g x 72) = cq_I g (x + 64) l := by
    rw [re 64 (by decide)]
    exact if_pos ⟨rfl, rfl⟩
  obtain ⟨N, O⟩ := zN_0 C e e10 U
  have hk : ∀ t, kd t ≠ 0 → kd t = kd t := fun _ _ => rfl
  have B' := X.b.ext C0 C hC hc W N O hk (fun t z => Or.inl z) (fun t z => by have := X.b.k2 t z; have := e.1.1; omega) hm
  refine X.asm F B' N hk X.kz (fun o j w => ?_) (fun o j w => ?_) (fun u' v' u0 u1 v0 v1 q => gI 30 _ (by decide) (by decide) (by decide)) (fun u' v' i u0 u1 v0 v1 i0 i1 => ?_) (fun k k0 k1 => ?_)
  · rcases w with w | w | w | w | w | w <;> rw [w]
    · exact gI 11 j (by decide) (by decide) (by decide)
    · exact rr 15 j (by decide) (by omega)
    · exact gI 16 j (by decide) (by decide) (by decide)
    · exact rr 19 j (by decide) (by omega)
    · exact gI 23 j (by decide) (by decide) (by decide)
    · exact rr 26 j (by decide) (by omega)
  · rcases w with w | w | w <;> rw [w]
    · exact gJ 14 j (by decide) (by decide) (by decide)
    · exact gJ 18 j (by decide) (by decide) (by decide)
    · exact gJ 25 j (by decide) (by decide) (by decide)
  · rw [gI 30 _ (by decide) (by decide) (by decide)] at i1
    rw [gI 29 _ (by decide) (by decide) (by decide)]
    have Q := X.q1 u' v' i u0 u1 v0 v1 i0 i1
    obtain ⟨f1', f2', f3'⟩ := C.fs he Q
    refine Q.fr X.b C0 C zE.refl N f1' f2' f3' (fun o w => ?_) (fun o j w _ _ => ?_) (by omega)
    · rcases w with w | w | w | w | w | w | w <;> rw [w]
      · exact gI 40 _ (by decide) (by decide) (by decide)
      · exact gI 41 _ (by decide) (by decide) (by decide)
      · exact rr 48 _ (by decide) (by omega)
      · exact rr 50 _ (by decide) (by omega)
      · exact rr 51 _ (by decide) (by omega)
      · exact rr 52 _ (by decide) (by omega)
      · exact gI 53 _ (by decide) (by decide) (by decide)
    · rcases w with w | w <;> rw [w]
      · exact gI 55 _ (by decide) (by decide) (by decide)
      · exact rr 57 _ (by decide) (by omega)
  · by_cases z : k = cq_I g x 72
    · obtain ⟨S, p1, p2, p3, p4, p5⟩ := X.l1 l hl.1 hl.2
      rw [z]
      refine ⟨S, by rw [hl2]; exact p1, p2, by rw [hl3]; exact p3, by rw [hl3]; exact p4, ?_⟩
      rw [hl3, r64]
      exact kx_ex e p5
    · have k2' : k < cq_I g x 72 := by omega
      rw [hl1 k z]
      exact (X.l1 k k0 k2').fr X.b C zE.refl e (F.fl k k0 k2').2.s0 (rr 64 k (by decide) (by omega))
end
