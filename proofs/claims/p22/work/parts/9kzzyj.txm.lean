/-! turns and terms: a letter comes -/
section
variable {c x nt : Nat} {n : Int} {T Lf T' Lf' : Int → Nat} {dom sd dom' sd' : Nat → Prop} {rt ct rt' ct' : Nat → Int} {dp dp' : Nat → Nat} {kd kd' : Int → Nat} {m m' : Nat} {h g h' g' : cx_Q} {E E0 : Nat → Option Int} {pe : Int → Nat} {ro : Int → Int → Nat} {pa lb tp rd en op ob : Nat} {L Q_ D_ : Int} {U_ V_ : Int → Int} {h0 : cx_Q}
theorem TW.tg (W : TW x g) (e0 : ∀ j, j = 2 ∨ j = 33 → cq_I g' x j = cq_I g x j) (eI : ∀ o j, 1 ≤ o → o ≤ 65 → cq_I g' (x + o) j = cq_I g (x + o) j) : TW x g' := by
  have tv : ∀ o, o ∈ tV → 1 ≤ o ∧ o ≤ 65 := by decide
  refine ⟨fun t t' => ?_, fun t => ?_, fun o ho j => ?_, ?_⟩
  · rw [e0 2 (by omega), eI 2 t (by decide) (by decide), eI 2 t' (by decide) (by decide), eI 3 t (by decide) (by decide), eI 3 t' (by decide) (by decide), eI 4 t (by decide) (by decide), eI 4 t' (by decide) (by decide), eI 5 t (by decide) (by decide), eI 5 t' (by decide) (by decide), eI 6 t (by decide) (by decide), eI 6 t' (by decide) (by decide)]
    exact W.1 t t'
  · rw [e0 2 (by omega), eI 3 t (by decide) (by decide), eI 4 t (by decide) (by decide), eI 5 t (by decide) (by decide), eI 6 t (by decide) (by decide)]
    exact W.2.1 t
  · rw [e0 2 (by omega), eI o j (tv o ho).1 (tv o ho).2]
    exact W.2.2.1 o ho j
  · rw [e0 2 (by omega), e0 33 (by omega)]
    exact W.2.2.2
/-- the reference's cells are as they were -/
theorem TX.tg (X : TX c x nt n T Lf dom sd rt ct dp kd m h g) (F : FX c x n pe ro pa lb tp rd en op ob T Lf h g) (C0 : CT c E0 h [] h) (hc : cq_s h c = 9) (e0 : ∀ j, j = 2 ∨ j = 10 ∨ j = 33 ∨ j = 72 → cq_I g' x j = cq_I g x j) (eI : ∀ o j, 1 ≤ o → o ≤ 65 → cq_I g' (x + o) j = cq_I g (x + o) j) (eJ : ∀ o j, 1 ≤ o → o ≤ 65 → cq_J g' (x + o) j = cq_J g (x + o) j) : TX c x nt n T Lf dom sd rt ct dp kd m h g' := by
  have C : CT c (fun _ => none) h [] h := C0.an
  refine X.quiet F C0 C rfl hc (fun _ _ => rfl) (X.b.tw.tg (fun j w => e0 j (by omega)) eI) X.b.u1 (Nat.le_refl _) ⟨⟨?_, ?_⟩, fun k o _ w1 w2 => eI o k (by omega) (by omega), fun k k0 k1 => ?_, fun k _ => ⟨eI 10 k (by decide) (by decide), eJ 9 k (by decide) (by decide)⟩⟩ (e0 10 (by omega)) ⟨fun o j w => eI o j (by omega) (by omega), fun j => Or.inl (eI 30 j (by decide) (by decide))⟩ (e0 72 (by omega)) (fun o j w => eI o j (by omega) (by omega)) (fun o j w => eJ o j (by omega) (by omega))
  · rw [e0 2 (by omega)]; exact Int.le_refl _
  · rw [e0 10 (by omega)]; exact Int.le_refl _
  · rw [e0 2 (by omega)] at k1
    omega
/-- what a first letter must be -/
theorem cfA1_0 {l u ln on : Int} {who e : Int64} (A : m_cfA1 g x l u ln on who e = 0) (hon : 0 ≤ on) : (1 ≤ ln ∧ ln ≤ cq_I g (x + 16) u) ∧ (0 ≤ on ∧ (on ≠ 0 → on ≤ cq_I g (x + 23) u)) ∧ cq_I g x 81 ≤ 10 := by
  unfold m_cfA1 at A
  by_cases c1 : ln < 1 ∨ cq_I g (x + 16) u < ln ∨ ln < cq_I g (x + 16) u - 1
  · rw [if_pos c1] at A
    exact absurd A (by decide)
  rw [if_neg c1] at A
  by_cases c2 : m_cfH g x u ln e ≠ -2
  · rw [if_pos c2] at A
    exact absurd A (by decide)
  rw [if_neg c2] at A
  clear c2
  unfold m_cfA2 at A
  by_cases c3 : on ≠ 0 ∧ (cq_I g (x + 23) u < on ∨ cq_I g (x + 28) (61 * u + on) = 0)
  · rw [if_pos c3] at A
    exact absurd A (by decide)
  rw [if_neg c3] at A
  by_cases c4 : cq_I g x 85 = 100
  · rw [if_pos c4] at A
    exact absurd A (by decide)
  rw [if_neg c4] at A
  by_cases c5 : 10 < cq_I g x 81
  · rw [if_pos c5] at A
    exact absurd A (by decide)
  clear A
  refine ⟨by omega, ⟨hon, fun w => ?_⟩, by omega⟩
  by_cases z : cq_I g (x + 23) u < on
  · exact absurd ⟨w, Or.inl z⟩ c3
  · omega
end
