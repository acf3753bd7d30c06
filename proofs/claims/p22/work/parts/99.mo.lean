/-! what the reference does when a letter comes keeps its invariant -/
section
variable {x : Nat} {n L Q D : Int} {U V : Int → Int} {h0 h : cx_Q}
theorem MI.oEnd (M : MI x n L Q D U V h0 h) {s : Int} {k : Int64} (h83 : 0 ≤ cq_I h x 83 ∧ cq_I h x 83 ≤ 40) (h81 : 0 ≤ cq_I h x 81 ∧ cq_I h x 81 ≤ 65535) (hl : cq_I h (x + 41) s ≤ cq_I h x 81) (h53 : cq_I h (x + 53) s + (cq_I h x 81 - cq_I h (x + 41) s) ≤ 20) : MI x n L Q D U V h0 (m_oEnd h x s k) := by
  have a41 := M.r41 s
  have a53 := M.r53 s
  have k41 := m_keep_41 (x := x) (s := s) (n := (cq_I h x 81 - cq_I h (x + 41) s).toNat) (h := h)
  unfold m_oEnd
  have M1 := MI.keep s (cq_I h x 81 - cq_I h (x + 41) s).toNat M (by omega) (by omega)
  have x83 := m_keep_x (x := x) (s := s) (j := 83) (n := (cq_I h x 81 - cq_I h (x + 41) s).toNat) (h := h)
  generalize m_keep x s (cq_I h x 81 - cq_I h (x + 41) s).toNat h = g at k41 M1 x83 ⊢
  have M2 := MI.step M1 (s := s) (by omega)
  have y83 := (m_step_x (h := g) (x := x) (s := s) (j := 83)).trans x83
  generalize m_step g x s = g2 at M2 y83 ⊢
  have M3 := MI.readText M2 (k := k) (by omega)
  generalize m_readText g2 x k = g3 at M3 ⊢
  exact MI.sI M3 (o := 43) (v := 0) True.intro (by decide) (by decide)
theorem MI.openQ (M : MI x n L Q D U V h0 h) {l u s : Int} (hR : rdI x h l) (hA : m_openA h x l s = 0) : MI x n L Q (D + 1) U V h0 (m_openQ h x u s) := by
  obtain ⟨r1, r2, r3, r4, r5, r6, r7, r8⟩ := hR
  have a41 := M.r41 s
  have a53 := M.r53 s
  unfold m_openA at hA
  unfold m_openQ
  by_cases w : m_keptAt h x s < 0
  · rw [if_pos w] at hA
    rw [if_pos w]
    generalize m_tn h x s = t at hA ⊢
    unfold m_oA at hA
    by_cases c1 : t = 0 ∧ cq_I h x 81 < cq_I h (x + 41) s
    · rw [if_pos c1] at hA; omega
    rw [if_neg c1] at hA
    by_cases c2 : 10 < m_bef h x s t + m_beh h x s t ∨ 20 < cq_I h (x + 53) s + m_bef h x s t + m_beh h x s t
    · rw [if_pos c2] at hA; omega
    unfold m_bef m_beh at c2
    unfold m_oT
    by_cases c3 : t = 0
    · rw [if_neg (fun q => q c3)]
      rw [if_neg (fun q => q.1 c3), if_neg (fun q => q c3)] at c2
      exact (MI.oEnd M r4 r8 (by omega) (by omega)).up (Int.le_refl _) (by omega)
    · rw [if_pos c3]
      rw [if_pos c3] at c2
      have hk : MI x n L Q D U V h0 (m_oK0 h x s) ∧ (∀ j, cq_I (m_oK0 h x s) x j = cq_I h x j) ∧ cq_I (m_oK0 h x s) (x + 53) s + cq_I h x 81 ≤ 20 := by
        unfold m_oK0
        by_cases c4 : cq_I h (x + 35) s ≠ 0
        · rw [if_pos c4]
          by_cases c5 : cq_I h (x + 41) s < cq_I h x 80
          · rw [if_pos ⟨c3, c4, c5⟩] at c2
            exact ⟨MI.keep s _ M (by omega) (by omega), fun j => m_keep_x, by rw [m_keep_53]; omega⟩
          · rw [if_neg (fun q => c5 q.2.2)] at c2
            exact ⟨MI.keep s _ M (by omega) (by omega), fun j => m_keep_x, by rw [m_keep_53]; omega⟩
        · rw [if_neg c4]
          rw [if_neg (fun q => c4 q.2.1)] at c2
          exact ⟨M, fun j => rfl, by omega⟩
      have e41 := m_turn_41 (x := x) (h := m_oK0 h x s) (u := u) (s := s) (X := m_com h x s t)
      have e53 := m_turn_53 (x := x) (h := m_oK0 h x s) (u := u) (s := s) (j := s) (X := m_com h x s t)
      have ex := fun j => (m_turn_x (x := x) (h := m_oK0 h x s) (u := u) (s := s) (X := m_com h x s t) (j := j)).trans (hk.2.1 j)
      have e81 := ex 81
      have e83 := ex 83
      have M1 := MI.turn hk.1 (u := u) (s := s) (X := m_com h x s t)
      generalize m_turn (m_oK0 h x s) x u s (m_com h x s t) = g at M1 e41 e53 e81 e83 ⊢
      clear ex
      refine MI.oEnd M1 ?_ ?_ ?_ ?_
      · omega
      · omega
      · omega
      · omega
  · rw [if_neg w]
    have k1 : 1 ≤ cq_I h (x + 53) s := by
      unfold m_keptAt at w
      by_cases q : (cq_I h (x + 53) s).toNat = 0
      · rw [q] at w
        exact absurd (by unfold m_ka; omega) w
      · omega
    unfold m_openK
    have M1 := MI.drop M k1 (i := m_keptAt h x s)
    have x83 := m_drop_x (h := h) (x := x) (s := s) (i := m_keptAt h x s) (j := 83)
    generalize m_drop h x s (m_keptAt h x s) = g at M1 x83 ⊢
    generalize cq_J h (x + 56) (20 * s + m_keptAt h x s) = k
    have M3 := MI.readText M1 (k := k) (by omega)
    generalize m_readText g x k = g3 at M3 ⊢
    exact MI.up (MI.sI M3 (o := 43) (v := 0) True.intro (by decide) (by decide)) (Int.le_refl _) (by omega)
end
