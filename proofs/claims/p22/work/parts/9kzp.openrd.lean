/-! the reference, exactly: what was read with the key of an opening -/
section
variable {x : Nat} {l s u : Int} {g : cx_Q}
theorem openQ_rd (k20 : 0 ≤ cq_I g (x + 53) s ∧ cq_I g (x + 53) s ≤ 20) (h81 : 0 ≤ cq_I g x 81) (ok : m_openA g x l s = 0) : RD x (m_oky g x s) g (m_openQ g x u s) := by
  have kr : m_keptAt g x s = -2 ∨ (0 ≤ m_keptAt g x s ∧ m_keptAt g x s < 0 + ((cq_I g (x + 53) s).toNat : Int)) := by unfold m_keptAt; exact m_ka_rg
  unfold m_openA at ok
  unfold m_oky m_openQ
  rcases kr with z | z
  · have zn : m_keptAt g x s < 0 := by omega
    rw [if_pos zn] at ok
    rw [if_pos zn, if_pos zn]
    clear z
    unfold m_oA at ok
    by_cases c1 : m_tn g x s = 0 ∧ cq_I g x 81 < cq_I g (x + 41) s
    · rw [if_pos c1] at ok; exact absurd ok (by decide)
    rw [if_neg c1] at ok
    by_cases c2 : 10 < m_bef g x s (m_tn g x s) + m_beh g x s (m_tn g x s) ∨ 20 < cq_I g (x + 53) s + m_bef g x s (m_tn g x s) + m_beh g x s (m_tn g x s)
    · rw [if_pos c2] at ok; exact absurd ok (by decide)
    clear ok
    rcases tn_01 (g := g) (x := x) (s := s) with t | t
    · rw [t] at c1 c2 ⊢
      have b0 : m_bef g x s 0 = 0 := by
        unfold m_bef
        rw [if_neg (fun q => absurd rfl q.1)]
      have b1 : m_beh g x s 0 = cq_I g x 81 - cq_I g (x + 41) s := by
        unfold m_beh
        rw [if_neg (fun q => absurd rfl q)]
      have eT : m_oT g x u s 0 = g := by
        unfold m_oT
        rw [if_neg (fun q => absurd rfl q)]
      rw [b0, b1] at c2
      rw [eT]
      exact (oEnd_q (u := u) ⟨k20.1, by omega, by omega⟩).2.1
    · rw [t] at c2 ⊢
      have b1 : m_beh g x s 1 = cq_I g x 81 := by
        unfold m_beh
        rw [if_pos (by decide)]
      have b0 : 0 ≤ m_bef g x s 1 := by
        unfold m_bef
        split <;> omega
      rw [b1] at c2
      generalize m_okey g x s 1 = kk
      exact (open3_q (u := u) (k := kk) ⟨k20.1, b0, h81, by omega⟩).2.1
  · have zn : ¬ m_keptAt g x s < 0 := by omega
    rw [if_neg zn, if_neg zn]
    exact (open1_q (u := u) (by omega) k20.2).2.1
end
