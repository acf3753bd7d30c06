/-! class and reference side by side: SESSIONS that the other began, beginnings that were seen -/
theorem ci_none {f : Int → Int} : ∀ {n : Nat} {k : Int}, (∀ j, k ≤ j → j < k + n → f j ≠ 0) → m_ci f n k = -2 := by
  intro n
  induction n with
  | zero =>
    intro k _
    exact m_ci_0
  | succ n ih =>
    intro k e
    rw [m_ci_s, if_neg (e k (Int.le_refl _) (by omega))]
    exact ih (fun j j0 j1 => e j (by omega) (by omega))
theorem ci_at {f : Int → Int} {m : Int} : ∀ {n : Nat} {k : Int}, k ≤ m → m < k + n → f m = 0 → (∀ j, k ≤ j → j < m → f j ≠ 0) → m_ci f n k = m := by
  intro n
  induction n with
  | zero =>
    intro k h1 h2
    omega
  | succ n ih =>
    intro k h1 h2 h3 h4
    rw [m_ci_s]
    by_cases w : k = m
    · rw [w, if_pos h3]
    · rw [if_neg (h4 k (Int.le_refl _) (by omega))]
      exact ih (by omega) (by omega) h3 (fun j j0 j1 => h4 j (by omega) j1)
section
variable {x r : Nat} {w : Int} {T : Int → Nat} {h g : cx_Q} {e : Int64}
theorem bg_iff (F : FO x r w T h g) {k : Int} (k0 : 0 ≤ k) (k1 : k < cq_I g (x + 30) w) : bgP h r e k ↔ m_cfB g x w e k = 0 := by
  have at_ := F.at_ k k0 k1
  have sr := F.ss k k0 k1
  have bg := sr.bg
  have be := sr.be
  unfold m_cfB
  generalize cq_I g (x + 29) (4 * w + k) = s at at_ sr bg be ⊢
  unfold bgP
  constructor
  · intro q
    have q2 := q (T s) at_
    rw [if_pos ⟨by rw [← bg]; exact q2.1, by rw [← be]; exact q2.2⟩]
  · intro q
    by_cases z : cq_I g (x + 44) s = 0 ∧ cq_J g (x + 45) s = e
    · intro a q1
      rw [at_] at q1
      have ea := Option.some.inj q1
      rw [← ea]
      exact ⟨by rw [bg]; exact z.1, by rw [be]; exact z.2⟩
    · rw [if_neg z] at q
      exact absurd q (by decide)
theorem bg_none (F : FO x r w T h g) (no : ∀ k, 0 ≤ k → k < cq_I h r 1 → ¬ bgP h r e k) : m_cfI g x w e = -2 := by
  have rm := F.rm
  have r4 := F.r4
  unfold m_cfI
  exact ci_none (fun j j0 j1 q => no j j0 (by omega) ((bg_iff F j0 (by omega)).mpr q))
theorem bg_at (F : FO x r w T h g) {m : Int} (m0 : 0 ≤ m) (m1 : m < cq_I h r 1) (q : bgP h r e m) (no : ∀ k, 0 ≤ k → k < m → ¬ bgP h r e k) : m_cfI g x w e = m := by
  have rm := F.rm
  have r4 := F.r4
  unfold m_cfI
  exact ci_at m0 (by omega) ((bg_iff F m0 (by omega)).mp q) (fun j j0 j1 z => no j j0 j1 ((bg_iff F j0 (by omega)).mpr z))
end
section
variable {x p : Nat} {u : Int} {h g : cx_Q} {e : Int64} {ln : Int}
theorem hs_iff (F : FU x p u h g) {k : Int} (k0 : 0 ≤ k) (k1 : k < cq_I g (x + 58) u) : hsP h (p + 4) (p + 5) e ln k ↔ m_cfF g x u ln e k = 0 := by
  have he := F.he k k0 k1
  unfold m_cfF hsP
  rw [he.1, he.2]
  constructor
  · intro q
    rw [if_pos ⟨q.2, q.1⟩]
  · intro q
    by_cases z : cq_I g (x + 59) (100 * u + k) = ln ∧ cq_J g (x + 60) (100 * u + k) = e
    · exact ⟨z.2, z.1⟩
    · rw [if_neg z] at q
      exact absurd q (by decide)
theorem hs_none (F : FU x p u h g) (no : ∀ k, 0 ≤ k → k < cq_I h p 16 → ¬ hsP h (p + 4) (p + 5) e ln k) : m_cfH g x u ln e = -2 := by
  have hd := F.hd
  have h1 := F.h100
  unfold m_cfH
  exact ci_none (fun j j0 j1 q => no j j0 (by omega) ((hs_iff F j0 (by omega)).mpr q))
theorem hs_some (F : FU x p u h g) (q : ∃ k, 0 ≤ k ∧ k < cq_I h p 16 ∧ hsP h (p + 4) (p + 5) e ln k) : m_cfH g x u ln e ≠ -2 := by
  obtain ⟨k, k0, k1, q⟩ := q
  have hd := F.hd
  have h1 := F.h100
  intro z
  unfold m_cfH at z
  have key : ∀ (n : Nat) (i : Int), m_ci (m_cfF g x u ln e) n i = -2 → i ≤ k → k < i + n → 0 ≤ i → False := by
    intro n
    induction n with
    | zero => intro i _ a b; omega
    | succ n ih =>
      intro i zz a b c
      rw [m_ci_s] at zz
      by_cases y : m_cfF g x u ln e i = 0
      · rw [if_pos y] at zz; omega
      · rw [if_neg y] at zz
        by_cases y2 : i = k
        · rw [y2] at y
          exact y ((hs_iff F k0 (by omega)).mp q)
        · exact ih (i + 1) zz (by omega) (by omega) (by omega)
  exact key _ 0 z k0 (by omega) (by omega)
end
