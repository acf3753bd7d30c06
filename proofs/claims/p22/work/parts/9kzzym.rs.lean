/-! what a call draws, and takes out of the DIRECTORY -/
/-- seeds stay; how many numbers are drawn, how many ONCE keys are in the DIRECTORY -/
def RS (x : Nat) (n : Int) (g g' : cx_Q) : Prop := ∀ u, 0 ≤ u → u < n → cq_J g' (x + 1) u = cq_J g (x + 1) u ∧ (cq_I g' (x + 11) u = 0 → cq_I g (x + 11) u = 0 ∧ cq_I g' (x + 12) u = cq_I g (x + 12) u) ∧ (m_onceDir g' x u ≤ m_onceDir g x u ∨ m_onceDir g' x u ≤ 12) ∧ (cq_I g' (x + 12) u - m_onceDir g' x u ≤ cq_I g (x + 12) u - m_onceDir g x u + 2 ∨ (cq_I g (x + 11) u = 0 ∧ cq_I g' (x + 12) u ≤ cq_I g (x + 12) u + 3 ∧ m_onceDir g' x u = m_onceDir g x u))
/-- numbers drawn behind k calls -/
def DBf (x : Nat) (n k : Int) (g : cx_Q) : Prop := ∀ u, 0 ≤ u → u < n → (cq_I g (x + 11) u = 0 → cq_I g (x + 12) u = 0) ∧ cq_I g (x + 12) u ≤ 2 * k + 1 + m_onceDir g x u ∧ m_onceDir g x u ≤ 12
section
variable {x : Nat} {n k : Int} {g g1 g' : cx_Q} {u v : Int}
theorem DBf.st (D : DBf x n k g) (hk : 0 ≤ k) (R : RS x n g g') : DBf x n (k + 1) g' := fun u u0 u1 => by
  obtain ⟨d1, d2, d3⟩ := D u u0 u1
  obtain ⟨_, r2, r3, r4⟩ := R u u0 u1
  have p := od_0 (g := g) (x := x) (u := u)
  have p' := od_0 (g := g') (x := x) (u := u)
  refine ⟨fun z => ?_, ?_, by omega⟩
  · obtain ⟨a, b⟩ := r2 z
    rw [b]
    exact d1 a
  · rcases r4 with r4 | ⟨r4, r5, r6⟩
    · omega
    · have := d1 r4
      omega
theorem DBf.b (D : DBf x n k g) (hk : k ≤ 64) : ∀ u, 0 ≤ u → u < n → cq_I g (x + 12) u ≤ 141 := fun u u0 u1 => by
  have := D u u0 u1
  omega
theorem RS.q (e1 : ∀ j, cq_J g' (x + 1) j = cq_J g (x + 1) j) (e11 : ∀ j, cq_I g' (x + 11) j = cq_I g (x + 11) j) (e12 : ∀ j, cq_I g' (x + 12) j = cq_I g (x + 12) j) (e23 : ∀ j, cq_I g' (x + 23) j = cq_I g (x + 23) j) (e27 : ∀ j, cq_I g' (x + 27) j = cq_I g (x + 27) j) : RS x n g g' := fun u u0 u1 => by
  have od : m_onceDir g' x u = m_onceDir g x u := od_c (fun _ _ _ => e27 _) (e23 _)
  rw [od, e11, e12]
  exact ⟨e1 u, fun z => ⟨z, rfl⟩, Or.inl (Int.le_refl _), Or.inl (by omega)⟩
theorem RS.refl : RS x n g g := RS.q (fun _ => rfl) (fun _ => rfl) (fun _ => rfl) (fun _ => rfl) (fun _ => rfl)
theorem RS.eT (R : RS x n g g1) (e : eT x g1 g') : RS x n g g' := fun u u0 u1 => by
  have od : m_onceDir g' x u = m_onceDir g1 x u := od_c (fun _ _ _ => by rw [e.fI (by decide) (by decide)]) (by rw [e.fI (by decide) (by decide)])
  rw [od, e.fI (by decide) (by decide), e.fI (by decide) (by decide), e.fJ (by decide) (by decide)]
  exact R u u0 u1
theorem RS.reg (hU : cq_I g (x + 11) u = 0) : RS x n g (m_register g x u) := fun w w0 w1 => by
  have R := reg_q (x := x) (u := u) (g := g)
  have L := lend_q (x := x) (u := u) (g := m_reg2 (m_reg1 g x u) x u)
  unfold m_register
  generalize m_reg2 (m_reg1 g x u) x u = gr at R L ⊢
  generalize m_lend gr x u = gq at L ⊢
  have od : m_onceDir gq x w = m_onceDir g x w := od_c (fun _ _ _ => by rw [L.I_ 27 _ (by decide) (by omega), R.I_ 27 _ (by decide) (by omega)]) (by rw [L.I_ 23 _ (by decide) (by omega), R.I_ 23 _ (by decide) (by omega)])
  have j1 : cq_J gq (x + 1) w = cq_J g (x + 1) w := by rw [L.J_ 1 _ (by decide) (by omega) (by omega), R.J_ 1 _ (by decide) (by omega)]
  rw [od, j1]
  by_cases z : w = u
  · rw [z]
    have e11 : cq_I gq (x + 11) u = 1 := by rw [L.I_ 11 _ (by decide) (by omega), R.i11]
    have e12 := L.i12
    have r12 := R.i12
    refine ⟨rfl, fun y => ?_, Or.inl (Int.le_refl _), Or.inr ⟨hU, by omega, rfl⟩⟩
    rw [e11] at y
    exact absurd y (by decide)
  · rw [L.I_ 11 _ (by decide) (by omega), R.I_ 11 _ (by decide) (by omega), L.I_ 12 _ (by decide) (by omega), R.I_ 12 _ (by decide) (by omega)]
    exact ⟨rfl, fun y => ⟨y, rfl⟩, Or.inl (Int.le_refl _), Or.inl (by omega)⟩
theorem RS.lend (hU : cq_I g (x + 11) u ≠ 0) : RS x n g (m_lend g x u) := fun w w0 w1 => by
  have L := lend_q (x := x) (u := u) (g := g)
  generalize m_lend g x u = gq at L ⊢
  have od : m_onceDir gq x w = m_onceDir g x w := od_c (fun _ _ _ => L.I_ 27 _ (by decide) (by omega)) (L.I_ 23 _ (by decide) (by omega))
  rw [od, L.J_ 1 _ (by decide) (by omega) (by omega), L.I_ 11 _ (by decide) (by omega)]
  by_cases z : w = u
  · rw [z]
    have e12 := L.i12
    exact ⟨rfl, fun y => absurd y hU, Or.inl (Int.le_refl _), Or.inl (by omega)⟩
  · rw [L.I_ 12 _ (by decide) (by omega)]
    exact ⟨rfl, fun y => ⟨y, rfl⟩, Or.inl (Int.le_refl _), Or.inl (by omega)⟩
theorem od_pub {w : Int} : ∀ (r : Nat) {g : cx_Q}, (∀ u, 0 ≤ cq_I g (x + 23) u ∧ cq_I g (x + 23) u ≤ 60) → cq_I g (x + 23) u + r ≤ 60 → m_onceDir (m_pub x u r g) x w = m_onceDir g x w + if w = u then (r : Int) else 0
  | 0, g, h60, hr => by
    rw [m_pub]
    split <;> omega
  | r + 1, g, h60, hr => by
    have P := pub_r (x := x) (u := u) r (g := g)
    have a1 : ∀ v', 0 ≤ cq_I (m_pub x u r g) (x + 23) v' ∧ cq_I (m_pub x u r g) (x + 23) v' ≤ 60 := fun v' => by
      have b1 := h60 v'
      by_cases z : v' = u
      · rw [z, P.i23]
        have := h60 u
        omega
      · rw [P.I_ 23 v' (by decide) (by omega) (by omega)]
        exact b1
    rw [m_pub_r, od_pub1 (fun v' => (a1 v').1) (a1 w).2 (by rw [P.i23]; omega), od_pub r h60 (by omega)]
    split <;> omega
theorem RS.pub {r : Nat} (h60 : ∀ u, 0 ≤ cq_I g (x + 23) u ∧ cq_I g (x + 23) u ≤ 60) (hr : cq_I g (x + 23) u + r ≤ 60) (h12 : m_onceDir g x u + r ≤ 12) (hU : cq_I g (x + 11) u ≠ 0) : RS x n g (m_pub x u r g) := fun w w0 w1 => by
  have P := pub_r (x := x) (u := u) r (g := g)
  have od := od_pub (x := x) (u := u) (w := w) r h60 hr
  generalize m_pub x u r g = gq at P od ⊢
  rw [od, P.J_ 1 w (by decide) (by omega), P.I_ 11 w (by decide) (by omega) (by omega)]
  by_cases z : w = u
  · rw [z, if_pos rfl, P.i12]
    exact ⟨rfl, fun y => absurd y hU, Or.inr h12, Or.inl (by omega)⟩
  · rw [if_neg z, P.I_ 12 w (by decide) (by omega) (by omega)]
    exact ⟨rfl, fun y => ⟨y, rfl⟩, Or.inl (by omega), Or.inl (by omega)⟩
theorem od_bn0 {w : Int} : m_onceDir (m_bn0 g x v) x w ≤ m_onceDir g x w ∧ m_onceDir g x w - 1 ≤ m_onceDir (m_bn0 g x v) x w := by
  have Q := bn0_q (x := x) (g := g) (v := v)
  generalize m_bn0 g x v = gq at Q ⊢
  unfold m_onceDir
  rw [Q.I_ 23 w (by decide) (by omega)]
  by_cases z : m_leastOnce g x v = 0
  · rw [m_oc_c (f := cq_I g (x + 27)) (f' := cq_I gq (x + 27)) (fun k _ _ => Q.I_ 27 _ (by decide) (fun y => y.2.2 z))]
    omega
  · exact m_oc_1 (f := cq_I g (x + 27)) (f' := cq_I gq (x + 27)) (p := 61 * v + m_leastOnce g x v) (fun j w1 => Q.I_ 27 _ (by decide) (fun y => w1 y.2.1)) (Q.i27 z) (Int.le_refl _) (by omega) (Or.inl rfl)
theorem RS.bn0 : RS x n g (m_bn0 g x v) := fun w w0 w1 => by
  have od := od_bn0 (g := g) (x := x) (v := v) (w := w)
  have Q := bn0_q (x := x) (g := g) (v := v)
  rw [Q.J_, Q.I_ 11 w (by decide) (by omega), Q.I_ 12 w (by decide) (by omega)]
  exact ⟨rfl, fun y => ⟨y, rfl⟩, Or.inl od.1, Or.inl (by omega)⟩
theorem RS.beg (hU : cq_I g (x + 11) u ≠ 0) (uv : u ≠ v) (r4 : 0 ≤ cq_I g (x + 30) (6 * u + v) ∧ cq_I g (x + 30) (6 * u + v) ≤ 4) (hv : m_onceDir (m_bn0 g x v) x u = m_onceDir g x u) : RS x n g (m_begin g x u v) := fun w w0 w1 => by
  have od := od_bn0 (g := g) (x := x) (v := v) (w := w)
  have Q0 := bn0_q (x := x) (g := g) (v := v)
  have D0 := draw_q (x := x) (u := u) (g := cq_sI (m_bn0 g x v) x 63 (cq_I g x 63 + 1))
  have eI : ∀ o j, 1 ≤ o → ¬ (o = 12 ∧ j = u) → cq_I (m_bnC g x u v) (x + o) j = cq_I (m_bn0 g x v) (x + o) j := fun o j w1 w2 => by
    unfold m_bnC
    rw [D0.I_ o j w1 w2, mm_sI, if_neg (fun z => by omega)]
  have e12 : cq_I (m_bnC g x u v) (x + 12) u = cq_I g (x + 12) u + 1 := by
    unfold m_bnC
    rw [D0.i12, mm_sI, if_neg (fun z => by omega), Q0.I_ 12 u (by decide) (by omega)]
  have eJ : ∀ o j, 1 ≤ o → cq_J (m_bnC g x u v) (x + o) j = cq_J g (x + o) j := fun o j w1 => by
    unfold m_bnC
    rw [D0.J_ o j w1, mm_JI, Q0.J_ o j]
  have B := bn2_q (x := x) (g := m_bnC g x u v) (u := u) (v := v) (k := m_leastOnce g x v) (R := m_bnR (m_bnC g x u v) x u v (m_leastOnce g x v) (cq_J g (x + 20) v)) (ot := cq_J g (x + 20) v) (eO := cq_J (m_bnC g x u v) x 32) (by rw [eI 30 _ (by decide) (by omega), Q0.I_ 30 _ (by decide) (by omega)]; exact r4)
  have em : m_begin g x u v = m_bn2 (m_bnC g x u v) x u v (m_leastOnce g x v) (m_bnR (m_bnC g x u v) x u v (m_leastOnce g x v) (cq_J g (x + 20) v)) (cq_J g (x + 20) v) (cq_J (m_bnC g x u v) x 32) := by
    unfold m_begin
    rfl
  rw [em]
  generalize m_bn2 (m_bnC g x u v) x u v (m_leastOnce g x v) (m_bnR (m_bnC g x u v) x u v (m_leastOnce g x v) (cq_J g (x + 20) v)) (cq_J g (x + 20) v) (cq_J (m_bnC g x u v) x 32) = gq at B ⊢
  generalize m_bnC g x u v = gc at *
  generalize m_slotN gc x (6 * u + v) = sl at *
  have od2 : m_onceDir gq x w = m_onceDir (m_bn0 g x v) x w := od_c (fun _ _ _ => by rw [B.I_ 27 _ (by decide) (by omega) (by omega) (by omega) (by omega), eI 27 _ (by decide) (by omega)]) (by rw [B.I_ 23 _ (by decide) (by omega) (by omega) (by omega) (by omega), eI 23 _ (by decide) (by omega)])
  rw [od2, B.J_ 1 w (by decide) (by omega), eJ 1 w (by decide), B.I_ 11 w (by decide) (by omega) (by omega) (by omega) (by omega), eI 11 w (by decide) (by omega), Q0.I_ 11 w (by decide) (by omega)]
  by_cases z : w = u
  · have b12 := B.i12
    rw [z, hv]
    exact ⟨rfl, fun y => absurd y hU, Or.inl (Int.le_refl _), Or.inl (by omega)⟩
  · rw [B.I_ 12 w (by decide) (by omega) (by omega) (by omega) (by omega), eI 12 w (by decide) (by omega), Q0.I_ 12 w (by decide) (by omega)]
    exact ⟨rfl, fun y => ⟨y, rfl⟩, Or.inl od.1, Or.inl (by omega)⟩
theorem od_bnu (h60 : ∀ u, 0 ≤ cq_I g (x + 23) u ∧ cq_I g (x + 23) u ≤ 60) (uv : u ≠ v) : m_onceDir (m_bn0 g x v) x u = m_onceDir g x u := by
  have Q := bn0_q (x := x) (g := g) (v := v)
  have lo := m_leastOnce_rg (x := x) (h60 v)
  have a := h60 u
  have b := h60 v
  exact od_c (fun k k0 k1 => Q.I_ 27 _ (by decide) (by omega)) (Q.I_ 23 u (by decide) (by omega))
end
