/-! the reference, exactly: a letter is opened behind a TURN, whole -/
section
variable {x : Nat} {s u : Int} {g : cx_Q} {k : Int64}
theorem oK0_q (h0 : 0 ≤ cq_I g (x + 53) s ∧ cq_I g (x + 53) s + m_bef g x s 1 ≤ 20) : KQ x s (m_bef g x s 1) g (m_oK0 g x s) := by
  have bf : m_bef g x s 1 = if cq_I g (x + 35) s ≠ 0 ∧ cq_I g (x + 41) s < cq_I g x 80 then cq_I g x 80 - cq_I g (x + 41) s else 0 := by
    unfold m_bef
    by_cases w : cq_I g (x + 35) s ≠ 0 ∧ cq_I g (x + 41) s < cq_I g x 80
    · rw [if_pos ⟨by decide, w⟩, if_pos w]
    · rw [if_neg (fun q => w q.2), if_neg w]
  unfold m_oK0
  by_cases w : cq_I g (x + 35) s ≠ 0
  · rw [if_pos w]
    have e : m_bef g x s 1 = (((cq_I g x 80 - cq_I g (x + 41) s).toNat : Nat) : Int) := by
      rw [bf]
      by_cases w2 : cq_I g (x + 41) s < cq_I g x 80
      · rw [if_pos ⟨w, w2⟩]; omega
      · rw [if_neg (fun q => w2 q.2)]; omega
    rw [e] at h0 ⊢
    exact keep_q h0
  · rw [if_neg w]
    have e : m_bef g x s 1 = 0 := by rw [bf, if_neg (fun q => w q.1)]
    rw [e]
    exact KQ.refl
theorem open3_q (h0 : 0 ≤ cq_I g (x + 53) s ∧ 0 ≤ m_bef g x s 1 ∧ 0 ≤ cq_I g x 81 ∧ cq_I g (x + 53) s + m_bef g x s 1 + cq_I g x 81 ≤ 20) : FRM x s u 1 g (m_oEnd (m_oT g x u s 1) x s k) ∧ RD x k g (m_oEnd (m_oT g x u s 1) x s k) ∧ OK3 x s (m_bef g x s 1) (cq_I g x 81) (cq_J g x 79) (f_key 2 (cq_J g (x + 31) s) (m_com g x s 1)) (f_key 1 (cq_J g (x + 31) s) (m_com g x s 1)) (f_common (dV (cq_J g (x + 1) u) (cq_I g (x + 12) u)) (cq_J g x 79)) (dV (cq_J g (x + 1) u) (cq_I g (x + 12) u)) (dO (cq_J g (x + 1) u) (cq_I g (x + 12) u)) g (m_oEnd (m_oT g x u s 1) x s k) := by
  have K := oK0_q (x := x) (s := s) (g := g) (by omega)
  have eT : m_oT g x u s 1 = m_turn (m_oK0 g x s) x u s (m_com g x s 1) := by
    unfold m_oT
    rw [if_pos (by decide)]
  rw [eT]
  generalize m_bef g x s 1 = n0 at h0 K ⊢
  generalize m_com g x s 1 = X
  generalize m_oK0 g x s = g1 at K ⊢
  have U := turn_q (x := x) (s := s) (u := u) (g := g1) (X := X)
  have c1 : cq_J g1 (x + 1) u = cq_J g (x + 1) u := K.J_ 1 u (by decide) (by omega) (by omega)
  have c12 : cq_I g1 (x + 12) u = cq_I g (x + 12) u := K.I_ 12 u (by decide) (by omega) (by omega)
  have c31 : cq_J g1 (x + 31) s = cq_J g (x + 31) s := K.J_ 31 s (by decide) (by omega) (by omega)
  have c79 : cq_J g1 x 79 = cq_J g x 79 := K.xJ 79
  have c40 : cq_I g1 (x + 40) s = cq_I g (x + 40) s := K.I_ 40 s (by decide) (by omega) (by omega)
  rw [c1, c12] at U
  generalize dV (cq_J g (x + 1) u) (cq_I g (x + 12) u) = V at U ⊢
  generalize dO (cq_J g (x + 1) u) (cq_I g (x + 12) u) = O at U ⊢
  generalize m_turn g1 x u s X = g2 at U ⊢
  have x81 : cq_I g2 x 81 = cq_I g x 81 := by rw [U.x_, K.x_]
  have i53 : cq_I g2 (x + 53) s = cq_I g (x + 53) s + n0 := by rw [U.I_ 53 s (by decide) (by omega) (by omega), K.i53]
  have en : cq_I g2 x 81 - cq_I g2 (x + 41) s = cq_I g x 81 := by rw [x81, U.i41]; omega
  obtain ⟨A, B, C⟩ := oEnd_q (x := x) (s := s) (u := u) (g := g2) (k := k) (by rw [en, i53]; omega)
  rw [en] at C
  generalize m_oEnd g2 x s k = g3 at A B C ⊢
  have hx : ∀ j, cq_I g2 x j = cq_I g x j := fun j => by rw [U.x_, K.x_]
  have h62 : ∀ j, cq_I g2 (x + 62) j = cq_I g (x + 62) j := fun j => by rw [U.I_ 62 j (by decide) (by omega) (by omega), K.I_ 62 j (by decide) (by omega) (by omega)]
  have i12 : cq_I g2 (x + 12) u = cq_I g (x + 12) u + 1 := by rw [U.i12, c12]
  have k5 : ∀ {j : Int}, cq_J g2 (x + 54) j = cq_J g1 (x + 54) j ∧ cq_I g2 (x + 55) j = cq_I g1 (x + 55) j ∧ cq_J g2 (x + 56) j = cq_J g1 (x + 56) j := fun {j} => ⟨U.J_ 54 j (by decide) (by omega), U.I_ 55 j (by decide) (by omega) (by omega), U.J_ 56 j (by decide) (by omega)⟩
  refine ⟨⟨fun o j w1 w2 w3 w4 w5 w6 => ?_, fun o j w1 w2 w3 w4 => ?_, by rw [A.i12, i12]; omega⟩, ⟨fun j w => by rw [B.x_ j w, hx], by rw [B.x75, hx], fun i i0 i1 => by rw [B.r_ i i0 (by rw [hx]; exact i1), hx, hx, h62]⟩, ⟨fun o j w w1 w2 w3 w4 w5 w6 w7 w8 w9 => ?_, fun o j w w1 w2 w3 w4 w5 w6 w7 w8 => ?_, ?_, ?_, ?_, ?_, ?_, ?_, C.i43, ?_, ?_, ?_, ?_, ?_, ?_, ?_, fun k' k0 k1 => ?_, fun i i0 i1 => ?_, fun i i0 i1 => ?_⟩⟩
  · rw [A.I_ o j w1 w2 w3 w4 w5 w6]
    unfold inS at w4
    rw [U.I_ o j w1 (fun q => w4 (by omega)) w6, K.I_ o j w1 (fun q => w4 (by omega)) (fun q => w4 (by omega))]
  · rw [A.J_ o j w1 w2 w3 w4]
    unfold inS at w4
    rw [U.J_ o j w1 (fun q => w4 (by omega)), K.J_ o j w1 (fun q => w4 (by omega)) (fun q => w4 (by omega))]
  · obtain ⟨q1, q2, q3⟩ := inS_r w
    rw [C.I_ o j w w5 w7 w8 w9]
    unfold inS at w
    rw [U.I_ o j q1 (by omega) (by omega), K.I_ o j q1 (by omega) (by omega)]
  · obtain ⟨q1, q2, q3⟩ := inS_r w
    rw [C.J_ o j w w3 w7 w8]
    rw [U.J_ o j q1 (by omega), K.J_ o j q1 (by omega) (by omega)]
  · rw [C.I_ 33 s (Or.inl ⟨by omega, rfl⟩) (by decide) (by decide) (by decide) (by decide), U.i33]
  · rw [C.I_ 35 s (Or.inl ⟨by omega, rfl⟩) (by decide) (by decide) (by decide) (by decide), U.i35]
  · rw [C.I_ 39 s (Or.inl ⟨by omega, rfl⟩) (by decide) (by decide) (by decide) (by decide), U.i39]
  · rw [C.I_ 40 s (Or.inl ⟨by omega, rfl⟩) (by decide) (by decide) (by decide) (by decide), U.i40]
  · rw [C.i41, U.i41]; omega
  · rw [C.I_ 42 s (Or.inl ⟨by omega, rfl⟩) (by decide) (by decide) (by decide) (by decide), U.i42, c40]
  · rw [C.i53, i53]
  · rw [C.J_ 31 s (Or.inl ⟨by omega, rfl⟩) (by decide) (by decide) (by decide), U.j31, c31, c79]
  · rw [C.J_ 32 s (Or.inl ⟨by omega, rfl⟩) (by decide) (by decide) (by decide), U.j32, c31, c79]
  · rw [C.j34, U.j34, c31]
  · rw [C.J_ 36 s (Or.inl ⟨by omega, rfl⟩) (by decide) (by decide) (by decide), U.j36]
  · rw [C.J_ 37 s (Or.inl ⟨by omega, rfl⟩) (by decide) (by decide) (by decide), U.j37]
  · rw [C.J_ 38 s (Or.inl ⟨by omega, rfl⟩) (by decide) (by decide) (by decide), U.j38, c79]
  · have y := C.k_ k' k0 (by omega)
    rw [y.1, y.2.1, y.2.2, k5.1, k5.2.1, k5.2.2, K.k54 k' k0 (by omega), K.k55 k' k0 (by omega), K.k56 k' k0 (by omega), if_neg (by omega), if_neg (by omega), if_neg (by omega)]
    exact ⟨rfl, rfl, rfl⟩
  · have y := C.k_ (cq_I g (x + 53) s + i) (by omega) (by omega)
    have c : cq_I g (x + 53) s ≤ cq_I g (x + 53) s + i ∧ cq_I g (x + 53) s + i < cq_I g (x + 53) s + n0 := by omega
    have e1 : cq_I g (x + 53) s + i - cq_I g (x + 53) s = i := by omega
    rw [y.1, y.2.1, y.2.2, k5.1, k5.2.1, k5.2.2, K.k54 _ (by omega) (by omega), K.k55 _ (by omega) (by omega), K.k56 _ (by omega) (by omega), if_pos c, if_pos c, if_pos c, e1]
    exact ⟨rfl, rfl, rfl⟩
  · have y := C.n_ i i0 i1
    rw [i53] at y
    rw [y.1, y.2.1, y.2.2, U.j38, U.i41, U.j34, c79, c31]
    exact ⟨rfl, by omega, rfl⟩
end
