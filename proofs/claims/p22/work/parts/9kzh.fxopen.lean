/-! class and reference side by side: a letter was opened in a SESSION -/
/-- the reference as it is but for what was read -/
def bk (x : Nat) (g g' : cx_Q) : cx_Q := cq_rI (cq_sI g' x 75 (cq_I g x 75)) (x + 65) (cq_I g (x + 65))
theorem bk_q {x : Nat} {g g' : cx_Q} (ax : ∀ j, j ≠ 75 → cq_I g' x j = cq_I g x j) : (∀ j, cq_I (bk x g g') x j = cq_I g x j) ∧ (∀ o j, 1 ≤ o → o ≠ 65 → cq_I (bk x g g') (x + o) j = cq_I g' (x + o) j) ∧ (∀ j, cq_I (bk x g g') (x + 65) j = cq_I g (x + 65) j) ∧ ∀ a j, cq_J (bk x g g') a j = cq_J g' a j := by
  unfold bk
  refine ⟨fun j => ?_, fun o j w1 w2 => ?_, fun j => ?_, fun a j => ?_⟩
  · rw [rr_I, if_neg (fun q => by omega), mm_sI]
    by_cases w : j = 75
    · rw [if_pos ⟨rfl, w⟩, w]
    · rw [if_neg (fun q => w q.2), ax j w]
  · rw [rr_I, if_neg (fun q => w2 (by omega)), mm_sI, if_neg (fun q => by omega)]
  · rw [rr_I, if_pos rfl]
  · rfl
section
variable {x : Nat} {s i n0 n1 : Int} {eo C R1 X2 V O : Int64} {g g' g1 : cx_Q}
theorem OK1.c (Q : OK1 x s i g g') (eI : ∀ o j, 1 ≤ o → o ≠ 65 → cq_I g1 (x + o) j = cq_I g' (x + o) j) (eJ : ∀ a j, cq_J g1 a j = cq_J g' a j) : OK1 x s i g g1 := by
  have z : ∀ {o : Nat} {j : Int}, inS s o j → 1 ≤ o ∧ o ≠ 65 := fun w => by unfold inS at w; omega
  exact ⟨fun o j w w1 w2 w3 => by rw [eI o j (z w).1 (z w).2]; exact Q.I_ o j w w1 w2 w3, fun o j w w1 w2 => by rw [eJ]; exact Q.J_ o j w w1 w2, by rw [eI 43 s (by decide) (by decide)]; exact Q.i43, by rw [eI 53 s (by decide) (by decide)]; exact Q.i53, fun k k0 k1 => by rw [eJ, eI 55 _ (by decide) (by decide), eJ]; exact Q.k_ k k0 k1⟩
theorem OK2.c (Q : OK2 x s i g g') (eI : ∀ o j, 1 ≤ o → o ≠ 65 → cq_I g1 (x + o) j = cq_I g' (x + o) j) (eJ : ∀ a j, cq_J g1 a j = cq_J g' a j) : OK2 x s i g g1 := by
  have z : ∀ {o : Nat} {j : Int}, inS s o j → 1 ≤ o ∧ o ≠ 65 := fun w => by unfold inS at w; omega
  exact ⟨fun o j w w1 w2 w3 w4 => by rw [eI o j (z w).1 (z w).2]; exact Q.I_ o j w w1 w2 w3 w4, fun o j w w1 w2 w3 => by rw [eJ]; exact Q.J_ o j w w1 w2 w3, by rw [eI 41 s (by decide) (by decide)]; exact Q.i41, by rw [eI 43 s (by decide) (by decide)]; exact Q.i43, by rw [eI 53 s (by decide) (by decide)]; exact Q.i53, by rw [eJ]; exact Q.j34, fun k k0 k1 => by rw [eJ, eI 55 _ (by decide) (by decide), eJ]; exact Q.k_ k k0 k1, fun k k0 k1 => by rw [eJ, eI 55 _ (by decide) (by decide), eJ]; exact Q.n_ k k0 k1⟩
theorem OK3.c (Q : OK3 x s n0 n1 eo C R1 X2 V O g g') (eI : ∀ o j, 1 ≤ o → o ≠ 65 → cq_I g1 (x + o) j = cq_I g' (x + o) j) (eJ : ∀ a j, cq_J g1 a j = cq_J g' a j) : OK3 x s n0 n1 eo C R1 X2 V O g g1 := by
  have z : ∀ {o : Nat} {j : Int}, inS s o j → 1 ≤ o ∧ o ≠ 65 := fun w => by unfold inS at w; omega
  exact ⟨fun o j w w1 w2 w3 w4 w5 w6 w7 w8 w9 => by rw [eI o j (z w).1 (z w).2]; exact Q.I_ o j w w1 w2 w3 w4 w5 w6 w7 w8 w9, fun o j w w1 w2 w3 w4 w5 w6 w7 w8 => by rw [eJ]; exact Q.J_ o j w w1 w2 w3 w4 w5 w6 w7 w8, by rw [eI 33 s (by decide) (by decide)]; exact Q.i33, by rw [eI 35 s (by decide) (by decide)]; exact Q.i35, by rw [eI 39 s (by decide) (by decide)]; exact Q.i39, by rw [eI 40 s (by decide) (by decide)]; exact Q.i40, by rw [eI 41 s (by decide) (by decide)]; exact Q.i41, by rw [eI 42 s (by decide) (by decide)]; exact Q.i42, by rw [eI 43 s (by decide) (by decide)]; exact Q.i43, by rw [eI 53 s (by decide) (by decide)]; exact Q.i53, by rw [eJ]; exact Q.j31, by rw [eJ]; exact Q.j32, by rw [eJ]; exact Q.j34, by rw [eJ]; exact Q.j36, by rw [eJ]; exact Q.j37, by rw [eJ]; exact Q.j38, fun k k0 k1 => by rw [eJ, eI 55 _ (by decide) (by decide), eJ]; exact Q.k_ k k0 k1, fun k k0 k1 => by rw [eJ, eI 55 _ (by decide) (by decide), eJ]; exact Q.m_ k k0 k1, fun k k0 k1 => by rw [eJ, eI 55 _ (by decide) (by decide), eJ]; exact Q.n_ k k0 k1⟩
end
section
variable {c x : Nat} {n : Int} {pe : Int → Nat} {ro : Int → Int → Nat} {pa lb tp rd en op ob : Nat} {T Lf : Int → Nat} {h g h' g' : cx_Q} {u v i0 s : Int} {k : Int64}
theorem fx_open1 (F : FX c x n pe ro pa lb tp rd en op ob T Lf h g) {i : Int} (hu : 0 ≤ u ∧ u < n) (hv : 0 ≤ v ∧ v < n) (hi : 0 ≤ i0 ∧ i0 < cq_I g (x + 30) (6 * u + v)) (es : cq_I g (x + 29) (4 * (6 * u + v) + i0) = s) (R : FRM x s u 0 g g') (A : RD x k g g') (Q : OK1 x s i g g') (hk : 0 ≤ i ∧ i < cq_I g (x + 53) s) (e : ew (kdr (cq_sI h (T s) 5 0) (T s + 1) (T s + 2) (T s + 3) (T s + 4) i (cq_I h (T s + 1) 4 - 1) (cq_I h (T s + 1) 4 - 1)) h') : FX c x n pe ro pa lb tp rd en op ob T Lf h' (bk x g g') ∧ evx (fun a => scl (T s) a ∨ a = pe u) h h' := by
  obtain ⟨b1, b2, b3, b4⟩ := bk_q (x := x) (g := g) (g' := g') A.x_
  have sr := (F.fo u v hu.1 hu.2 hv.1 hv.2).ss i0 hi.1 hi.2
  rw [es] at sr
  have S := sr.kept (Q.c b2 b4) hk
  have n2 : cq_s h (T s + 2) ≠ 6 := by rw [sr.s2]; decide
  have n4 : cq_s h (T s + 4) ≠ 6 := by rw [sr.s4]; decide
  have ex : evx (scl (T s)) h h' := by
    refine evx.trans ?_ e.x
    unfold kdr
    exact evx.sI (evx.rJ (evx.rI (evx.rJ (evx.sI evx.refl (Or.inl rfl)) (Or.inr (Or.inr (Or.inl rfl))) n2) (Or.inr (Or.inr (Or.inr (Or.inl rfl))))) (Or.inr (Or.inr (Or.inr (Or.inr rfl)))) n4) (Or.inr (Or.inl rfl))
  refine ⟨?_, ex.mono (fun a w => Or.inl w)⟩
  refine F.upT hu hv hi es ex (fun a w => w) (fun o j w1 w2 w3 w4 => ?_) (fun j _ => b1 j) (S.ex (P := fun _ => False) e.x id id id id id (fun _ _ _ => ⟨rfl, rfl⟩))
  rw [b4]
  refine ⟨?_, R.J_ o j w1 w2 w3 w4⟩
  by_cases z : o = 65
  · rw [z]; exact b3 j
  · rw [b2 o j w1 z]
    by_cases y : o = 12 ∧ j = u
    · rw [y.1, y.2, R.i12, Int.add_zero]
    · exact R.I_ o j w1 w2 w3 w4 z y
theorem fx_open2 (F : FX c x n pe ro pa lb tp rd en op ob T Lf h g) {m pl : Int} {w : Int64} {r : Int → Int64} (hu : 0 ≤ u ∧ u < n) (hv : 0 ≤ v ∧ v < n) (hi : 0 ≤ i0 ∧ i0 < cq_I g (x + 30) (6 * u + v)) (es : cq_I g (x + 29) (4 * (6 * u + v) + i0) = s) (R : FRM x s u 0 g g') (A : RD x k g g') (Q : OK2 x s m g g') (hm : 0 ≤ m ∧ cq_I g (x + 53) s + m ≤ 20) (h35 : cq_I g (x + 35) s ≠ 0) (ep : pl = cq_I g (x + 41) s + m) (ew9 : w = nxI (m.toNat + 1) (cq_J g (x + 34) s)) (er : ∀ i, 0 ≤ i → i < m → r i = lkC (nxI i.toNat (cq_J g (x + 34) s))) (e : ew (coR (kpW (cq_sI h (T s) 5 0) (T s + 1) (T s + 2) (T s + 3) (T s + 4) (cq_I h (T s + 1) 4) m (cq_J h (T s) 13) (cq_I h (T s) 17) r) (T s) w (pl + 1)) h') : FX c x n pe ro pa lb tp rd en op ob T Lf h' (bk x g g') ∧ evx (fun a => scl (T s) a ∨ a = pe u) h h' := by
  obtain ⟨b1, b2, b3, b4⟩ := bk_q (x := x) (g := g) (g' := g') A.x_
  have sr := (F.fo u v hu.1 hu.2 hv.1 hv.2).ss i0 hi.1 hi.2
  rw [es] at sr
  have S := sr.on (Q.c b2 b4) hm h35 ep ew9 er
  have n0 : cq_s h (T s) ≠ 6 := by rw [sr.s0]; decide
  have n2 : cq_s h (T s + 2) ≠ 6 := by rw [sr.s2]; decide
  have n4 : cq_s h (T s + 4) ≠ 6 := by rw [sr.s4]; decide
  have ex : evx (scl (T s)) h h' := by
    refine evx.trans ?_ e.x
    unfold coR kpW
    exact evx.sI (evx.sJ (evx.sI (evx.rJ (evx.rI (evx.rJ (evx.sI evx.refl (Or.inl rfl)) (Or.inr (Or.inr (Or.inl rfl))) n2) (Or.inr (Or.inr (Or.inr (Or.inl rfl))))) (Or.inr (Or.inr (Or.inr (Or.inr rfl)))) n4) (Or.inr (Or.inl rfl))) (Or.inl rfl) n0) (Or.inl rfl)
  refine ⟨?_, ex.mono (fun a w => Or.inl w)⟩
  refine F.upT hu hv hi es ex (fun a w => w) (fun o j w1 w2 w3 w4 => ?_) (fun j _ => b1 j) (S.ex (P := fun _ => False) e.x id id id id id (fun _ _ _ => ⟨rfl, rfl⟩))
  rw [b4]
  refine ⟨?_, R.J_ o j w1 w2 w3 w4⟩
  by_cases z : o = 65
  · rw [z]; exact b3 j
  · rw [b2 o j w1 z]
    by_cases y : o = 12 ∧ j = u
    · rw [y.1, y.2, R.i12, Int.add_zero]
    · exact R.I_ o j w1 w2 w3 w4 z y
end
