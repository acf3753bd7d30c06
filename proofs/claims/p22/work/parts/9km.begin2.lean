/-! class and reference side by side: begin -/
theorem slot_c {x : Nat} {g g' : cx_Q} {w : Int} (e29 : cq_I g' (x + 29) = cq_I g (x + 29)) (e30 : cq_I g' (x + 30) = cq_I g (x + 30)) : m_slotN g' x w = m_slotN g x w := by
  unfold m_slotN
  rw [e29, e30]
/-- two draws, with a SESSION more BEGUN or not -/
theorem dd63 {x : Nat} {g0 : cx_Q} {u V : Int} : (∀ o j, 1 ≤ o → cq_I (m_draw (m_draw (cq_sI g0 x 63 V) x u) x u) (x + o) j = cq_I (m_draw (m_draw g0 x u) x u) (x + o) j) ∧ (∀ o j, 1 ≤ o → cq_J (m_draw (m_draw (cq_sI g0 x 63 V) x u) x u) (x + o) j = cq_J (m_draw (m_draw g0 x u) x u) (x + o) j) ∧ cq_I (m_draw (m_draw (cq_sI g0 x 63 V) x u) x u) x 63 = V ∧ cq_I (m_draw (m_draw g0 x u) x u) x 63 = cq_I g0 x 63 ∧ ∀ j, j ≠ 63 → cq_I (m_draw (m_draw (cq_sI g0 x 63 V) x u) x u) x j = cq_I (m_draw (m_draw g0 x u) x u) x j := by
  refine ⟨fun o j ho => ?_, fun o j ho => ?_, ?_, ?_, fun j w => ?_⟩
  · have o0 : ¬ o = 0 := by omega
    unfold m_draw
    simp only [mm_sI, mm_sJ, mm_sA, mm_IJ, mm_IA, mm_JI, mm_JA, mm_AI, mm_AJ, mm_ssI, mm_ssJ, mm_ssA, mm_zI, mm_zJ, mm_zA, mm_nI, mm_nJ, mm_nA, Nat.left_eq_add, Nat.add_eq_left, Nat.add_left_cancel_iff, Nat.reduceEqDiff, Int.reduceEq, false_and, and_false, if_false, if_true, and_self, true_and, true_or, or_true, false_or, or_false, o0]
  · have o0 : ¬ o = 0 := by omega
    unfold m_draw
    simp only [mm_sI, mm_sJ, mm_sA, mm_IJ, mm_IA, mm_JI, mm_JA, mm_AI, mm_AJ, mm_ssI, mm_ssJ, mm_ssA, mm_zI, mm_zJ, mm_zA, mm_nI, mm_nJ, mm_nA, Nat.left_eq_add, Nat.add_eq_left, Nat.add_left_cancel_iff, Nat.reduceEqDiff, Int.reduceEq, false_and, and_false, if_false, if_true, and_self, true_and, true_or, or_true, false_or, or_false, o0]
  · unfold m_draw
    simp only [mm_sI, mm_sJ, mm_sA, mm_IJ, mm_IA, mm_JI, mm_JA, mm_AI, mm_AJ, mm_ssI, mm_ssJ, mm_ssA, mm_zI, mm_zJ, mm_zA, mm_nI, mm_nJ, mm_nA, Nat.left_eq_add, Nat.add_eq_left, Nat.add_left_cancel_iff, Nat.reduceEqDiff, Int.reduceEq, false_and, and_false, if_false, if_true, and_self, true_and, true_or, or_true, false_or, or_false]
  · unfold m_draw
    simp only [mm_sI, mm_sJ, mm_sA, mm_IJ, mm_IA, mm_JI, mm_JA, mm_AI, mm_AJ, mm_ssI, mm_ssJ, mm_ssA, mm_zI, mm_zJ, mm_zA, mm_nI, mm_nJ, mm_nA, Nat.left_eq_add, Nat.add_eq_left, Nat.add_left_cancel_iff, Nat.reduceEqDiff, Int.reduceEq, false_and, and_false, if_false, if_true, and_self, true_and, true_or, or_true, false_or, or_false]
  · unfold m_draw
    simp only [mm_sI, mm_sJ, mm_sA, mm_IJ, mm_IA, mm_JI, mm_JA, mm_AI, mm_AJ, mm_ssI, mm_ssJ, mm_ssA, mm_zI, mm_zJ, mm_zA, mm_nI, mm_nJ, mm_nA, Nat.left_eq_add, Nat.add_eq_left, Nat.add_left_cancel_iff, Nat.reduceEqDiff, Int.reduceEq, false_and, and_false, if_false, if_true, and_self, true_and, true_or, or_true, false_or, or_false, w]
section
variable {c x : Nat} {n L Z : Int} {E : Nat → Option Int} {h0 : cx_Q} {pe : Int → Nat} {ro : Int → Int → Nat} {pa lb tp rd en op ob : Nat} {T Lf : Int → Nat} {m h' g gC g' : cx_Q} {u v k : Int} {a r : Nat} {R ot eO : Int64}
/-- the new SESSION goes into its row: m and g with both draws made and it counted as BEGUN -/
theorem fx_enter (F : FX c x n pe ro pa lb tp rd en op ob T Lf m g) (H : CI c n L Z E h0 [] m) (hu : 0 ≤ u ∧ u < n) (hv : 0 ≤ v ∧ v < n) (D : DQ x u gC g) (B : BN x u v (6 * u + v) (m_slotN gC x (6 * u + v)) k R ot eO gC g') (N : NS a r (cq_I g (x + 16) v) k R (f_common (dV (cq_J gC (x + 1) u) (cq_I gC (x + 12) u)) ot) ot eO m) (fr : ∀ u' v' i, 0 ≤ u' → u' < n → 0 ≤ v' → v' < n → 0 ≤ i → i < cq_I g (x + 30) (6 * u' + v') → T (cq_I g (x + 29) (4 * (6 * u' + v') + i)) ≠ a) (sr : cq_s m r = 6) (r0 : cq_J m r 0 = dV (cq_J gC (x + 1) u) (cq_I gC (x + 12) u)) (r1 : cq_J m r 1 = dO (cq_J gC (x + 1) u) (cq_I gC (x + 12) u)) (e : h' = rwF m (ro u v) a) : FX c x n pe ro pa lb tp rd en op ob (fun q => if q = m_slotN gC x (6 * u + v) then a else T q) Lf h' g' := by
  have fo := F.fo u v hu.1 hu.2 hv.1 hv.2
  have gI : ∀ o j, 1 ≤ o → o ≠ 12 → cq_I g (x + o) j = cq_I gC (x + o) j := fun o j h1 h2 => D.I_ o j h1 (fun z => h2 z.1)
  have gJ := D.J_
  have e29 : cq_I g (x + 29) = cq_I gC (x + 29) := funext fun j => gI 29 j (by decide) (by decide)
  have e30 : cq_I g (x + 30) = cq_I gC (x + 30) := funext fun j => gI 30 j (by decide) (by decide)
  have hs : m_slotN gC x (6 * u + v) = m_slotN g x (6 * u + v) := (slot_c e29 e30).symm
  obtain ⟨q1, q2, q3⟩ := slot_q fo.r4 fo.sl
  rw [← hs] at q1 q2 q3
  clear hs
  have hs' : m_slotN gC x (6 * u + v) = m_slotN g x (6 * u + v) := (slot_c e29 e30).symm
  generalize m_slotN gC x (6 * u + v) = s at B q1 q2 q3 hs'
  have Q : NQ x (6 * u + v) s g g' := ⟨by rw [B.nq.r30, gI 30 _ (by decide) (by decide)], fun i i0 i1 => by rw [gI 30 _ (by decide) (by decide)] at i1; rw [B.nq.r29 i i0 i1, gI 29 _ (by decide) (by decide)]⟩
  have ex : evx (fun d => d = ro u v ∨ d = ro u v + 1) m h' := by
    rw [e]
    unfold rwF
    exact (evx.refl.sI (Or.inl rfl)).rA (Or.inr rfl)
  have n01 : ¬ ro u v = ro u v + 1 := by omega
  have n10 : ¬ ro u v + 1 = ro u v := by omega
  have eI1 : cq_I h' (ro u v) 1 = rw1 (cq_I m (ro u v) 1) := by
    rw [e]
    unfold rwF
    rw [rr_IA, mm_sI, if_pos ⟨rfl, rfl⟩]
  have eA1 : ∀ i, cq_A h' (ro u v + 1) i = shU (cq_A m (ro u v + 1)) (rw1 (cq_I m (ro u v) 1) - 1) (some a) i := fun i => by
    rw [e]
    unfold rwF
    rw [rr_A, if_pos rfl]
  have np : ∀ {d q : Nat}, cq_s m d = q → q ≠ 5 → q ≠ 182 → ¬ (d = ro u v ∨ d = ro u v + 1) := fun {d q} w w1 w2 z => z.elim (ns w fo.s0 w1) (ns w fo.s1 w2)
  -- the session's own facts behind all
  have s2 : cq_s m (a + 2) = 171 := H.ta N.s1 (own_9 (by decide)) N.k0
  have s3 : cq_s m (a + 3) = 172 := H.ta N.s1 (own_9 (by decide)) N.k1
  have s4 : cq_s m (a + 4) = 173 := H.ta N.s1 (own_9 (by decide)) N.k2
  have eI := ex.I N.s0 rfl (np N.s0 (by decide) (by decide))
  have eJ := ex.J N.s0 (by decide) (np N.s0 (by decide) (by decide))
  have eA := ex.A N.s0 rfl (np N.s0 (by decide) (by decide))
  have eI1' := ex.I N.s1 rfl (np N.s1 (by decide) (by decide))
  have eA1' := ex.A N.s1 rfl (np N.s1 (by decide) (by decide))
  have er := ex.2.1 r sr
  have SRn : SR x a s h' g' := by
    refine ⟨ex.s N.s0 (by decide), ex.s N.s1 (by decide), ex.s s2 (by decide), ex.s s3 (by decide), ex.s s4 (by decide), by rw [eA]; exact N.a19, by rw [eA1']; exact N.k0, by rw [eA1']; exact N.k1, by rw [eA1']; exact N.k2, by rw [eI, B.i44]; exact N.i0, by rw [eJ, B.j45]; exact N.j2, by rw [eI, B.i43]; exact N.i5, fun _ => ⟨by rw [eI, B.i46, N.i3, gI 16 _ (by decide) (by decide)], by rw [eI, B.i47]; exact N.i4⟩, by rw [eJ, B.j31]; exact N.j6, by rw [eJ, B.j32]; exact N.j8, by rw [eA]; exact N.a9, by rw [B.i33]; decide, ?_, fun q => absurd B.i35 q, fun _ => by rw [eJ]; exact N.j10, ⟨r, by rw [eA]; exact N.a12, ex.s sr (by decide), by rw [er, B.j36]; exact r0, by rw [er, B.j37]; exact r1⟩, by rw [eJ, B.j38]; exact N.j13, by rw [eI, B.i39]; exact N.i15, by rw [eI, B.i40]; exact N.i16, by rw [eI, B.i41]; exact N.i17, by rw [eI, B.i42]; exact N.i18, by rw [eI1', B.i53]; exact N.i4', by rw [B.i53]; omega, fun k k0 k1 => by rw [B.i53] at k1; omega⟩
    rw [eA, B.i35, N.a11]
    exact ⟨fun _ => rfl, fun _ => rfl⟩
  have old : ∀ i, 0 ≤ i → i < cq_I g (x + 30) (6 * u + v) → cq_I g (x + 29) (4 * (6 * u + v) + i) ≠ s → SR x (T (cq_I g (x + 29) (4 * (6 * u + v) + i))) (cq_I g (x + 29) (4 * (6 * u + v) + i)) h' g' := by
    intro i i0 i1 ne
    have f := fo.ss i i0 i1
    have sl := fo.sl i i0 i1
    refine f.ex ex (np f.s0 (by decide) (by decide)) (np f.s1 (by decide) (by decide)) (np f.s2 (by decide) (by decide)) (np f.s3 (by decide) (by decide)) (np f.s4 (by decide) (by decide)) (fun o j z => ?_)
    have o1 : 1 ≤ o := (inS_r z).1
    rw [gJ o j o1, gI o j o1 (by unfold inS at z; omega)]
    refine ⟨B.I_ o j o1 ?_ ?_ ?_ ?_, B.J_ o j o1 ?_⟩ <;> (unfold inS at z; omega)
  obtain ⟨FO', cs⟩ := fo_new fo Q hs' (fun d w => (ex.1 d w).1) eI1 eA1 SRn old
  refine F.upO hu hv ex (fun o j h1 h2 h3 w => ?_) (fun d w => w.elim Or.inl (fun z => Or.inr (Or.inl z))) (fun j _ => by rw [B.x_, D.x_]) (fun q w => if_neg (fun z => w (by omega))) FO' (fun i j i0 i1 j0 j1 ne => ?_) (fun i u' v' j i0 i1 a1 a2 a3 a4 ne j0 j1 => ?_)
  · refine ⟨?_, ?_⟩
    · by_cases w12 : o = 12 ∧ j = u
      · rw [w12.1, w12.2, B.i12, D.i12]
      · rw [D.I_ o j h1 w12]
        refine B.I_ o j h1 w12 ?_ ?_ ?_ <;> (intro z; apply w; unfold inO; omega)
    · rw [gJ o j h1]
      refine B.J_ o j h1 ?_
      intro z; apply w; unfold inO; omega
  · rcases cs i i0 i1 with ⟨e1, e2⟩ | ⟨e1, e2, e3, e4⟩
    · rcases cs j j0 j1 with ⟨d1, d2⟩ | ⟨d1, d2, d3, d4⟩
      · omega
      · rw [e2, d2, if_pos rfl, if_neg d3]
        exact (fr u v (j - 1) hu.1 hu.2 hv.1 hv.2 (by omega) d4).symm
    · rcases cs j j0 j1 with ⟨d1, d2⟩ | ⟨d1, d2, d3, d4⟩
      · rw [e2, d2, if_pos rfl, if_neg e3]
        exact fr u v (i - 1) hu.1 hu.2 hv.1 hv.2 (by omega) e4
      · rw [e2, d2, if_neg e3, if_neg d3]
        exact F.ti u v u v (i - 1) (j - 1) hu.1 hu.2 hv.1 hv.2 hu.1 hu.2 hv.1 hv.2 (by omega) e4 (by omega) d4 (fun z => ne (by omega))
  · rcases cs i i0 i1 with ⟨e1, e2⟩ | ⟨e1, e2, e3, e4⟩
    · rw [e2, if_pos rfl]
      exact (fr u' v' j a1 a2 a3 a4 j0 j1).symm
    · rw [e2, if_neg e3]
      exact F.ti u v u' v' (i - 1) j hu.1 hu.2 hv.1 hv.2 a1 a2 a3 a4 (by omega) e4 j0 j1 (fun z => ne ⟨z.1.symm, z.2.1.symm⟩)
end
