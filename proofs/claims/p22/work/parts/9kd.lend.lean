/-! class and reference side by side: register, rotate, forge -/
theorem dO_rg {s : Int64} {d : Int} : 0 < uu (dO s d) ∧ uu (dO s d) < 2305843009213693951 := f_power_3 _
theorem dV_rg {s : Int64} {d : Int} : uu (dV s d) < 2305843009213693952 := by
  have := f_asSecret_lt (f_mix s (Int64.ofInt (d + 1)))
  unfold dV
  omega
section
variable {c x : Nat} {n : Int} {pe : Int → Nat} {ro : Int → Int → Nat} {pa lb tp rd en op ob : Nat} {T Lf : Int → Nat} {h g h' g' : cx_Q} {P : Nat → Prop}
/-- what the reference's lending tells -/
def LQ (x : Nat) (u : Int) (g g' : cx_Q) : Prop := (∀ j, cq_I g' x j = cq_I g x j) ∧ (∀ o j, 1 ≤ o → ¬ ((o = 12 ∨ o = 16) ∧ j = u) → cq_I g' (x + o) j = cq_I g (x + o) j) ∧ (cq_I g' (x + 12) u = cq_I g (x + 12) u + 1 + 1) ∧ (cq_I g' (x + 16) u = cq_I g (x + 16) u + 1) ∧ (∀ o j, 1 ≤ o → ¬ ((o = 20 ∨ o = 21 ∨ o = 22) ∧ j = u) → ¬ ((o = 17 ∨ o = 18) ∧ j = 21 * u + (cq_I g (x + 16) u + 1)) → cq_J g' (x + o) j = cq_J g (x + o) j) ∧ (cq_J g' (x + 17) (21 * u + (cq_I g (x + 16) u + 1)) = dV (cq_J g (x + 1) u) (cq_I g (x + 12) u)) ∧ (cq_J g' (x + 18) (21 * u + (cq_I g (x + 16) u + 1)) = dO (cq_J g (x + 1) u) (cq_I g (x + 12) u)) ∧ (cq_J g' (x + 20) u = dO (cq_J g (x + 1) u) (cq_I g (x + 12) u)) ∧ (cq_J g' (x + 21) u = dO (cq_J g (x + 1) u) (cq_I g (x + 12) u + 1)) ∧ (cq_J g' (x + 22) u = seP (dV (cq_J g (x + 1) u) (cq_I g (x + 12) u + 1)) (dO (cq_J g (x + 1) u) (cq_I g (x + 12) u + 1)) (dO (cq_J g (x + 1) u) (cq_I g (x + 12) u)) (cq_J g (x + 13) u))
theorem LQ.x_ {x : Nat} {u : Int} {g g' : cx_Q} (F_ : LQ x u g g') : ∀ j, cq_I g' x j = cq_I g x j := F_.1
theorem LQ.I_ {x : Nat} {u : Int} {g g' : cx_Q} (F_ : LQ x u g g') : ∀ o j, 1 ≤ o → ¬ ((o = 12 ∨ o = 16) ∧ j = u) → cq_I g' (x + o) j = cq_I g (x + o) j := F_.2.1
theorem LQ.i12 {x : Nat} {u : Int} {g g' : cx_Q} (F_ : LQ x u g g') : cq_I g' (x + 12) u = cq_I g (x + 12) u + 1 + 1 := F_.2.2.1
theorem LQ.i16 {x : Nat} {u : Int} {g g' : cx_Q} (F_ : LQ x u g g') : cq_I g' (x + 16) u = cq_I g (x + 16) u + 1 := F_.2.2.2.1
theorem LQ.J_ {x : Nat} {u : Int} {g g' : cx_Q} (F_ : LQ x u g g') : ∀ o j, 1 ≤ o → ¬ ((o = 20 ∨ o = 21 ∨ o = 22) ∧ j = u) → ¬ ((o = 17 ∨ o = 18) ∧ j = 21 * u + (cq_I g (x + 16) u + 1)) → cq_J g' (x + o) j = cq_J g (x + o) j := F_.2.2.2.2.1
theorem LQ.j17 {x : Nat} {u : Int} {g g' : cx_Q} (F_ : LQ x u g g') : cq_J g' (x + 17) (21 * u + (cq_I g (x + 16) u + 1)) = dV (cq_J g (x + 1) u) (cq_I g (x + 12) u) := F_.2.2.2.2.2.1
theorem LQ.j18 {x : Nat} {u : Int} {g g' : cx_Q} (F_ : LQ x u g g') : cq_J g' (x + 18) (21 * u + (cq_I g (x + 16) u + 1)) = dO (cq_J g (x + 1) u) (cq_I g (x + 12) u) := F_.2.2.2.2.2.2.1
theorem LQ.j20 {x : Nat} {u : Int} {g g' : cx_Q} (F_ : LQ x u g g') : cq_J g' (x + 20) u = dO (cq_J g (x + 1) u) (cq_I g (x + 12) u) := F_.2.2.2.2.2.2.2.1
theorem LQ.j21 {x : Nat} {u : Int} {g g' : cx_Q} (F_ : LQ x u g g') : cq_J g' (x + 21) u = dO (cq_J g (x + 1) u) (cq_I g (x + 12) u + 1) := F_.2.2.2.2.2.2.2.2.1
theorem LQ.j22 {x : Nat} {u : Int} {g g' : cx_Q} (F_ : LQ x u g g') : cq_J g' (x + 22) u = seP (dV (cq_J g (x + 1) u) (cq_I g (x + 12) u + 1)) (dO (cq_J g (x + 1) u) (cq_I g (x + 12) u + 1)) (dO (cq_J g (x + 1) u) (cq_I g (x + 12) u)) (cq_J g (x + 13) u) := F_.2.2.2.2.2.2.2.2.2
theorem lend_q {u : Int} : LQ x u g (m_lend g x u) := by
  refine ⟨fun j => lend_x, fun o j ho w => ?_, ?_, ?_, fun o j ho w1 w2 => ?_, ?_, ?_, ?_, ?_, ?_⟩
  · rw [lend_I ho, if_neg (fun z => w ⟨Or.inl z.1, z.2⟩), if_neg (fun z => w ⟨Or.inr z.1, z.2⟩)]
  · rw [lend_I (by decide), if_pos ⟨rfl, rfl⟩]
  · rw [lend_I (by decide), if_neg (fun z => absurd z.1 (by decide)), if_pos ⟨rfl, rfl⟩]
  · rw [lend_J ho, if_neg (fun z => w1 ⟨Or.inr (Or.inr z.1), z.2⟩), if_neg (fun z => w1 ⟨Or.inr (Or.inl z.1), z.2⟩), if_neg (fun z => w1 ⟨Or.inl z.1, z.2⟩), if_neg (fun z => w2 ⟨Or.inr z.1, z.2⟩), if_neg (fun z => w2 ⟨Or.inl z.1, z.2⟩)]
  · rw [lend_J (by decide), if_neg (fun z => absurd z.1 (by decide)), if_neg (fun z => absurd z.1 (by decide)), if_neg (fun z => absurd z.1 (by decide)), if_neg (fun z => absurd z.1 (by decide)), if_pos ⟨rfl, rfl⟩]
  · rw [lend_J (by decide), if_neg (fun z => absurd z.1 (by decide)), if_neg (fun z => absurd z.1 (by decide)), if_neg (fun z => absurd z.1 (by decide)), if_pos ⟨rfl, rfl⟩]
  · rw [lend_J (by decide), if_neg (fun z => absurd z.1 (by decide)), if_neg (fun z => absurd z.1 (by decide)), if_pos ⟨rfl, rfl⟩]
  · rw [lend_J (by decide), if_neg (fun z => absurd z.1 (by decide)), if_pos ⟨rfl, rfl⟩]
  · rw [lend_J (by decide), if_pos ⟨rfl, rfl⟩]
theorem fx_lend {u : Int} (Q : LQ x u g g') (F : FX c x n pe ro pa lb tp rd en op ob T Lf h g) {t r : Nat} (hu : 0 ≤ u ∧ u < n) (hU : cq_I g (x + 11) u ≠ 0) (hl : cq_I g (x + 16) u < 20) (e : ev (lkW h (pe u) (pe u + 1) t r (cq_I g (x + 12) u) (cq_I g (x + 16) u) (cq_J g (x + 1) u) (cq_J g (x + 13) u)) h') (st : cq_s h' t = 6) (v1 : cq_J h' t 0 = dV (cq_J g (x + 1) u) (cq_I g (x + 12) u)) (v2 : cq_J h' t 1 = dO (cq_J g (x + 1) u) (cq_I g (x + 12) u)) : FX c x n pe ro pa lb tp rd en op ob T Lf h' g' := by
  have f := F.fu u hu.1 hu.2
  have l20 := f.l20
  have n10 : ¬ pe u + 1 = pe u := by omega
  have n01 : ¬ pe u = pe u + 1 := by omega
  have s6 : cq_s h (pe u) ≠ 6 := by rw [f.s0]; decide
  have ex0 : evx (fun a => a = pe u ∨ a = pe u + 1) h (lkW h (pe u) (pe u + 1) t r (cq_I g (x + 12) u) (cq_I g (x + 16) u) (cq_J g (x + 1) u) (cq_J g (x + 13) u)) := by
    unfold lkW
    exact (((((((((evx.refl.sI (Or.inl rfl)).sA (Or.inl rfl)).sI (Or.inl rfl)).sA (Or.inl rfl)).sI (Or.inl rfl)).sA (Or.inr rfl)).sJ (Or.inl rfl) s6).sJ (Or.inl rfl) s6).sJ (Or.inl rfl) s6)
  have es : cq_s (lkW h (pe u) (pe u + 1) t r (cq_I g (x + 12) u) (cq_I g (x + 16) u) (cq_J g (x + 1) u) (cq_J g (x + 13) u)) = cq_s h := Eq.trans rfl rfl
  have eI : ∀ j, cq_I h' (pe u) j = if j = 4 then cq_I g (x + 16) u + 1 else if j = 1 then cq_I g (x + 12) u + 1 + 1 else cq_I h (pe u) j := fun j => by
    rw [e.I (k0 := 4) (by rw [es]; exact f.s0) rfl]
    unfold lkW
    simp only [mm_sI, mm_sJ, mm_sA, mm_IJ, mm_IA, mm_JI, mm_JA, mm_AI, mm_AJ, mm_ssI, mm_ssJ, mm_ssA, mm_zI, mm_zJ, mm_zA, mm_nI, mm_nJ, mm_nA, n01, n10, Nat.left_eq_add, Nat.add_eq_left, Nat.add_left_cancel_iff, Nat.reduceEqDiff, Int.reduceEq, false_and, and_false, if_false, if_true, and_self, true_and, true_or, or_true, false_or, or_false]
    repeat' split
    all_goals rfl
  have eJ : ∀ j, cq_J h' (pe u) j = if j = 7 then seP (dV (cq_J g (x + 1) u) (cq_I g (x + 12) u + 1)) (dO (cq_J g (x + 1) u) (cq_I g (x + 12) u + 1)) (dO (cq_J g (x + 1) u) (cq_I g (x + 12) u)) (cq_J g (x + 13) u) else if j = 6 then dO (cq_J g (x + 1) u) (cq_I g (x + 12) u + 1) else if j = 5 then dO (cq_J g (x + 1) u) (cq_I g (x + 12) u) else cq_J h (pe u) j := fun j => by
    rw [e.J (k0 := 4) (by rw [es]; exact f.s0) (by decide)]
    unfold lkW
    simp only [mm_sI, mm_sJ, mm_sA, mm_IJ, mm_IA, mm_JI, mm_JA, mm_AI, mm_AJ, mm_ssI, mm_ssJ, mm_ssA, mm_zI, mm_zJ, mm_zA, mm_nI, mm_nJ, mm_nA, n01, n10, Nat.left_eq_add, Nat.add_eq_left, Nat.add_left_cancel_iff, Nat.reduceEqDiff, Int.reduceEq, false_and, and_false, if_false, if_true, and_self, true_and, true_or, or_true, false_or, or_false]
  have eA : ∀ j, j ≠ 2 → cq_A h' (pe u) j = cq_A h (pe u) j := fun j w => by
    rw [e.A (k0 := 4) (by rw [es]; exact f.s0) rfl]
    unfold lkW
    simp only [mm_sI, mm_sJ, mm_sA, mm_IJ, mm_IA, mm_JI, mm_JA, mm_AI, mm_AJ, mm_ssI, mm_ssJ, mm_ssA, mm_zI, mm_zJ, mm_zA, mm_nI, mm_nJ, mm_nA, n01, n10, w, Nat.left_eq_add, Nat.add_eq_left, Nat.add_left_cancel_iff, Nat.reduceEqDiff, Int.reduceEq, false_and, and_false, if_false, if_true, and_self, true_and, true_or, or_true, false_or, or_false]
  have e1 : ∀ j, cq_A h' (pe u + 1) j = if j = cq_I g (x + 16) u + 1 then some t else cq_A h (pe u + 1) j := fun j => by
    rw [e.A (k0 := 176) (by rw [es]; exact f.s1) rfl]
    unfold lkW
    simp only [mm_sI, mm_sJ, mm_sA, mm_IJ, mm_IA, mm_JI, mm_JA, mm_AI, mm_AJ, mm_ssI, mm_ssJ, mm_ssA, mm_zI, mm_zJ, mm_zA, mm_nI, mm_nJ, mm_nA, n01, n10, Nat.left_eq_add, Nat.add_eq_left, Nat.add_left_cancel_iff, Nat.reduceEqDiff, Int.reduceEq, false_and, and_false, if_false, if_true, and_self, true_and, true_or, or_true, false_or, or_false]
  have eIo : ∀ j, j ≠ 4 → j ≠ 1 → cq_I h' (pe u) j = cq_I h (pe u) j := fun j w1 w2 => by rw [eI, if_neg w1, if_neg w2]
  have eI4 : cq_I h' (pe u) 4 = cq_I g (x + 16) u + 1 := by rw [eI, if_pos rfl]
  have eI1 : cq_I h' (pe u) 1 = cq_I g (x + 12) u + 1 + 1 := by rw [eI, if_neg (by decide), if_pos rfl]
  have eJ0 : cq_J h' (pe u) 0 = cq_J h (pe u) 0 := by rw [eJ, if_neg (by decide), if_neg (by decide), if_neg (by decide)]
  have eJ5 : cq_J h' (pe u) 5 = dO (cq_J g (x + 1) u) (cq_I g (x + 12) u) := by rw [eJ, if_neg (by decide), if_neg (by decide), if_pos rfl]
  have eJ6 : cq_J h' (pe u) 6 = dO (cq_J g (x + 1) u) (cq_I g (x + 12) u + 1) := by rw [eJ, if_neg (by decide), if_pos rfl]
  have eJ7 : cq_J h' (pe u) 7 = seP (dV (cq_J g (x + 1) u) (cq_I g (x + 12) u + 1)) (dO (cq_J g (x + 1) u) (cq_I g (x + 12) u + 1)) (dO (cq_J g (x + 1) u) (cq_I g (x + 12) u)) (cq_J g (x + 13) u) := by rw [eJ, if_pos rfl]
  have ex := ex0.trans (e.x (P := fun a => a = pe u ∨ a = pe u + 1))
  have p2 : ¬ (fun a => a = pe u ∨ a = pe u + 1) (pe u + 2) := fun w => by dsimp only at w; omega
  have p3 : ¬ (fun a => a = pe u ∨ a = pe u + 1) (pe u + 3) := fun w => by dsimp only at w; omega
  have p4 : ¬ (fun a => a = pe u ∨ a = pe u + 1) (pe u + 4) := fun w => by dsimp only at w; omega
  have p5 : ¬ (fun a => a = pe u ∨ a = pe u + 1) (pe u + 5) := fun w => by dsimp only at w; omega
  refine F.upU hu ex (fun a w => w.elim Or.inl (fun z => Or.inr (Or.inl z))) (fun o j h1 h2 h3 w => ⟨?_, ?_⟩) (fun j _ => Q.x_ j) (eA 13 (by decide)) ?_
  · exact Q.I_ o j h1 (fun z => w (Or.inl ⟨by omega, z.2⟩))
  · exact Q.J_ o j h1 (fun z => w (Or.inl ⟨by omega, z.2⟩)) (fun z => w (Or.inr (Or.inl ⟨by omega, by omega, by omega⟩)))
  have I11 := Q.I_ 11 u (by decide) (by omega)
  have I12 := Q.i12
  have I16 := Q.i16
  have I23 := Q.I_ 23 u (by decide) (by omega)
  have I58 := Q.I_ 58 u (by decide) (by omega)
  have J1 := Q.J_ 1 u (by decide) (by omega) (by omega)
  have J13 := Q.J_ 13 u (by decide) (by omega) (by omega)
  have J14 := Q.J_ 14 u (by decide) (by omega) (by omega)
  have J20 := Q.j20
  have J21 := Q.j21
  have J22 := Q.j22
  have J17 : ∀ k, cq_J g' (x + 17) (21 * u + k) = if k = cq_I g (x + 16) u + 1 then dV (cq_J g (x + 1) u) (cq_I g (x + 12) u) else cq_J g (x + 17) (21 * u + k) := fun k => by
    by_cases w : k = cq_I g (x + 16) u + 1
    · rw [if_pos w, w]; exact Q.j17
    · rw [if_neg w]; exact Q.J_ 17 _ (by decide) (by omega) (by omega)
  have J18 : ∀ k, cq_J g' (x + 18) (21 * u + k) = if k = cq_I g (x + 16) u + 1 then dO (cq_J g (x + 1) u) (cq_I g (x + 12) u) else cq_J g (x + 18) (21 * u + k) := fun k => by
    by_cases w : k = cq_I g (x + 16) u + 1
    · rw [if_pos w, w]; exact Q.j18
    · rw [if_neg w]; exact Q.J_ 18 _ (by decide) (by omega) (by omega)
  refine ⟨ex.s f.s0 (by decide), ex.s f.s1 (by decide), ex.s f.s2 (by decide), ex.s f.s3 (by decide), ex.s f.s4 (by decide), ex.s f.s5 (by decide), by rw [eA 8 (by decide)]; exact f.a8, by rw [eA 9 (by decide)]; exact f.a9, by rw [eA 10 (by decide)]; exact f.a10, by rw [eA 14 (by decide)]; exact f.a14, by rw [eA 15 (by decide)]; exact f.a15, by rw [J1, eJ0]; exact f.sd, by rw [I12, eI1], fun q => absurd q (by rw [I11]; exact hU), fun q => ?_, by rw [J21]; exact dO_rg.2, by rw [I16, eI4], by rw [I16]; omega, by rw [J20, eJ5], by rw [J21, eJ6], by rw [J22, eJ7], fun k k1 k2 => ?_, by rw [I23, eIo 11 (by decide) (by decide)]; exact f.on, by rw [I23]; exact f.o60, fun k k1 k2 => ?_, fun k k1 k2 => ?_, fun k k1 => ?_, by rw [I23, eIo 12 (by decide) (by decide)]; exact f.ot, fun k k1 k2 => ?_, by rw [I58, eIo 16 (by decide) (by decide)]; exact f.hd, by rw [I58]; exact f.h100, fun k k1 k2 => ?_⟩
  · obtain ⟨d, q1, q2, q3, q4, q5, q6, q7⟩ := f.n1 hU
    exact ⟨d, by rw [eA 3 (by decide)]; exact q1, ex.s q2 (by decide), by rw [ex.2.1 d q2, J13]; exact q3, by rw [ex.2.1 d q2, J14]; exact q4, by rw [J13]; exact q5, by rw [J14]; exact q6, by rw [J14]; exact q7⟩
  · rw [I16] at k2
    rw [J17, J18]
    by_cases w : k = cq_I g (x + 16) u + 1
    · rw [if_pos w, if_pos w]
      exact ⟨t, by rw [e1, if_pos w], st, v1, v2⟩
    · rw [if_neg w, if_neg w]
      obtain ⟨d, q1, q2, q3, q4⟩ := f.lk k k1 (by omega)
      exact ⟨d, by rw [e1, if_neg w]; exact q1, ex.s q2 (by decide), by rw [ex.2.1 d q2]; exact q3, by rw [ex.2.1 d q2]; exact q4⟩
  · rw [I23] at k2
    obtain ⟨d, q1, q2, q3, q4⟩ := f.ok k k1 k2
    have j24 : cq_J (g') (x + 24) (61 * u + k) = cq_J g (x + 24) (61 * u + k) := Q.J_ _ _ (by decide) (by omega) (by omega)
    have j25 : cq_J (g') (x + 25) (61 * u + k) = cq_J g (x + 25) (61 * u + k) := Q.J_ _ _ (by decide) (by omega) (by omega)
    exact ⟨d, by rw [ex.A f.s2 rfl p2]; exact q1, ex.s q2 (by decide), by rw [ex.2.1 d q2, j24]; exact q3, by rw [ex.2.1 d q2, j25]; exact q4⟩
  · rw [I23] at k2
    have i28 : cq_I (g') (x + 28) (61 * u + k) = cq_I g (x + 28) (61 * u + k) := Q.I_ _ _ (by decide) (by omega)
    rw [ex.I f.s3 rfl p3, i28]
    exact f.ou k k1 k2
  · rw [I23] at k1
    rw [ex.I f.s3 rfl p3]
    exact f.oz k k1
  · rw [I23] at k2
    have i27 : cq_I (g') (x + 27) (61 * u + k) = cq_I g (x + 27) (61 * u + k) := Q.I_ _ _ (by decide) (by omega)
    rw [i27, eIo 12 (by decide) (by decide)]
    exact f.od k k1 k2
  · rw [I58] at k2
    have j60 : cq_J (g') (x + 60) (100 * u + k) = cq_J g (x + 60) (100 * u + k) := Q.J_ _ _ (by decide) (by omega) (by omega)
    have i59 : cq_I (g') (x + 59) (100 * u + k) = cq_I g (x + 59) (100 * u + k) := Q.I_ _ _ (by decide) (by omega)
    rw [ex.J f.s4 (by decide) p4, ex.I f.s5 rfl p5, j60, i59]
    exact f.he k k1 k2
end
