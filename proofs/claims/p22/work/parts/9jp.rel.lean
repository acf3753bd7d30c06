/-! class and reference, by value -/
/-- a user: p its cell, u its number, x the reference -/
def FU (x p : Nat) (u : Int) (h g : cx_Q) : Prop := (cq_s h p = 4) ∧ (cq_s h (p + 1) = 176) ∧ (cq_s h (p + 2) = 177) ∧ (cq_s h (p + 3) = 178) ∧ (cq_s h (p + 4) = 179) ∧ (cq_s h (p + 5) = 180) ∧ (cq_A h p 8 = some (p + 1)) ∧ (cq_A h p 9 = some (p + 2)) ∧ (cq_A h p 10 = some (p + 3)) ∧ (cq_A h p 14 = some (p + 4)) ∧ (cq_A h p 15 = some (p + 5)) ∧ (cq_J h p 0 = cq_J g (x + 1) u) ∧ (cq_I h p 1 = cq_I g (x + 12) u) ∧ (cq_I g (x + 11) u = 0 → cq_A h p 3 = none) ∧ (cq_I g (x + 11) u ≠ 0 → ∃ d, cq_A h p 3 = some d ∧ cq_s h d = 6 ∧ cq_J h d 0 = cq_J g (x + 13) u ∧ cq_J h d 1 = cq_J g (x + 14) u ∧ uu (cq_J g (x + 13) u) < 2305843009213693952 ∧ 0 < uu (cq_J g (x + 14) u) ∧ uu (cq_J g (x + 14) u) < 2305843009213693951) ∧ (uu (cq_J g (x + 21) u) < 2305843009213693951) ∧ (cq_I h p 4 = cq_I g (x + 16) u) ∧ (0 ≤ cq_I g (x + 16) u ∧ cq_I g (x + 16) u ≤ 20) ∧ (cq_J h p 5 = cq_J g (x + 20) u) ∧ (cq_J h p 6 = cq_J g (x + 21) u) ∧ (cq_J h p 7 = cq_J g (x + 22) u) ∧ (∀ k, 1 ≤ k → k ≤ cq_I g (x + 16) u → ∃ d, cq_A h (p + 1) k = some d ∧ cq_s h d = 6 ∧ cq_J h d 0 = cq_J g (x + 17) (21 * u + k) ∧ cq_J h d 1 = cq_J g (x + 18) (21 * u + k)) ∧ (cq_I h p 11 = cq_I g (x + 23) u) ∧ (0 ≤ cq_I g (x + 23) u ∧ cq_I g (x + 23) u ≤ 60) ∧ (∀ k, 1 ≤ k → k ≤ cq_I g (x + 23) u → ∃ d, cq_A h (p + 2) k = some d ∧ cq_s h d = 6 ∧ cq_J h d 0 = cq_J g (x + 24) (61 * u + k) ∧ cq_J h d 1 = cq_J g (x + 25) (61 * u + k)) ∧ (∀ k, 1 ≤ k → k ≤ cq_I g (x + 23) u → (cq_I h (p + 3) k = 0 ↔ cq_I g (x + 28) (61 * u + k) ≠ 0)) ∧ (∀ k, cq_I g (x + 23) u < k → cq_I h (p + 3) k = 0) ∧ (0 ≤ cq_I h p 12 ∧ cq_I h p 12 ≤ cq_I g (x + 23) u) ∧ (∀ k, 1 ≤ k → k ≤ cq_I g (x + 23) u → (cq_I g (x + 27) (61 * u + k) ≠ 0 ↔ cq_I h p 12 < k)) ∧ (cq_I h p 16 = cq_I g (x + 58) u) ∧ (0 ≤ cq_I g (x + 58) u ∧ cq_I g (x + 58) u ≤ 100) ∧ (∀ k, 0 ≤ k → k < cq_I g (x + 58) u → cq_J h (p + 4) k = cq_J g (x + 60) (100 * u + k) ∧ cq_I h (p + 5) k = cq_I g (x + 59) (100 * u + k))
theorem FU.s0 {x p : Nat} {u : Int} {h g : cx_Q} (F_ : FU x p u h g) : cq_s h p = 4 := F_.1
theorem FU.s1 {x p : Nat} {u : Int} {h g : cx_Q} (F_ : FU x p u h g) : cq_s h (p + 1) = 176 := F_.2.1
theorem FU.s2 {x p : Nat} {u : Int} {h g : cx_Q} (F_ : FU x p u h g) : cq_s h (p + 2) = 177 := F_.2.2.1
theorem FU.s3 {x p : Nat} {u : Int} {h g : cx_Q} (F_ : FU x p u h g) : cq_s h (p + 3) = 178 := F_.2.2.2.1
theorem FU.s4 {x p : Nat} {u : Int} {h g : cx_Q} (F_ : FU x p u h g) : cq_s h (p + 4) = 179 := F_.2.2.2.2.1
theorem FU.s5 {x p : Nat} {u : Int} {h g : cx_Q} (F_ : FU x p u h g) : cq_s h (p + 5) = 180 := F_.2.2.2.2.2.1
theorem FU.a8 {x p : Nat} {u : Int} {h g : cx_Q} (F_ : FU x p u h g) : cq_A h p 8 = some (p + 1) := F_.2.2.2.2.2.2.1
theorem FU.a9 {x p : Nat} {u : Int} {h g : cx_Q} (F_ : FU x p u h g) : cq_A h p 9 = some (p + 2) := F_.2.2.2.2.2.2.2.1
theorem FU.a10 {x p : Nat} {u : Int} {h g : cx_Q} (F_ : FU x p u h g) : cq_A h p 10 = some (p + 3) := F_.2.2.2.2.2.2.2.2.1
theorem FU.a14 {x p : Nat} {u : Int} {h g : cx_Q} (F_ : FU x p u h g) : cq_A h p 14 = some (p + 4) := F_.2.2.2.2.2.2.2.2.2.1
theorem FU.a15 {x p : Nat} {u : Int} {h g : cx_Q} (F_ : FU x p u h g) : cq_A h p 15 = some (p + 5) := F_.2.2.2.2.2.2.2.2.2.2.1
theorem FU.sd {x p : Nat} {u : Int} {h g : cx_Q} (F_ : FU x p u h g) : cq_J h p 0 = cq_J g (x + 1) u := F_.2.2.2.2.2.2.2.2.2.2.2.1
theorem FU.dr {x p : Nat} {u : Int} {h g : cx_Q} (F_ : FU x p u h g) : cq_I h p 1 = cq_I g (x + 12) u := F_.2.2.2.2.2.2.2.2.2.2.2.2.1
theorem FU.n0 {x p : Nat} {u : Int} {h g : cx_Q} (F_ : FU x p u h g) : cq_I g (x + 11) u = 0 → cq_A h p 3 = none := F_.2.2.2.2.2.2.2.2.2.2.2.2.2.1
theorem FU.n1 {x p : Nat} {u : Int} {h g : cx_Q} (F_ : FU x p u h g) : cq_I g (x + 11) u ≠ 0 → ∃ d, cq_A h p 3 = some d ∧ cq_s h d = 6 ∧ cq_J h d 0 = cq_J g (x + 13) u ∧ cq_J h d 1 = cq_J g (x + 14) u ∧ uu (cq_J g (x + 13) u) < 2305843009213693952 ∧ 0 < uu (cq_J g (x + 14) u) ∧ uu (cq_J g (x + 14) u) < 2305843009213693951 := F_.2.2.2.2.2.2.2.2.2.2.2.2.2.2.1
theorem FU.sb {x p : Nat} {u : Int} {h g : cx_Q} (F_ : FU x p u h g) : uu (cq_J g (x + 21) u) < 2305843009213693951 := F_.2.2.2.2.2.2.2.2.2.2.2.2.2.2.2.1
theorem FU.ln {x p : Nat} {u : Int} {h g : cx_Q} (F_ : FU x p u h g) : cq_I h p 4 = cq_I g (x + 16) u := F_.2.2.2.2.2.2.2.2.2.2.2.2.2.2.2.2.1
theorem FU.l20 {x p : Nat} {u : Int} {h g : cx_Q} (F_ : FU x p u h g) : 0 ≤ cq_I g (x + 16) u ∧ cq_I g (x + 16) u ≤ 20 := F_.2.2.2.2.2.2.2.2.2.2.2.2.2.2.2.2.2.1
theorem FU.lo {x p : Nat} {u : Int} {h g : cx_Q} (F_ : FU x p u h g) : cq_J h p 5 = cq_J g (x + 20) u := F_.2.2.2.2.2.2.2.2.2.2.2.2.2.2.2.2.2.2.1
theorem FU.so {x p : Nat} {u : Int} {h g : cx_Q} (F_ : FU x p u h g) : cq_J h p 6 = cq_J g (x + 21) u := F_.2.2.2.2.2.2.2.2.2.2.2.2.2.2.2.2.2.2.2.1
theorem FU.sp {x p : Nat} {u : Int} {h g : cx_Q} (F_ : FU x p u h g) : cq_J h p 7 = cq_J g (x + 22) u := F_.2.2.2.2.2.2.2.2.2.2.2.2.2.2.2.2.2.2.2.2.1
theorem FU.lk {x p : Nat} {u : Int} {h g : cx_Q} (F_ : FU x p u h g) : ∀ k, 1 ≤ k → k ≤ cq_I g (x + 16) u → ∃ d, cq_A h (p + 1) k = some d ∧ cq_s h d = 6 ∧ cq_J h d 0 = cq_J g (x + 17) (21 * u + k) ∧ cq_J h d 1 = cq_J g (x + 18) (21 * u + k) := F_.2.2.2.2.2.2.2.2.2.2.2.2.2.2.2.2.2.2.2.2.2.1
theorem FU.on {x p : Nat} {u : Int} {h g : cx_Q} (F_ : FU x p u h g) : cq_I h p 11 = cq_I g (x + 23) u := F_.2.2.2.2.2.2.2.2.2.2.2.2.2.2.2.2.2.2.2.2.2.2.1
theorem FU.o60 {x p : Nat} {u : Int} {h g : cx_Q} (F_ : FU x p u h g) : 0 ≤ cq_I g (x + 23) u ∧ cq_I g (x + 23) u ≤ 60 := F_.2.2.2.2.2.2.2.2.2.2.2.2.2.2.2.2.2.2.2.2.2.2.2.1
theorem FU.ok {x p : Nat} {u : Int} {h g : cx_Q} (F_ : FU x p u h g) : ∀ k, 1 ≤ k → k ≤ cq_I g (x + 23) u → ∃ d, cq_A h (p + 2) k = some d ∧ cq_s h d = 6 ∧ cq_J h d 0 = cq_J g (x + 24) (61 * u + k) ∧ cq_J h d 1 = cq_J g (x + 25) (61 * u + k) := F_.2.2.2.2.2.2.2.2.2.2.2.2.2.2.2.2.2.2.2.2.2.2.2.2.1
theorem FU.ou {x p : Nat} {u : Int} {h g : cx_Q} (F_ : FU x p u h g) : ∀ k, 1 ≤ k → k ≤ cq_I g (x + 23) u → (cq_I h (p + 3) k = 0 ↔ cq_I g (x + 28) (61 * u + k) ≠ 0) := F_.2.2.2.2.2.2.2.2.2.2.2.2.2.2.2.2.2.2.2.2.2.2.2.2.2.1
theorem FU.oz {x p : Nat} {u : Int} {h g : cx_Q} (F_ : FU x p u h g) : ∀ k, cq_I g (x + 23) u < k → cq_I h (p + 3) k = 0 := F_.2.2.2.2.2.2.2.2.2.2.2.2.2.2.2.2.2.2.2.2.2.2.2.2.2.2.1
theorem FU.ot {x p : Nat} {u : Int} {h g : cx_Q} (F_ : FU x p u h g) : 0 ≤ cq_I h p 12 ∧ cq_I h p 12 ≤ cq_I g (x + 23) u := F_.2.2.2.2.2.2.2.2.2.2.2.2.2.2.2.2.2.2.2.2.2.2.2.2.2.2.2.1
theorem FU.od {x p : Nat} {u : Int} {h g : cx_Q} (F_ : FU x p u h g) : ∀ k, 1 ≤ k → k ≤ cq_I g (x + 23) u → (cq_I g (x + 27) (61 * u + k) ≠ 0 ↔ cq_I h p 12 < k) := F_.2.2.2.2.2.2.2.2.2.2.2.2.2.2.2.2.2.2.2.2.2.2.2.2.2.2.2.2.1
theorem FU.hd {x p : Nat} {u : Int} {h g : cx_Q} (F_ : FU x p u h g) : cq_I h p 16 = cq_I g (x + 58) u := F_.2.2.2.2.2.2.2.2.2.2.2.2.2.2.2.2.2.2.2.2.2.2.2.2.2.2.2.2.2.1
theorem FU.h100 {x p : Nat} {u : Int} {h g : cx_Q} (F_ : FU x p u h g) : 0 ≤ cq_I g (x + 58) u ∧ cq_I g (x + 58) u ≤ 100 := F_.2.2.2.2.2.2.2.2.2.2.2.2.2.2.2.2.2.2.2.2.2.2.2.2.2.2.2.2.2.2.1
theorem FU.he {x p : Nat} {u : Int} {h g : cx_Q} (F_ : FU x p u h g) : ∀ k, 0 ≤ k → k < cq_I g (x + 58) u → cq_J h (p + 4) k = cq_J g (x + 60) (100 * u + k) ∧ cq_I h (p + 5) k = cq_I g (x + 59) (100 * u + k) := F_.2.2.2.2.2.2.2.2.2.2.2.2.2.2.2.2.2.2.2.2.2.2.2.2.2.2.2.2.2.2.2
/-- what of the reference is told of a user -/
def inU (u : Int) (o : Nat) (j : Int) : Prop := ((o = 1 ∨ o = 11 ∨ o = 12 ∨ o = 13 ∨ o = 14 ∨ o = 16 ∨ o = 20 ∨ o = 21 ∨ o = 22 ∨ o = 23 ∨ o = 58) ∧ j = u) ∨ ((o = 17 ∨ o = 18) ∧ 21 * u < j ∧ j ≤ 21 * u + 20) ∨ ((o = 24 ∨ o = 25 ∨ o = 27 ∨ o = 28) ∧ 61 * u < j ∧ j ≤ 61 * u + 60) ∨ ((o = 59 ∨ o = 60) ∧ 100 * u ≤ j ∧ j < 100 * u + 100)
/-- a user of whom nothing is other -/
theorem FU.fr {x p : Nat} {u : Int} {h g h' g' : cx_Q} (F : FU x p u h g) (es : ∀ d, cq_s h d ≠ 99 → cq_s h' d = cq_s h d) (eI : cq_I h' p = cq_I h p) (eJ : cq_J h' p = cq_J h p) (eA : cq_A h' p = cq_A h p) (e1 : cq_A h' (p + 1) = cq_A h (p + 1)) (e2 : cq_A h' (p + 2) = cq_A h (p + 2)) (e3 : cq_I h' (p + 3) = cq_I h (p + 3)) (e4 : cq_J h' (p + 4) = cq_J h (p + 4)) (e5 : cq_I h' (p + 5) = cq_I h (p + 5)) (e6 : ∀ d, cq_s h d = 6 → cq_J h' d = cq_J h d) (eg : ∀ o j, inU u o j → cq_I g' (x + o) j = cq_I g (x + o) j ∧ cq_J g' (x + o) j = cq_J g (x + o) j) : FU x p u h' g' := by
  have gI : ∀ o, (o = 1 ∨ o = 11 ∨ o = 12 ∨ o = 13 ∨ o = 14 ∨ o = 16 ∨ o = 20 ∨ o = 21 ∨ o = 22 ∨ o = 23 ∨ o = 58) → cq_I g' (x + o) u = cq_I g (x + o) u := fun o w => (eg o u (Or.inl ⟨w, rfl⟩)).1
  have gJ : ∀ o, (o = 1 ∨ o = 11 ∨ o = 12 ∨ o = 13 ∨ o = 14 ∨ o = 16 ∨ o = 20 ∨ o = 21 ∨ o = 22 ∨ o = 23 ∨ o = 58) → cq_J g' (x + o) u = cq_J g (x + o) u := fun o w => (eg o u (Or.inl ⟨w, rfl⟩)).2
  have i11 := gI 11 (by omega)
  have i12 := gI 12 (by omega)
  have i16 := gI 16 (by omega)
  have i23 := gI 23 (by omega)
  have i58 := gI 58 (by omega)
  have ss : ∀ {d k : Nat}, cq_s h d = k → k ≠ 99 → cq_s h' d = k := fun {d k} w w2 => (es d (by rw [w]; exact w2)).trans w
  have l20 := F.l20
  have o60 := F.o60
  have h100 := F.h100
  refine ⟨ss F.s0 (by decide), ss F.s1 (by decide), ss F.s2 (by decide), ss F.s3 (by decide), ss F.s4 (by decide), ss F.s5 (by decide), by rw [eA]; exact F.a8, by rw [eA]; exact F.a9, by rw [eA]; exact F.a10, by rw [eA]; exact F.a14, by rw [eA]; exact F.a15, by rw [eJ, gJ 1 (by omega)]; exact F.sd, by rw [eI, i12]; exact F.dr, fun q => by rw [eA]; exact F.n0 (by rw [← i11]; exact q), fun q => ?_, by rw [gJ 21 (by omega)]; exact F.sb, by rw [eI, i16]; exact F.ln, by rw [i16]; exact F.l20, by rw [eJ, gJ 20 (by omega)]; exact F.lo, by rw [eJ, gJ 21 (by omega)]; exact F.so, by rw [eJ, gJ 22 (by omega)]; exact F.sp, fun k k1 k2 => ?_, by rw [eI, i23]; exact F.on, by rw [i23]; exact F.o60, fun k k1 k2 => ?_, fun k k1 k2 => ?_, fun k k1 => ?_, by rw [eI, i23]; exact F.ot, fun k k1 k2 => ?_, by rw [eI, i58]; exact F.hd, by rw [i58]; exact F.h100, fun k k1 k2 => ?_⟩
  · obtain ⟨d, q1, q2, q3, q4, q5, q6, q7⟩ := F.n1 (by rw [← i11]; exact q)
    exact ⟨d, by rw [eA]; exact q1, ss q2 (by decide), by rw [e6 d q2, gJ 13 (by omega)]; exact q3, by rw [e6 d q2, gJ 14 (by omega)]; exact q4, by rw [gJ 13 (by omega)]; exact q5, by rw [gJ 14 (by omega)]; exact q6, by rw [gJ 14 (by omega)]; exact q7⟩
  · rw [i16] at k2
    obtain ⟨d, q1, q2, q3, q4⟩ := F.lk k k1 k2
    exact ⟨d, by rw [e1]; exact q1, ss q2 (by decide), by rw [e6 d q2, (eg 17 (21 * u + k) (Or.inr (Or.inl ⟨Or.inl rfl, by omega, by omega⟩))).2]; exact q3, by rw [e6 d q2, (eg 18 (21 * u + k) (Or.inr (Or.inl ⟨Or.inr rfl, by omega, by omega⟩))).2]; exact q4⟩
  · rw [i23] at k2
    obtain ⟨d, q1, q2, q3, q4⟩ := F.ok k k1 k2
    exact ⟨d, by rw [e2]; exact q1, ss q2 (by decide), by rw [e6 d q2, (eg 24 (61 * u + k) (Or.inr (Or.inr (Or.inl ⟨Or.inl rfl, by omega, by omega⟩)))).2]; exact q3, by rw [e6 d q2, (eg 25 (61 * u + k) (Or.inr (Or.inr (Or.inl ⟨Or.inr (Or.inl rfl), by omega, by omega⟩)))).2]; exact q4⟩
  · rw [i23] at k2
    rw [e3, (eg 28 (61 * u + k) (Or.inr (Or.inr (Or.inl ⟨Or.inr (Or.inr (Or.inr rfl)), by omega, by omega⟩)))).1]
    exact F.ou k k1 k2
  · rw [i23] at k1
    rw [e3]
    exact F.oz k k1
  · rw [i23] at k2
    rw [eI, (eg 27 (61 * u + k) (Or.inr (Or.inr (Or.inl ⟨Or.inr (Or.inr (Or.inl rfl)), by omega, by omega⟩)))).1]
    exact F.od k k1 k2
  · rw [i58] at k2
    rw [e4, e5, (eg 60 (100 * u + k) (Or.inr (Or.inr (Or.inr ⟨Or.inr rfl, by omega, by omega⟩)))).2, (eg 59 (100 * u + k) (Or.inr (Or.inr (Or.inr ⟨Or.inl rfl, by omega, by omega⟩)))).1]
    exact F.he k k1 k2
/-- a SESSION: a its cell, s its slot -/
def SR (x a : Nat) (s : Int) (h g : cx_Q) : Prop := (cq_s h a = 7) ∧ (cq_s h (a + 1) = 1) ∧ (cq_s h (a + 2) = 171) ∧ (cq_s h (a + 3) = 172) ∧ (cq_s h (a + 4) = 173) ∧ (cq_A h a 19 = some (a + 1)) ∧ (cq_A h (a + 1) 0 = some (a + 2)) ∧ (cq_A h (a + 1) 1 = some (a + 3)) ∧ (cq_A h (a + 1) 2 = some (a + 4)) ∧ (cq_I h a 0 = cq_I g (x + 44) s) ∧ (cq_J h a 2 = cq_J g (x + 45) s) ∧ (cq_I h a 5 = cq_I g (x + 43) s) ∧ (cq_I g (x + 43) s ≠ 0 → cq_I h a 3 = cq_I g (x + 46) s ∧ cq_I h a 4 = cq_I g (x + 47) s) ∧ (cq_J h a 6 = cq_J g (x + 31) s) ∧ (cq_J h a 8 = cq_J g (x + 32) s) ∧ (cq_A h a 9 ≠ none) ∧ (cq_I g (x + 33) s ≠ 0) ∧ (cq_A h a 11 = none ↔ cq_I g (x + 35) s = 0) ∧ (cq_I g (x + 35) s ≠ 0 → cq_J h a 10 = cq_J g (x + 34) s) ∧ (cq_I g (x + 35) s = 0 → cq_J h a 10 = Int64.ofInt 0) ∧ (∃ w, cq_A h a 12 = some w ∧ cq_s h w = 6 ∧ cq_J h w 0 = cq_J g (x + 36) s ∧ cq_J h w 1 = cq_J g (x + 37) s) ∧ (cq_J h a 13 = cq_J g (x + 38) s) ∧ (cq_I h a 15 = cq_I g (x + 39) s) ∧ (cq_I h a 16 = cq_I g (x + 40) s) ∧ (cq_I h a 17 = cq_I g (x + 41) s) ∧ (cq_I h a 18 = cq_I g (x + 42) s) ∧ (cq_I h (a + 1) 4 = cq_I g (x + 53) s) ∧ (0 ≤ cq_I g (x + 53) s ∧ cq_I g (x + 53) s ≤ 20) ∧ (∀ k, 0 ≤ k → k < cq_I g (x + 53) s → cq_J h (a + 2) k = cq_J g (x + 54) (20 * s + k) ∧ cq_I h (a + 3) k = cq_I g (x + 55) (20 * s + k) ∧ cq_J h (a + 4) k = cq_J g (x + 56) (20 * s + k))
theorem SR.s0 {x a : Nat} {s : Int} {h g : cx_Q} (F_ : SR x a s h g) : cq_s h a = 7 := F_.1
theorem SR.s1 {x a : Nat} {s : Int} {h g : cx_Q} (F_ : SR x a s h g) : cq_s h (a + 1) = 1 := F_.2.1
theorem SR.s2 {x a : Nat} {s : Int} {h g : cx_Q} (F_ : SR x a s h g) : cq_s h (a + 2) = 171 := F_.2.2.1
theorem SR.s3 {x a : Nat} {s : Int} {h g : cx_Q} (F_ : SR x a s h g) : cq_s h (a + 3) = 172 := F_.2.2.2.1
theorem SR.s4 {x a : Nat} {s : Int} {h g : cx_Q} (F_ : SR x a s h g) : cq_s h (a + 4) = 173 := F_.2.2.2.2.1
theorem SR.a19 {x a : Nat} {s : Int} {h g : cx_Q} (F_ : SR x a s h g) : cq_A h a 19 = some (a + 1) := F_.2.2.2.2.2.1
theorem SR.k0 {x a : Nat} {s : Int} {h g : cx_Q} (F_ : SR x a s h g) : cq_A h (a + 1) 0 = some (a + 2) := F_.2.2.2.2.2.2.1
theorem SR.k1 {x a : Nat} {s : Int} {h g : cx_Q} (F_ : SR x a s h g) : cq_A h (a + 1) 1 = some (a + 3) := F_.2.2.2.2.2.2.2.1
theorem SR.k2 {x a : Nat} {s : Int} {h g : cx_Q} (F_ : SR x a s h g) : cq_A h (a + 1) 2 = some (a + 4) := F_.2.2.2.2.2.2.2.2.1
theorem SR.bg {x a : Nat} {s : Int} {h g : cx_Q} (F_ : SR x a s h g) : cq_I h a 0 = cq_I g (x + 44) s := F_.2.2.2.2.2.2.2.2.2.1
theorem SR.be {x a : Nat} {s : Int} {h g : cx_Q} (F_ : SR x a s h g) : cq_J h a 2 = cq_J g (x + 45) s := F_.2.2.2.2.2.2.2.2.2.2.1
theorem SR.gw {x a : Nat} {s : Int} {h g : cx_Q} (F_ : SR x a s h g) : cq_I h a 5 = cq_I g (x + 43) s := F_.2.2.2.2.2.2.2.2.2.2.2.1
theorem SR.gl {x a : Nat} {s : Int} {h g : cx_Q} (F_ : SR x a s h g) : cq_I g (x + 43) s ≠ 0 → cq_I h a 3 = cq_I g (x + 46) s ∧ cq_I h a 4 = cq_I g (x + 47) s := F_.2.2.2.2.2.2.2.2.2.2.2.2.1
theorem SR.rt {x a : Nat} {s : Int} {h g : cx_Q} (F_ : SR x a s h g) : cq_J h a 6 = cq_J g (x + 31) s := F_.2.2.2.2.2.2.2.2.2.2.2.2.2.1
theorem SR.sn {x a : Nat} {s : Int} {h g : cx_Q} (F_ : SR x a s h g) : cq_J h a 8 = cq_J g (x + 32) s := F_.2.2.2.2.2.2.2.2.2.2.2.2.2.2.1
theorem SR.s9 {x a : Nat} {s : Int} {h g : cx_Q} (F_ : SR x a s h g) : cq_A h a 9 ≠ none := F_.2.2.2.2.2.2.2.2.2.2.2.2.2.2.2.1
theorem SR.hs {x a : Nat} {s : Int} {h g : cx_Q} (F_ : SR x a s h g) : cq_I g (x + 33) s ≠ 0 := F_.2.2.2.2.2.2.2.2.2.2.2.2.2.2.2.2.1
theorem SR.hr {x a : Nat} {s : Int} {h g : cx_Q} (F_ : SR x a s h g) : cq_A h a 11 = none ↔ cq_I g (x + 35) s = 0 := F_.2.2.2.2.2.2.2.2.2.2.2.2.2.2.2.2.2.1
theorem SR.rc {x a : Nat} {s : Int} {h g : cx_Q} (F_ : SR x a s h g) : cq_I g (x + 35) s ≠ 0 → cq_J h a 10 = cq_J g (x + 34) s := F_.2.2.2.2.2.2.2.2.2.2.2.2.2.2.2.2.2.2.1
theorem SR.rz {x a : Nat} {s : Int} {h g : cx_Q} (F_ : SR x a s h g) : cq_I g (x + 35) s = 0 → cq_J h a 10 = Int64.ofInt 0 := F_.2.2.2.2.2.2.2.2.2.2.2.2.2.2.2.2.2.2.2.1
theorem SR.ow {x a : Nat} {s : Int} {h g : cx_Q} (F_ : SR x a s h g) : ∃ w, cq_A h a 12 = some w ∧ cq_s h w = 6 ∧ cq_J h w 0 = cq_J g (x + 36) s ∧ cq_J h w 1 = cq_J g (x + 37) s := F_.2.2.2.2.2.2.2.2.2.2.2.2.2.2.2.2.2.2.2.2.1
theorem SR.ot {x a : Nat} {s : Int} {h g : cx_Q} (F_ : SR x a s h g) : cq_J h a 13 = cq_J g (x + 38) s := F_.2.2.2.2.2.2.2.2.2.2.2.2.2.2.2.2.2.2.2.2.2.1
theorem SR.ho {x a : Nat} {s : Int} {h g : cx_Q} (F_ : SR x a s h g) : cq_I h a 15 = cq_I g (x + 39) s := F_.2.2.2.2.2.2.2.2.2.2.2.2.2.2.2.2.2.2.2.2.2.2.1
theorem SR.ns {x a : Nat} {s : Int} {h g : cx_Q} (F_ : SR x a s h g) : cq_I h a 16 = cq_I g (x + 40) s := F_.2.2.2.2.2.2.2.2.2.2.2.2.2.2.2.2.2.2.2.2.2.2.2.1
theorem SR.nr {x a : Nat} {s : Int} {h g : cx_Q} (F_ : SR x a s h g) : cq_I h a 17 = cq_I g (x + 41) s := F_.2.2.2.2.2.2.2.2.2.2.2.2.2.2.2.2.2.2.2.2.2.2.2.2.1
theorem SR.pn {x a : Nat} {s : Int} {h g : cx_Q} (F_ : SR x a s h g) : cq_I h a 18 = cq_I g (x + 42) s := F_.2.2.2.2.2.2.2.2.2.2.2.2.2.2.2.2.2.2.2.2.2.2.2.2.2.1
theorem SR.km {x a : Nat} {s : Int} {h g : cx_Q} (F_ : SR x a s h g) : cq_I h (a + 1) 4 = cq_I g (x + 53) s := F_.2.2.2.2.2.2.2.2.2.2.2.2.2.2.2.2.2.2.2.2.2.2.2.2.2.2.1
theorem SR.k20 {x a : Nat} {s : Int} {h g : cx_Q} (F_ : SR x a s h g) : 0 ≤ cq_I g (x + 53) s ∧ cq_I g (x + 53) s ≤ 20 := F_.2.2.2.2.2.2.2.2.2.2.2.2.2.2.2.2.2.2.2.2.2.2.2.2.2.2.2.1
theorem SR.kk {x a : Nat} {s : Int} {h g : cx_Q} (F_ : SR x a s h g) : ∀ k, 0 ≤ k → k < cq_I g (x + 53) s → cq_J h (a + 2) k = cq_J g (x + 54) (20 * s + k) ∧ cq_I h (a + 3) k = cq_I g (x + 55) (20 * s + k) ∧ cq_J h (a + 4) k = cq_J g (x + 56) (20 * s + k) := F_.2.2.2.2.2.2.2.2.2.2.2.2.2.2.2.2.2.2.2.2.2.2.2.2.2.2.2.2
/-- what of the reference is told of a SESSION -/
def inS (s : Int) (o : Nat) (j : Int) : Prop := (((31 ≤ o ∧ o ≤ 47) ∨ o = 53) ∧ j = s) ∨ ((o = 54 ∨ o = 55 ∨ o = 56) ∧ 20 * s ≤ j ∧ j < 20 * s + 20)
theorem SR.fr {x a : Nat} {s : Int} {h g h' g' : cx_Q} (F : SR x a s h g) (es : ∀ d, cq_s h d ≠ 99 → cq_s h' d = cq_s h d) (eI : cq_I h' a = cq_I h a) (eJ : cq_J h' a = cq_J h a) (eA : cq_A h' a = cq_A h a) (e1 : cq_I h' (a + 1) = cq_I h (a + 1)) (e1' : cq_A h' (a + 1) = cq_A h (a + 1)) (e2 : cq_J h' (a + 2) = cq_J h (a + 2)) (e3 : cq_I h' (a + 3) = cq_I h (a + 3)) (e4 : cq_J h' (a + 4) = cq_J h (a + 4)) (e6 : ∀ d, cq_s h d = 6 → cq_J h' d = cq_J h d) (eg : ∀ o j, inS s o j → cq_I g' (x + o) j = cq_I g (x + o) j ∧ cq_J g' (x + o) j = cq_J g (x + o) j) : SR x a s h' g' := by
  have gI : ∀ o, ((31 ≤ o ∧ o ≤ 47) ∨ o = 53) → cq_I g' (x + o) s = cq_I g (x + o) s := fun o w => (eg o s (Or.inl ⟨w, rfl⟩)).1
  have gJ : ∀ o, ((31 ≤ o ∧ o ≤ 47) ∨ o = 53) → cq_J g' (x + o) s = cq_J g (x + o) s := fun o w => (eg o s (Or.inl ⟨w, rfl⟩)).2
  have ss : ∀ {d k : Nat}, cq_s h d = k → k ≠ 99 → cq_s h' d = k := fun {d k} w w2 => (es d (by rw [w]; exact w2)).trans w
  have k20 := F.k20
  refine ⟨ss F.s0 (by decide), ss F.s1 (by decide), ss F.s2 (by decide), ss F.s3 (by decide), ss F.s4 (by decide), by rw [eA]; exact F.a19, by rw [e1']; exact F.k0, by rw [e1']; exact F.k1, by rw [e1']; exact F.k2, by rw [eI, gI 44 (by omega)]; exact F.bg, by rw [eJ, gJ 45 (by omega)]; exact F.be, by rw [eI, gI 43 (by omega)]; exact F.gw, by rw [eI, gI 43 (by omega), gI 46 (by omega), gI 47 (by omega)]; exact F.gl, by rw [eJ, gJ 31 (by omega)]; exact F.rt, by rw [eJ, gJ 32 (by omega)]; exact F.sn, by rw [eA]; exact F.s9, by rw [gI 33 (by omega)]; exact F.hs, by rw [eA, gI 35 (by omega)]; exact F.hr, by rw [eJ, gI 35 (by omega), gJ 34 (by omega)]; exact F.rc, by rw [eJ, gI 35 (by omega)]; exact F.rz, ?_, by rw [eJ, gJ 38 (by omega)]; exact F.ot, by rw [eI, gI 39 (by omega)]; exact F.ho, by rw [eI, gI 40 (by omega)]; exact F.ns, by rw [eI, gI 41 (by omega)]; exact F.nr, by rw [eI, gI 42 (by omega)]; exact F.pn, by rw [e1, gI 53 (by omega)]; exact F.km, by rw [gI 53 (by omega)]; exact F.k20, fun k k1 k2 => ?_⟩
  · obtain ⟨w, q1, q2, q3, q4⟩ := F.ow
    exact ⟨w, by rw [eA]; exact q1, ss q2 (by decide), by rw [e6 w q2, gJ 36 (by omega)]; exact q3, by rw [e6 w q2, gJ 37 (by omega)]; exact q4⟩
  · rw [gI 53 (by omega)] at k2
    rw [e2, e3, e4, (eg 54 (20 * s + k) (Or.inr ⟨Or.inl rfl, by omega, by omega⟩)).2, (eg 55 (20 * s + k) (Or.inr ⟨Or.inr (Or.inl rfl), by omega, by omega⟩)).1, (eg 56 (20 * s + k) (Or.inr ⟨Or.inr (Or.inr rfl), by omega, by omega⟩)).2]
    exact F.kk k k1 k2
/-- a SESSION, as far as a letter can be opened in it -/
def SR0 (x a : Nat) (s : Int) (h g : cx_Q) : Prop := (cq_s h a = 7) ∧ (cq_s h (a + 1) = 1) ∧ (cq_s h (a + 2) = 171) ∧ (cq_s h (a + 3) = 172) ∧ (cq_s h (a + 4) = 173) ∧ (cq_A h a 19 = some (a + 1)) ∧ (cq_A h (a + 1) 0 = some (a + 2)) ∧ (cq_A h (a + 1) 1 = some (a + 3)) ∧ (cq_A h (a + 1) 2 = some (a + 4)) ∧ (cq_I h a 0 = cq_I g (x + 44) s) ∧ (cq_J h a 2 = cq_J g (x + 45) s) ∧ (cq_J h a 6 = cq_J g (x + 31) s) ∧ (cq_A h a 11 = none ↔ cq_I g (x + 35) s = 0) ∧ (cq_I g (x + 35) s ≠ 0 → cq_J h a 10 = cq_J g (x + 34) s) ∧ (cq_J h a 13 = cq_J g (x + 38) s) ∧ (cq_I h a 15 = cq_I g (x + 39) s) ∧ (cq_I h a 16 = cq_I g (x + 40) s) ∧ (cq_I h a 17 = cq_I g (x + 41) s) ∧ (cq_I h (a + 1) 4 = cq_I g (x + 53) s) ∧ (0 ≤ cq_I g (x + 53) s ∧ cq_I g (x + 53) s ≤ 20) ∧ (∀ k, 0 ≤ k → k < cq_I g (x + 53) s → cq_J h (a + 2) k = cq_J g (x + 54) (20 * s + k) ∧ cq_I h (a + 3) k = cq_I g (x + 55) (20 * s + k) ∧ cq_J h (a + 4) k = cq_J g (x + 56) (20 * s + k))
theorem SR0.s0 {x a : Nat} {s : Int} {h g : cx_Q} (F_ : SR0 x a s h g) : cq_s h a = 7 := F_.1
theorem SR0.s1 {x a : Nat} {s : Int} {h g : cx_Q} (F_ : SR0 x a s h g) : cq_s h (a + 1) = 1 := F_.2.1
theorem SR0.s2 {x a : Nat} {s : Int} {h g : cx_Q} (F_ : SR0 x a s h g) : cq_s h (a + 2) = 171 := F_.2.2.1
theorem SR0.s3 {x a : Nat} {s : Int} {h g : cx_Q} (F_ : SR0 x a s h g) : cq_s h (a + 3) = 172 := F_.2.2.2.1
theorem SR0.s4 {x a : Nat} {s : Int} {h g : cx_Q} (F_ : SR0 x a s h g) : cq_s h (a + 4) = 173 := F_.2.2.2.2.1
theorem SR0.a19 {x a : Nat} {s : Int} {h g : cx_Q} (F_ : SR0 x a s h g) : cq_A h a 19 = some (a + 1) := F_.2.2.2.2.2.1
theorem SR0.k0 {x a : Nat} {s : Int} {h g : cx_Q} (F_ : SR0 x a s h g) : cq_A h (a + 1) 0 = some (a + 2) := F_.2.2.2.2.2.2.1
theorem SR0.k1 {x a : Nat} {s : Int} {h g : cx_Q} (F_ : SR0 x a s h g) : cq_A h (a + 1) 1 = some (a + 3) := F_.2.2.2.2.2.2.2.1
theorem SR0.k2 {x a : Nat} {s : Int} {h g : cx_Q} (F_ : SR0 x a s h g) : cq_A h (a + 1) 2 = some (a + 4) := F_.2.2.2.2.2.2.2.2.1
theorem SR0.bg {x a : Nat} {s : Int} {h g : cx_Q} (F_ : SR0 x a s h g) : cq_I h a 0 = cq_I g (x + 44) s := F_.2.2.2.2.2.2.2.2.2.1
theorem SR0.be {x a : Nat} {s : Int} {h g : cx_Q} (F_ : SR0 x a s h g) : cq_J h a 2 = cq_J g (x + 45) s := F_.2.2.2.2.2.2.2.2.2.2.1
theorem SR0.rt {x a : Nat} {s : Int} {h g : cx_Q} (F_ : SR0 x a s h g) : cq_J h a 6 = cq_J g (x + 31) s := F_.2.2.2.2.2.2.2.2.2.2.2.1
theorem SR0.hr {x a : Nat} {s : Int} {h g : cx_Q} (F_ : SR0 x a s h g) : cq_A h a 11 = none ↔ cq_I g (x + 35) s = 0 := F_.2.2.2.2.2.2.2.2.2.2.2.2.1
theorem SR0.rc {x a : Nat} {s : Int} {h g : cx_Q} (F_ : SR0 x a s h g) : cq_I g (x + 35) s ≠ 0 → cq_J h a 10 = cq_J g (x + 34) s := F_.2.2.2.2.2.2.2.2.2.2.2.2.2.1
theorem SR0.ot {x a : Nat} {s : Int} {h g : cx_Q} (F_ : SR0 x a s h g) : cq_J h a 13 = cq_J g (x + 38) s := F_.2.2.2.2.2.2.2.2.2.2.2.2.2.2.1
theorem SR0.ho {x a : Nat} {s : Int} {h g : cx_Q} (F_ : SR0 x a s h g) : cq_I h a 15 = cq_I g (x + 39) s := F_.2.2.2.2.2.2.2.2.2.2.2.2.2.2.2.1
theorem SR0.ns {x a : Nat} {s : Int} {h g : cx_Q} (F_ : SR0 x a s h g) : cq_I h a 16 = cq_I g (x + 40) s := F_.2.2.2.2.2.2.2.2.2.2.2.2.2.2.2.2.1
theorem SR0.nr {x a : Nat} {s : Int} {h g : cx_Q} (F_ : SR0 x a s h g) : cq_I h a 17 = cq_I g (x + 41) s := F_.2.2.2.2.2.2.2.2.2.2.2.2.2.2.2.2.2.1
theorem SR0.km {x a : Nat} {s : Int} {h g : cx_Q} (F_ : SR0 x a s h g) : cq_I h (a + 1) 4 = cq_I g (x + 53) s := F_.2.2.2.2.2.2.2.2.2.2.2.2.2.2.2.2.2.2.1
theorem SR0.k20 {x a : Nat} {s : Int} {h g : cx_Q} (F_ : SR0 x a s h g) : 0 ≤ cq_I g (x + 53) s ∧ cq_I g (x + 53) s ≤ 20 := F_.2.2.2.2.2.2.2.2.2.2.2.2.2.2.2.2.2.2.2.1
theorem SR0.kk {x a : Nat} {s : Int} {h g : cx_Q} (F_ : SR0 x a s h g) : ∀ k, 0 ≤ k → k < cq_I g (x + 53) s → cq_J h (a + 2) k = cq_J g (x + 54) (20 * s + k) ∧ cq_I h (a + 3) k = cq_I g (x + 55) (20 * s + k) ∧ cq_J h (a + 4) k = cq_J g (x + 56) (20 * s + k) := F_.2.2.2.2.2.2.2.2.2.2.2.2.2.2.2.2.2.2.2.2
theorem SR.z {x a : Nat} {s : Int} {h g : cx_Q} (F : SR x a s h g) : SR0 x a s h g := ⟨F.s0, F.s1, F.s2, F.s3, F.s4, F.a19, F.k0, F.k1, F.k2, F.bg, F.be, F.rt, F.hr, F.rc, F.ot, F.ho, F.ns, F.nr, F.km, F.k20, F.kk⟩
theorem SR0.fr {x a : Nat} {s : Int} {h g h' : cx_Q} (F : SR0 x a s h g) (es : ∀ d, cq_s h d ≠ 99 → cq_s h' d = cq_s h d) (eI : cq_I h' a = cq_I h a) (eJ : cq_J h' a = cq_J h a) (eA : ∀ j, j ≠ 7 → cq_A h' a j = cq_A h a j) (e1 : cq_I h' (a + 1) = cq_I h (a + 1)) (e1' : cq_A h' (a + 1) = cq_A h (a + 1)) (e2 : cq_J h' (a + 2) = cq_J h (a + 2)) (e3 : cq_I h' (a + 3) = cq_I h (a + 3)) (e4 : cq_J h' (a + 4) = cq_J h (a + 4)) : SR0 x a s h' g := by
  have ss : ∀ {d k : Nat}, cq_s h d = k → k ≠ 99 → cq_s h' d = k := fun {d k} w w2 => (es d (by rw [w]; exact w2)).trans w
  exact ⟨ss F.s0 (by decide), ss F.s1 (by decide), ss F.s2 (by decide), ss F.s3 (by decide), ss F.s4 (by decide), by rw [eA 19 (by decide)]; exact F.a19, by rw [e1']; exact F.k0, by rw [e1']; exact F.k1, by rw [e1']; exact F.k2, by rw [eI]; exact F.bg, by rw [eJ]; exact F.be, by rw [eJ]; exact F.rt, by rw [eA 11 (by decide)]; exact F.hr, by rw [eJ]; exact F.rc, by rw [eJ]; exact F.ot, by rw [eI]; exact F.ho, by rw [eI]; exact F.ns, by rw [eI]; exact F.nr, by rw [e1]; exact F.km, F.k20, by rw [e2, e3, e4]; exact F.kk⟩
/-- a letter -/
def FL (x a : Nat) (l : Int) (h g : cx_Q) : Prop := (cq_s h a = 2) ∧ (cq_s h (a + 1) = 100) ∧ (cq_A h a 0 = some (a + 1)) ∧ (cq_z h (a + 1) = cq_I g (x + 63) l) ∧ (0 ≤ cq_I g (x + 63) l ∧ cq_I g (x + 63) l ≤ 100) ∧ (∀ k, 0 ≤ k → k < cq_I g (x + 63) l → cq_I h (a + 1) k = cq_I g (x + 62) (100 * l + k))
theorem FL.s0 {x a : Nat} {l : Int} {h g : cx_Q} (F_ : FL x a l h g) : cq_s h a = 2 := F_.1
theorem FL.s1 {x a : Nat} {l : Int} {h g : cx_Q} (F_ : FL x a l h g) : cq_s h (a + 1) = 100 := F_.2.1
theorem FL.b0 {x a : Nat} {l : Int} {h g : cx_Q} (F_ : FL x a l h g) : cq_A h a 0 = some (a + 1) := F_.2.2.1
theorem FL.sz {x a : Nat} {l : Int} {h g : cx_Q} (F_ : FL x a l h g) : cq_z h (a + 1) = cq_I g (x + 63) l := F_.2.2.2.1
theorem FL.zr {x a : Nat} {l : Int} {h g : cx_Q} (F_ : FL x a l h g) : 0 ≤ cq_I g (x + 63) l ∧ cq_I g (x + 63) l ≤ 100 := F_.2.2.2.2.1
theorem FL.by_ {x a : Nat} {l : Int} {h g : cx_Q} (F_ : FL x a l h g) : ∀ k, 0 ≤ k → k < cq_I g (x + 63) l → cq_I h (a + 1) k = cq_I g (x + 62) (100 * l + k) := F_.2.2.2.2.2
theorem FL.fr {x a : Nat} {l : Int} {h g h' g' : cx_Q} (F : FL x a l h g) (es : ∀ d, cq_s h d ≠ 99 → cq_s h' d = cq_s h d ∧ cq_z h' d = cq_z h d) (eA : cq_A h' a = cq_A h a) (e1 : cq_I h' (a + 1) = cq_I h (a + 1)) (eg : cq_I g' (x + 63) l = cq_I g (x + 63) l) (eb : ∀ k, 0 ≤ k → k < 100 → cq_I g' (x + 62) (100 * l + k) = cq_I g (x + 62) (100 * l + k)) : FL x a l h' g' := by
  have zr := F.zr
  refine ⟨(es a (by rw [F.s0]; decide)).1.trans F.s0, (es (a + 1) (by rw [F.s1]; decide)).1.trans F.s1, by rw [eA]; exact F.b0, by rw [(es (a + 1) (by rw [F.s1]; decide)).2, eg]; exact F.sz, by rw [eg]; exact F.zr, fun k k1 k2 => ?_⟩
  rw [eg] at k2
  rw [e1, eb k k1 (by omega)]
  exact F.by_ k k1 k2
/-- the object itself, its tape and what was read; tp, rd the rows of both -/
def FS (x c tp rd : Nat) (h g : cx_Q) : Prop := (cq_s h c = 9) ∧ (cq_s h tp = 103) ∧ (cq_s h rd = 104) ∧ (cq_A h c 8 = some tp) ∧ (cq_A h c 10 = some rd) ∧ (cq_I h c 2 = cq_I g x 72) ∧ (cq_I h c 3 = cq_I g x 73) ∧ (cq_I h c 4 = cq_I g x 63) ∧ (cq_I h c 5 = cq_I g x 85) ∧ (cq_I h c 6 = cq_I g x 84) ∧ (cq_I h c 7 = cq_I g x 86) ∧ (cq_I h c 9 = cq_I g x 68) ∧ (cq_I h c 11 = cq_I g x 75) ∧ (∀ k, 0 ≤ k → k < cq_I g x 68 → cq_I h tp k = cq_I g (x + 61) k) ∧ (∀ k, 0 ≤ k → k < cq_I g x 75 → cq_I h rd k = cq_I g (x + 65) k) ∧ (∀ k, 0 ≤ k → k < cq_I g x 68 → 0 ≤ cq_I g (x + 61) k ∧ cq_I g (x + 61) k ≤ 255)
theorem FS.s0 {x c tp rd : Nat} {h g : cx_Q} (F_ : FS x c tp rd h g) : cq_s h c = 9 := F_.1
theorem FS.s1 {x c tp rd : Nat} {h g : cx_Q} (F_ : FS x c tp rd h g) : cq_s h tp = 103 := F_.2.1
theorem FS.s2 {x c tp rd : Nat} {h g : cx_Q} (F_ : FS x c tp rd h g) : cq_s h rd = 104 := F_.2.2.1
theorem FS.a8 {x c tp rd : Nat} {h g : cx_Q} (F_ : FS x c tp rd h g) : cq_A h c 8 = some tp := F_.2.2.2.1
theorem FS.a10 {x c tp rd : Nat} {h g : cx_Q} (F_ : FS x c tp rd h g) : cq_A h c 10 = some rd := F_.2.2.2.2.1
theorem FS.lc {x c tp rd : Nat} {h g : cx_Q} (F_ : FS x c tp rd h g) : cq_I h c 2 = cq_I g x 72 := F_.2.2.2.2.2.1
theorem FS.cc {x c tp rd : Nat} {h g : cx_Q} (F_ : FS x c tp rd h g) : cq_I h c 3 = cq_I g x 73 := F_.2.2.2.2.2.2.1
theorem FS.bc {x c tp rd : Nat} {h g : cx_Q} (F_ : FS x c tp rd h g) : cq_I h c 4 = cq_I g x 63 := F_.2.2.2.2.2.2.2.1
theorem FS.mc {x c tp rd : Nat} {h g : cx_Q} (F_ : FS x c tp rd h g) : cq_I h c 5 = cq_I g x 85 := F_.2.2.2.2.2.2.2.2.1
theorem FS.oc {x c tp rd : Nat} {h g : cx_Q} (F_ : FS x c tp rd h g) : cq_I h c 6 = cq_I g x 84 := F_.2.2.2.2.2.2.2.2.2.1
theorem FS.kc {x c tp rd : Nat} {h g : cx_Q} (F_ : FS x c tp rd h g) : cq_I h c 7 = cq_I g x 86 := F_.2.2.2.2.2.2.2.2.2.2.1
theorem FS.tc {x c tp rd : Nat} {h g : cx_Q} (F_ : FS x c tp rd h g) : cq_I h c 9 = cq_I g x 68 := F_.2.2.2.2.2.2.2.2.2.2.2.1
theorem FS.rc {x c tp rd : Nat} {h g : cx_Q} (F_ : FS x c tp rd h g) : cq_I h c 11 = cq_I g x 75 := F_.2.2.2.2.2.2.2.2.2.2.2.2.1
theorem FS.tp_ {x c tp rd : Nat} {h g : cx_Q} (F_ : FS x c tp rd h g) : ∀ k, 0 ≤ k → k < cq_I g x 68 → cq_I h tp k = cq_I g (x + 61) k := F_.2.2.2.2.2.2.2.2.2.2.2.2.2.1
theorem FS.rd_ {x c tp rd : Nat} {h g : cx_Q} (F_ : FS x c tp rd h g) : ∀ k, 0 ≤ k → k < cq_I g x 75 → cq_I h rd k = cq_I g (x + 65) k := F_.2.2.2.2.2.2.2.2.2.2.2.2.2.2.1
theorem FS.tb {x c tp rd : Nat} {h g : cx_Q} (F_ : FS x c tp rd h g) : ∀ k, 0 ≤ k → k < cq_I g x 68 → 0 ≤ cq_I g (x + 61) k ∧ cq_I g (x + 61) k ≤ 255 := F_.2.2.2.2.2.2.2.2.2.2.2.2.2.2.2
/-- a row of SESSIONS: r its cell, w its number, T where a slot's SESSION stands -/
def FO (x r : Nat) (w : Int) (T : Int → Nat) (h g : cx_Q) : Prop := (cq_s h r = 5) ∧ (cq_s h (r + 1) = 182) ∧ (cq_I h r 1 = cq_I g (x + 30) w) ∧ (0 ≤ cq_I g (x + 30) w ∧ cq_I g (x + 30) w ≤ 4) ∧ (∀ i, 0 ≤ i → i < cq_I g (x + 30) w → cq_A h (r + 1) i = some (T (cq_I g (x + 29) (4 * w + i)))) ∧ (∀ i, 0 ≤ i → i < cq_I g (x + 30) w → 4 * w ≤ cq_I g (x + 29) (4 * w + i) ∧ cq_I g (x + 29) (4 * w + i) < 4 * w + 4) ∧ (∀ i j, 0 ≤ i → i < j → j < cq_I g (x + 30) w → cq_I g (x + 29) (4 * w + i) ≠ cq_I g (x + 29) (4 * w + j)) ∧ (∀ i, 0 ≤ i → i < cq_I g (x + 30) w → SR x (T (cq_I g (x + 29) (4 * w + i))) (cq_I g (x + 29) (4 * w + i)) h g)
theorem FO.s0 {x r : Nat} {w : Int} {T : Int → Nat} {h g : cx_Q} (F_ : FO x r w T h g) : cq_s h r = 5 := F_.1
theorem FO.s1 {x r : Nat} {w : Int} {T : Int → Nat} {h g : cx_Q} (F_ : FO x r w T h g) : cq_s h (r + 1) = 182 := F_.2.1
theorem FO.rm {x r : Nat} {w : Int} {T : Int → Nat} {h g : cx_Q} (F_ : FO x r w T h g) : cq_I h r 1 = cq_I g (x + 30) w := F_.2.2.1
theorem FO.r4 {x r : Nat} {w : Int} {T : Int → Nat} {h g : cx_Q} (F_ : FO x r w T h g) : 0 ≤ cq_I g (x + 30) w ∧ cq_I g (x + 30) w ≤ 4 := F_.2.2.2.1
theorem FO.at_ {x r : Nat} {w : Int} {T : Int → Nat} {h g : cx_Q} (F_ : FO x r w T h g) : ∀ i, 0 ≤ i → i < cq_I g (x + 30) w → cq_A h (r + 1) i = some (T (cq_I g (x + 29) (4 * w + i))) := F_.2.2.2.2.1
theorem FO.sl {x r : Nat} {w : Int} {T : Int → Nat} {h g : cx_Q} (F_ : FO x r w T h g) : ∀ i, 0 ≤ i → i < cq_I g (x + 30) w → 4 * w ≤ cq_I g (x + 29) (4 * w + i) ∧ cq_I g (x + 29) (4 * w + i) < 4 * w + 4 := F_.2.2.2.2.2.1
theorem FO.di {x r : Nat} {w : Int} {T : Int → Nat} {h g : cx_Q} (F_ : FO x r w T h g) : ∀ i j, 0 ≤ i → i < j → j < cq_I g (x + 30) w → cq_I g (x + 29) (4 * w + i) ≠ cq_I g (x + 29) (4 * w + j) := F_.2.2.2.2.2.2.1
theorem FO.ss {x r : Nat} {w : Int} {T : Int → Nat} {h g : cx_Q} (F_ : FO x r w T h g) : ∀ i, 0 ≤ i → i < cq_I g (x + 30) w → SR x (T (cq_I g (x + 29) (4 * w + i))) (cq_I g (x + 29) (4 * w + i)) h g := F_.2.2.2.2.2.2.2
/-- a slot that is taken -/
def lvS (x : Nat) (g : cx_Q) (w s : Int) : Prop := ∃ i, 0 ≤ i ∧ i < cq_I g (x + 30) w ∧ cq_I g (x + 29) (4 * w + i) = s
