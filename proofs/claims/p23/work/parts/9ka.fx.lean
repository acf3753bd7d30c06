/-! class and reference, by value: all of it -/
/-- where the class's cells stand: pe users, ro rows, and the rest -/
def FX (c x : Nat) (n : Int) (pe : Int → Nat) (ro : Int → Int → Nat) (pa lb tp rd en op ob : Nat) (T : Int → Nat) (Lf : Int → Nat) (h g : cx_Q) : Prop := (FS x c tp rd h g) ∧ (2 ≤ n ∧ n ≤ 6) ∧ (cq_I g x 0 = n) ∧ (cq_A h c 0 = some pa) ∧ (cq_s h pa = 105) ∧ (cq_A h c 1 = some lb) ∧ (cq_s h lb = 102) ∧ (cq_A h c 12 = some en) ∧ (cq_s h en = 0) ∧ (cq_A h c 13 = some op) ∧ (cq_s h op = 3) ∧ (cq_A h op 0 = some ob) ∧ (cq_s h ob = 175) ∧ (∀ u, 0 ≤ u → u < n → cq_A h pa u = some (pe u)) ∧ (∀ u, 0 ≤ u → u < n → cq_A h (pe u) 13 = some (pe u + 6) ∧ cq_s h (pe u + 6) = 181) ∧ (∀ u v, 0 ≤ u → u < n → 0 ≤ v → v < n → cq_A h (pe u + 6) v = some (ro u v)) ∧ (∀ u, 0 ≤ u → u < n → FU x (pe u) u h g) ∧ (∀ u v, 0 ≤ u → u < n → 0 ≤ v → v < n → FO x (ro u v) (6 * u + v) T h g) ∧ (0 ≤ cq_I g x 72 ∧ cq_I g x 72 ≤ 80) ∧ (∀ l, 0 ≤ l → l < cq_I g x 72 → cq_A h lb l = some (Lf l) ∧ FL x (Lf l) l h g) ∧ (∀ l m, 0 ≤ l → l < m → m < cq_I g x 72 → Lf l ≠ Lf m) ∧ (∀ u w, 0 ≤ u → u < n → 0 ≤ w → w < n → u ≠ w → pe u ≠ pe w) ∧ (∀ u v u' v', 0 ≤ u → u < n → 0 ≤ v → v < n → 0 ≤ u' → u' < n → 0 ≤ v' → v' < n → ¬ (u = u' ∧ v = v') → ro u v ≠ ro u' v') ∧ (∀ u v u' v' i j, 0 ≤ u → u < n → 0 ≤ v → v < n → 0 ≤ u' → u' < n → 0 ≤ v' → v' < n → 0 ≤ i → i < cq_I g (x + 30) (6 * u + v) → 0 ≤ j → j < cq_I g (x + 30) (6 * u' + v') → ¬ (u = u' ∧ v = v' ∧ i = j) → T (cq_I g (x + 29) (4 * (6 * u + v) + i)) ≠ T (cq_I g (x + 29) (4 * (6 * u' + v') + j)))
theorem FX.fs {c x : Nat} {n : Int} {pe : Int → Nat} {ro : Int → Int → Nat} {pa lb tp rd en op ob : Nat} {T : Int → Nat} {Lf : Int → Nat} {h g : cx_Q} (F_ : FX c x n pe ro pa lb tp rd en op ob T Lf h g) : FS x c tp rd h g := F_.1
theorem FX.n26 {c x : Nat} {n : Int} {pe : Int → Nat} {ro : Int → Int → Nat} {pa lb tp rd en op ob : Nat} {T : Int → Nat} {Lf : Int → Nat} {h g : cx_Q} (F_ : FX c x n pe ro pa lb tp rd en op ob T Lf h g) : 2 ≤ n ∧ n ≤ 6 := F_.2.1
theorem FX.nn {c x : Nat} {n : Int} {pe : Int → Nat} {ro : Int → Int → Nat} {pa lb tp rd en op ob : Nat} {T : Int → Nat} {Lf : Int → Nat} {h g : cx_Q} (F_ : FX c x n pe ro pa lb tp rd en op ob T Lf h g) : cq_I g x 0 = n := F_.2.2.1
theorem FX.a0 {c x : Nat} {n : Int} {pe : Int → Nat} {ro : Int → Int → Nat} {pa lb tp rd en op ob : Nat} {T : Int → Nat} {Lf : Int → Nat} {h g : cx_Q} (F_ : FX c x n pe ro pa lb tp rd en op ob T Lf h g) : cq_A h c 0 = some pa := F_.2.2.2.1
theorem FX.s0 {c x : Nat} {n : Int} {pe : Int → Nat} {ro : Int → Int → Nat} {pa lb tp rd en op ob : Nat} {T : Int → Nat} {Lf : Int → Nat} {h g : cx_Q} (F_ : FX c x n pe ro pa lb tp rd en op ob T Lf h g) : cq_s h pa = 105 := F_.2.2.2.2.1
theorem FX.a1 {c x : Nat} {n : Int} {pe : Int → Nat} {ro : Int → Int → Nat} {pa lb tp rd en op ob : Nat} {T : Int → Nat} {Lf : Int → Nat} {h g : cx_Q} (F_ : FX c x n pe ro pa lb tp rd en op ob T Lf h g) : cq_A h c 1 = some lb := F_.2.2.2.2.2.1
theorem FX.s1 {c x : Nat} {n : Int} {pe : Int → Nat} {ro : Int → Int → Nat} {pa lb tp rd en op ob : Nat} {T : Int → Nat} {Lf : Int → Nat} {h g : cx_Q} (F_ : FX c x n pe ro pa lb tp rd en op ob T Lf h g) : cq_s h lb = 102 := F_.2.2.2.2.2.2.1
theorem FX.a12 {c x : Nat} {n : Int} {pe : Int → Nat} {ro : Int → Int → Nat} {pa lb tp rd en op ob : Nat} {T : Int → Nat} {Lf : Int → Nat} {h g : cx_Q} (F_ : FX c x n pe ro pa lb tp rd en op ob T Lf h g) : cq_A h c 12 = some en := F_.2.2.2.2.2.2.2.1
theorem FX.s12 {c x : Nat} {n : Int} {pe : Int → Nat} {ro : Int → Int → Nat} {pa lb tp rd en op ob : Nat} {T : Int → Nat} {Lf : Int → Nat} {h g : cx_Q} (F_ : FX c x n pe ro pa lb tp rd en op ob T Lf h g) : cq_s h en = 0 := F_.2.2.2.2.2.2.2.2.1
theorem FX.a13 {c x : Nat} {n : Int} {pe : Int → Nat} {ro : Int → Int → Nat} {pa lb tp rd en op ob : Nat} {T : Int → Nat} {Lf : Int → Nat} {h g : cx_Q} (F_ : FX c x n pe ro pa lb tp rd en op ob T Lf h g) : cq_A h c 13 = some op := F_.2.2.2.2.2.2.2.2.2.1
theorem FX.s13 {c x : Nat} {n : Int} {pe : Int → Nat} {ro : Int → Int → Nat} {pa lb tp rd en op ob : Nat} {T : Int → Nat} {Lf : Int → Nat} {h g : cx_Q} (F_ : FX c x n pe ro pa lb tp rd en op ob T Lf h g) : cq_s h op = 3 := F_.2.2.2.2.2.2.2.2.2.2.1
theorem FX.aob {c x : Nat} {n : Int} {pe : Int → Nat} {ro : Int → Int → Nat} {pa lb tp rd en op ob : Nat} {T : Int → Nat} {Lf : Int → Nat} {h g : cx_Q} (F_ : FX c x n pe ro pa lb tp rd en op ob T Lf h g) : cq_A h op 0 = some ob := F_.2.2.2.2.2.2.2.2.2.2.2.1
theorem FX.sob {c x : Nat} {n : Int} {pe : Int → Nat} {ro : Int → Int → Nat} {pa lb tp rd en op ob : Nat} {T : Int → Nat} {Lf : Int → Nat} {h g : cx_Q} (F_ : FX c x n pe ro pa lb tp rd en op ob T Lf h g) : cq_s h ob = 175 := F_.2.2.2.2.2.2.2.2.2.2.2.2.1
theorem FX.pa_ {c x : Nat} {n : Int} {pe : Int → Nat} {ro : Int → Int → Nat} {pa lb tp rd en op ob : Nat} {T : Int → Nat} {Lf : Int → Nat} {h g : cx_Q} (F_ : FX c x n pe ro pa lb tp rd en op ob T Lf h g) : ∀ u, 0 ≤ u → u < n → cq_A h pa u = some (pe u) := F_.2.2.2.2.2.2.2.2.2.2.2.2.2.1
theorem FX.r13 {c x : Nat} {n : Int} {pe : Int → Nat} {ro : Int → Int → Nat} {pa lb tp rd en op ob : Nat} {T : Int → Nat} {Lf : Int → Nat} {h g : cx_Q} (F_ : FX c x n pe ro pa lb tp rd en op ob T Lf h g) : ∀ u, 0 ≤ u → u < n → cq_A h (pe u) 13 = some (pe u + 6) ∧ cq_s h (pe u + 6) = 181 := F_.2.2.2.2.2.2.2.2.2.2.2.2.2.2.1
theorem FX.ra {c x : Nat} {n : Int} {pe : Int → Nat} {ro : Int → Int → Nat} {pa lb tp rd en op ob : Nat} {T : Int → Nat} {Lf : Int → Nat} {h g : cx_Q} (F_ : FX c x n pe ro pa lb tp rd en op ob T Lf h g) : ∀ u v, 0 ≤ u → u < n → 0 ≤ v → v < n → cq_A h (pe u + 6) v = some (ro u v) := F_.2.2.2.2.2.2.2.2.2.2.2.2.2.2.2.1
theorem FX.fu {c x : Nat} {n : Int} {pe : Int → Nat} {ro : Int → Int → Nat} {pa lb tp rd en op ob : Nat} {T : Int → Nat} {Lf : Int → Nat} {h g : cx_Q} (F_ : FX c x n pe ro pa lb tp rd en op ob T Lf h g) : ∀ u, 0 ≤ u → u < n → FU x (pe u) u h g := F_.2.2.2.2.2.2.2.2.2.2.2.2.2.2.2.2.1
theorem FX.fo {c x : Nat} {n : Int} {pe : Int → Nat} {ro : Int → Int → Nat} {pa lb tp rd en op ob : Nat} {T : Int → Nat} {Lf : Int → Nat} {h g : cx_Q} (F_ : FX c x n pe ro pa lb tp rd en op ob T Lf h g) : ∀ u v, 0 ≤ u → u < n → 0 ≤ v → v < n → FO x (ro u v) (6 * u + v) T h g := F_.2.2.2.2.2.2.2.2.2.2.2.2.2.2.2.2.2.1
theorem FX.l80 {c x : Nat} {n : Int} {pe : Int → Nat} {ro : Int → Int → Nat} {pa lb tp rd en op ob : Nat} {T : Int → Nat} {Lf : Int → Nat} {h g : cx_Q} (F_ : FX c x n pe ro pa lb tp rd en op ob T Lf h g) : 0 ≤ cq_I g x 72 ∧ cq_I g x 72 ≤ 80 := F_.2.2.2.2.2.2.2.2.2.2.2.2.2.2.2.2.2.2.1
theorem FX.fl {c x : Nat} {n : Int} {pe : Int → Nat} {ro : Int → Int → Nat} {pa lb tp rd en op ob : Nat} {T : Int → Nat} {Lf : Int → Nat} {h g : cx_Q} (F_ : FX c x n pe ro pa lb tp rd en op ob T Lf h g) : ∀ l, 0 ≤ l → l < cq_I g x 72 → cq_A h lb l = some (Lf l) ∧ FL x (Lf l) l h g := F_.2.2.2.2.2.2.2.2.2.2.2.2.2.2.2.2.2.2.2.1
theorem FX.li {c x : Nat} {n : Int} {pe : Int → Nat} {ro : Int → Int → Nat} {pa lb tp rd en op ob : Nat} {T : Int → Nat} {Lf : Int → Nat} {h g : cx_Q} (F_ : FX c x n pe ro pa lb tp rd en op ob T Lf h g) : ∀ l m, 0 ≤ l → l < m → m < cq_I g x 72 → Lf l ≠ Lf m := F_.2.2.2.2.2.2.2.2.2.2.2.2.2.2.2.2.2.2.2.2.1
theorem FX.pi {c x : Nat} {n : Int} {pe : Int → Nat} {ro : Int → Int → Nat} {pa lb tp rd en op ob : Nat} {T : Int → Nat} {Lf : Int → Nat} {h g : cx_Q} (F_ : FX c x n pe ro pa lb tp rd en op ob T Lf h g) : ∀ u w, 0 ≤ u → u < n → 0 ≤ w → w < n → u ≠ w → pe u ≠ pe w := F_.2.2.2.2.2.2.2.2.2.2.2.2.2.2.2.2.2.2.2.2.2.1
theorem FX.ri {c x : Nat} {n : Int} {pe : Int → Nat} {ro : Int → Int → Nat} {pa lb tp rd en op ob : Nat} {T : Int → Nat} {Lf : Int → Nat} {h g : cx_Q} (F_ : FX c x n pe ro pa lb tp rd en op ob T Lf h g) : ∀ u v u' v', 0 ≤ u → u < n → 0 ≤ v → v < n → 0 ≤ u' → u' < n → 0 ≤ v' → v' < n → ¬ (u = u' ∧ v = v') → ro u v ≠ ro u' v' := F_.2.2.2.2.2.2.2.2.2.2.2.2.2.2.2.2.2.2.2.2.2.2.1
theorem FX.ti {c x : Nat} {n : Int} {pe : Int → Nat} {ro : Int → Int → Nat} {pa lb tp rd en op ob : Nat} {T : Int → Nat} {Lf : Int → Nat} {h g : cx_Q} (F_ : FX c x n pe ro pa lb tp rd en op ob T Lf h g) : ∀ u v u' v' i j, 0 ≤ u → u < n → 0 ≤ v → v < n → 0 ≤ u' → u' < n → 0 ≤ v' → v' < n → 0 ≤ i → i < cq_I g (x + 30) (6 * u + v) → 0 ≤ j → j < cq_I g (x + 30) (6 * u' + v') → ¬ (u = u' ∧ v = v' ∧ i = j) → T (cq_I g (x + 29) (4 * (6 * u + v) + i)) ≠ T (cq_I g (x + 29) (4 * (6 * u' + v') + j)) := F_.2.2.2.2.2.2.2.2.2.2.2.2.2.2.2.2.2.2.2.2.2.2.2
/-- all cells but those of P tell what they told -/
def evx (P : Nat → Prop) (h h' : cx_Q) : Prop := (∀ a, cq_s h a ≠ 99 → cq_s h' a = cq_s h a ∧ cq_z h' a = cq_z h a) ∧ (∀ a, cq_s h a = 6 → cq_J h' a = cq_J h a) ∧ ∀ a, cq_s h a ≠ 99 → ¬ P a → cq_J h' a = cq_J h a ∧ (okI (cq_s h a) = true → cq_I h' a = cq_I h a) ∧ (okA (cq_s h a) = true → cq_A h' a = cq_A h a)
section
variable {P Q : Nat → Prop} {h h' h1 : cx_Q} {a k0 : Nat}
theorem evx.s (e : evx P h h') (hs : cq_s h a = k0) (hn : k0 ≠ 99) : cq_s h' a = k0 := (e.1 a (by rw [hs]; exact hn)).1.trans hs
theorem evx.I (e : evx P h h') (hs : cq_s h a = k0) (hn : okI k0 = true) (hP : ¬ P a) : cq_I h' a = cq_I h a := (e.2.2 a (by rw [hs]; exact okI_9 hn) hP).2.1 (by rw [hs]; exact hn)
theorem evx.J (e : evx P h h') (hs : cq_s h a = k0) (hn : k0 ≠ 99) (hP : ¬ P a) : cq_J h' a = cq_J h a := (e.2.2 a (by rw [hs]; exact hn) hP).1
theorem evx.A (e : evx P h h') (hs : cq_s h a = k0) (hn : okA k0 = true) (hP : ¬ P a) : cq_A h' a = cq_A h a := (e.2.2 a (by rw [hs]; exact okA_9 hn) hP).2.2 (by rw [hs]; exact hn)
theorem ev.x (e : ev h h') : evx P h h' := ⟨fun a w => ⟨(e.2.1 a w).1, (e.2.1 a w).2.1⟩, fun a w => e.J w (by decide), fun a w _ => ⟨(e.2.1 a w).2.2, fun q => e.2.2.1 a q, fun q => e.2.2.2 a q⟩⟩
theorem evx.trans (e : evx P h h1) (f : evx P h1 h') : evx P h h' := by
  refine ⟨fun a w => ?_, fun a w => ?_, fun a w hP => ?_⟩
  · have e1 := e.1 a w
    have f1 := f.1 a (by rw [e1.1]; exact w)
    exact ⟨f1.1.trans e1.1, f1.2.trans e1.2⟩
  · rw [f.2.1 a ((e.1 a (by rw [w]; decide)).1.trans w), e.2.1 a w]
  · have e1 := (e.1 a w).1
    have e2 := e.2.2 a w hP
    have f2 := f.2.2 a (by rw [e1]; exact w) hP
    exact ⟨f2.1.trans e2.1, fun q => (f2.2.1 (by rw [e1]; exact q)).trans (e2.2.1 q), fun q => (f2.2.2 (by rw [e1]; exact q)).trans (e2.2.2 q)⟩
theorem evx.mono (e : evx P h h') (w : ∀ a, P a → Q a) : evx Q h h' := ⟨e.1, e.2.1, fun a q hQ => e.2.2 a q (fun p => hQ (w a p))⟩
theorem evx.refl : evx P h h := ev.refl.x
theorem evx.sI (e : evx P h h') {j v : Int} (hP : P a) : evx P h (cq_sI h' a j v) := ⟨e.1, e.2.1, fun b w q => ⟨(e.2.2 b w q).1, fun z => by
  rw [← (e.2.2 b w q).2.1 z]
  funext r
  rw [mm_sI, if_neg (fun x => q (by rw [x.1]; exact hP))], (e.2.2 b w q).2.2⟩⟩
theorem evx.sJ (e : evx P h h') {j : Int} {v : Int64} (hP : P a) (h6 : cq_s h a ≠ 6) : evx P h (cq_sJ h' a j v) := ⟨e.1, fun b w => by
  rw [← e.2.1 b w]
  funext r
  rw [mm_sJ, if_neg (fun x => h6 (by rw [← x.1]; exact w))], fun b w q => ⟨by
  rw [← (e.2.2 b w q).1]
  funext r
  rw [mm_sJ, if_neg (fun x => q (by rw [x.1]; exact hP))], (e.2.2 b w q).2⟩⟩
theorem evx.sA (e : evx P h h') {j : Int} {v : Option Nat} (hP : P a) : evx P h (cq_sA h' a j v) := ⟨e.1, e.2.1, fun b w q => ⟨(e.2.2 b w q).1, (e.2.2 b w q).2.1, fun z => by
  rw [← (e.2.2 b w q).2.2 z]
  funext r
  rw [mm_sA, if_neg (fun x => q (by rw [x.1]; exact hP))]⟩⟩
theorem evx.rI (e : evx P h h') {f : Int → Int} (hP : P a) : evx P h (cq_rI h' a f) := ⟨e.1, e.2.1, fun b w q => ⟨(e.2.2 b w q).1, fun z => by
  rw [← (e.2.2 b w q).2.1 z, rr_I, if_neg (fun x => q (by rw [x]; exact hP))], (e.2.2 b w q).2.2⟩⟩
theorem evx.rJ (e : evx P h h') {f : Int → Int64} (hP : P a) (h6 : cq_s h a ≠ 6) : evx P h (cq_rJ h' a f) := ⟨e.1, fun b w => by
  rw [← e.2.1 b w, rr_J, if_neg (fun x => h6 (by rw [← x]; exact w))], fun b w q => ⟨by
  rw [← (e.2.2 b w q).1, rr_J, if_neg (fun x => q (by rw [x]; exact hP))], (e.2.2 b w q).2⟩⟩
theorem evx.rA (e : evx P h h') {f : Int → Option Nat} (hP : P a) : evx P h (cq_rA h' a f) := ⟨e.1, e.2.1, fun b w q => ⟨(e.2.2 b w q).1, (e.2.2 b w q).2.1, fun z => by
  rw [← (e.2.2 b w q).2.2 z, rr_A, if_neg (fun x => q (by rw [x]; exact hP))]⟩⟩
theorem FU.ex {x p : Nat} {u : Int} {g g' : cx_Q} (F : FU x p u h g) (e : evx P h h') (p0 : ¬ P p) (p1 : ¬ P (p + 1)) (p2 : ¬ P (p + 2)) (p3 : ¬ P (p + 3)) (p4 : ¬ P (p + 4)) (p5 : ¬ P (p + 5)) (eg : ∀ o j, inU u o j → cq_I g' (x + o) j = cq_I g (x + o) j ∧ cq_J g' (x + o) j = cq_J g (x + o) j) : FU x p u h' g' := F.fr (fun d w => (e.1 d w).1) (e.I F.s0 rfl p0) (e.J F.s0 (by decide) p0) (e.A F.s0 rfl p0) (e.A F.s1 rfl p1) (e.A F.s2 rfl p2) (e.I F.s3 rfl p3) (e.J F.s4 (by decide) p4) (e.I F.s5 rfl p5) e.2.1 eg
theorem SR.ex {x p : Nat} {s : Int} {g g' : cx_Q} (F : SR x p s h g) (e : evx P h h') (p0 : ¬ P p) (p1 : ¬ P (p + 1)) (p2 : ¬ P (p + 2)) (p3 : ¬ P (p + 3)) (p4 : ¬ P (p + 4)) (eg : ∀ o j, inS s o j → cq_I g' (x + o) j = cq_I g (x + o) j ∧ cq_J g' (x + o) j = cq_J g (x + o) j) : SR x p s h' g' := F.fr (fun d w => (e.1 d w).1) (e.I F.s0 rfl p0) (e.J F.s0 (by decide) p0) (e.A F.s0 rfl p0) (e.I F.s1 rfl p1) (e.A F.s1 rfl p1) (e.J F.s2 (by decide) p2) (e.I F.s3 rfl p3) (e.J F.s4 (by decide) p4) e.2.1 eg
theorem FL.ex {x p : Nat} {l : Int} {g g' : cx_Q} (F : FL x p l h g) (e : evx P h h') (p0 : ¬ P p) (p1 : ¬ P (p + 1)) (eg : cq_I g' (x + 63) l = cq_I g (x + 63) l) (eb : ∀ k, 0 ≤ k → k < 100 → cq_I g' (x + 62) (100 * l + k) = cq_I g (x + 62) (100 * l + k)) : FL x p l h' g' := F.fr (fun d w => e.1 d w) (e.A F.s0 rfl p0) (e.I F.s1 rfl p1) eg eb
theorem FO.ex {x r : Nat} {w : Int} {T : Int → Nat} {g g' : cx_Q} (F : FO x r w T h g) (e : evx P h h') (p0 : ¬ P r) (p1 : ¬ P (r + 1)) (eo : ∀ j, cq_I g' (x + 29) (4 * w + j) = cq_I g (x + 29) (4 * w + j)) (er : cq_I g' (x + 30) w = cq_I g (x + 30) w) (eS : ∀ i, 0 ≤ i → i < cq_I g (x + 30) w → SR x (T (cq_I g (x + 29) (4 * w + i))) (cq_I g (x + 29) (4 * w + i)) h' g') : FO x r w T h' g' := by
  refine ⟨e.s F.s0 (by decide), e.s F.s1 (by decide), by rw [e.I F.s0 rfl p0, er]; exact F.rm, by rw [er]; exact F.r4, fun i i0 i1 => ?_, fun i i0 i1 => ?_, fun i j i0 i1 i2 => ?_, fun i i0 i1 => ?_⟩
  · rw [er] at i1
    rw [e.A F.s1 rfl p1, eo]
    exact F.at_ i i0 i1
  · rw [er] at i1
    rw [eo]
    exact F.sl i i0 i1
  · rw [er] at i2
    rw [eo, eo]
    exact F.di i j i0 i1 i2
  · rw [er] at i1
    rw [eo]
    exact eS i i0 i1
end
section
variable {c x : Nat} {n : Int} {pe : Int → Nat} {ro : Int → Int → Nat} {pa lb tp rd en op ob : Nat} {T Lf : Int → Nat} {h g h' g' : cx_Q} {P : Nat → Prop}
/-- what of the reference neither stands in an object's own ints nor in terms -/
def eqR (x : Nat) (R : Nat → Int → Prop) (g g' : cx_Q) : Prop := ∀ o j, 1 ≤ o → o ≤ 65 → o ∉ tL → ¬ R o j → cq_I g' (x + o) j = cq_I g (x + o) j ∧ cq_J g' (x + o) j = cq_J g (x + o) j
theorem inU_r {u j : Int} {o : Nat} (q : inU u o j) : 1 ≤ o ∧ o ≤ 65 ∧ o ∉ tL := by
  unfold inU at q
  have : o = 1 ∨ o = 11 ∨ o = 12 ∨ o = 13 ∨ o = 14 ∨ o = 16 ∨ o = 20 ∨ o = 21 ∨ o = 22 ∨ o = 23 ∨ o = 58 ∨ o = 17 ∨ o = 18 ∨ o = 24 ∨ o = 25 ∨ o = 27 ∨ o = 28 ∨ o = 59 ∨ o = 60 := by omega
  rcases this with rfl | rfl | rfl | rfl | rfl | rfl | rfl | rfl | rfl | rfl | rfl | rfl | rfl | rfl | rfl | rfl | rfl | rfl | rfl <;> decide
theorem inS_r {s j : Int} {o : Nat} (q : inS s o j) : 1 ≤ o ∧ o ≤ 65 ∧ o ∉ tL := by
  unfold inS at q
  have : o = 31 ∨ o = 32 ∨ o = 33 ∨ o = 34 ∨ o = 35 ∨ o = 36 ∨ o = 37 ∨ o = 38 ∨ o = 39 ∨ o = 40 ∨ o = 41 ∨ o = 42 ∨ o = 43 ∨ o = 44 ∨ o = 45 ∨ o = 46 ∨ o = 47 ∨ o = 53 ∨ o = 54 ∨ o = 55 ∨ o = 56 := by omega
  rcases this with rfl | rfl | rfl | rfl | rfl | rfl | rfl | rfl | rfl | rfl | rfl | rfl | rfl | rfl | rfl | rfl | rfl | rfl | rfl | rfl | rfl <;> decide
/-- sorts of users', rows' and letters' cells -/
def okP (k : Nat) : Bool := k != 9 && k != 103 && k != 104 && k != 0 && k != 3 && k != 175 && k != 10 && k != 98 && !(Nat.ble 106 k && Nat.ble k 170)
/-- nothing is other of users, rows and letters -/
theorem FX.upS (F : FX c x n pe ro pa lb tp rd en op ob T Lf h g) (e : evx P h h') (R : Nat → Int → Prop) (eg : eqR x R g g') (hP : ∀ a, P a → okP (cq_s h a) = false) (hR : ∀ o j, R o j → o = 61 ∨ o = 65) (eA : cq_A h' c = cq_A h c) (eop : cq_A h' op 0 = cq_A h op 0) (e0 : cq_I g' x 0 = cq_I g x 0) (e72 : cq_I g' x 72 = cq_I g x 72) (fs : FS x c tp rd h' g') : FX c x n pe ro pa lb tp rd en op ob T Lf h' g' := by
  have nP : ∀ {a k : Nat}, cq_s h a = k → okP k = true → ¬ P a := by
    intro a k q w hp
    have := hP a hp
    rw [q, w] at this
    cases this
  have gg : ∀ o j, 1 ≤ o → o ≤ 65 → o ∉ tL → o ≠ 61 → o ≠ 65 → cq_I g' (x + o) j = cq_I g (x + o) j ∧ cq_J g' (x + o) j = cq_J g (x + o) j := fun o j h1 h2 h3 h4 h5 => eg o j h1 h2 h3 (fun r => by have := hR o j r; omega)
  have gU : ∀ {u : Int} o j, inU u o j → cq_I g' (x + o) j = cq_I g (x + o) j ∧ cq_J g' (x + o) j = cq_J g (x + o) j := fun {u} o j w => by
    obtain ⟨q1, q2, q3⟩ := inU_r w
    exact gg o j q1 q2 q3 (by unfold inU at w; omega) (by unfold inU at w; omega)
  have gS : ∀ {s : Int} o j, inS s o j → cq_I g' (x + o) j = cq_I g (x + o) j ∧ cq_J g' (x + o) j = cq_J g (x + o) j := fun {u} o j w => by
    obtain ⟨q1, q2, q3⟩ := inS_r w
    exact gg o j q1 q2 q3 (by unfold inS at w; omega) (by unfold inS at w; omega)
  have g29 : ∀ j, cq_I g' (x + 29) j = cq_I g (x + 29) j := fun j => (gg 29 j (by decide) (by decide) (by decide) (by decide) (by decide)).1
  have g30 : ∀ j, cq_I g' (x + 30) j = cq_I g (x + 30) j := fun j => (gg 30 j (by decide) (by decide) (by decide) (by decide) (by decide)).1
  have g62 : ∀ j, cq_I g' (x + 62) j = cq_I g (x + 62) j := fun j => (gg 62 j (by decide) (by decide) (by decide) (by decide) (by decide)).1
  have g63 : ∀ j, cq_I g' (x + 63) j = cq_I g (x + 63) j := fun j => (gg 63 j (by decide) (by decide) (by decide) (by decide) (by decide)).1
  refine ⟨fs, F.n26, by rw [e0]; exact F.nn, by rw [eA]; exact F.a0, e.s F.s0 (by decide), by rw [eA]; exact F.a1, e.s F.s1 (by decide), by rw [eA]; exact F.a12, e.s F.s12 (by decide), by rw [eA]; exact F.a13, e.s F.s13 (by decide), by rw [eop]; exact F.aob, e.s F.sob (by decide), fun u u0 u1 => ?_, fun u u0 u1 => ?_, fun u v u0 u1 v0 v1 => ?_, fun u u0 u1 => ?_, fun u v u0 u1 v0 v1 => ?_, by rw [e72]; exact F.l80, fun l l0 l1 => ?_, by rw [e72]; exact F.li, F.pi, F.ri, ?_⟩
  · rw [e.A F.s0 rfl (nP F.s0 rfl)]
    exact F.pa_ u u0 u1
  · have fu := F.fu u u0 u1
    have r := F.r13 u u0 u1
    rw [e.A fu.s0 rfl (nP fu.s0 rfl)]
    exact ⟨r.1, e.s r.2 (by decide)⟩
  · have r := F.r13 u u0 u1
    rw [e.A r.2 rfl (nP r.2 rfl)]
    exact F.ra u v u0 u1 v0 v1
  · have fu := F.fu u u0 u1
    exact fu.ex e (nP fu.s0 rfl) (nP fu.s1 rfl) (nP fu.s2 rfl) (nP fu.s3 rfl) (nP fu.s4 rfl) (nP fu.s5 rfl) gU
  · have fo := F.fo u v u0 u1 v0 v1
    refine fo.ex e (nP fo.s0 rfl) (nP fo.s1 rfl) (fun j => g29 _) (g30 _) (fun i i0 i1 => ?_)
    have sr := fo.ss i i0 i1
    exact sr.ex e (nP sr.s0 rfl) (nP sr.s1 rfl) (nP sr.s2 rfl) (nP sr.s3 rfl) (nP sr.s4 rfl) gS
  · rw [e72] at l1
    obtain ⟨f1, f2⟩ := F.fl l l0 l1
    rw [e.A F.s1 rfl (nP F.s1 rfl)]
    exact ⟨f1, f2.ex e (nP f2.s0 rfl) (nP f2.s1 rfl) (g63 l) (fun k _ _ => g62 _)⟩
  · intro u v u' v' i j u0 u1 v0 v1 u0' u1' v0' v1' i0 i1 j0 j1
    rw [g30] at i1 j1
    rw [g29, g29]
    exact F.ti u v u' v' i j u0 u1 v0 v1 u0' u1' v0' v1' i0 i1 j0 j1
theorem FS.ex (F : FS x c tp rd h g) (e : evx P h h') (p0 : ¬ P c) (p1 : ¬ P tp) (p2 : ¬ P rd) (eg : ∀ j, (j = 63 ∨ j = 68 ∨ j = 72 ∨ j = 73 ∨ j = 75 ∨ j = 84 ∨ j = 85 ∨ j = 86) → cq_I g' x j = cq_I g x j) (e61 : ∀ j, cq_I g' (x + 61) j = cq_I g (x + 61) j) (e65 : ∀ j, cq_I g' (x + 65) j = cq_I g (x + 65) j) : FS x c tp rd h' g' := by
  have eI := e.I F.s0 rfl p0
  have eA := e.A F.s0 rfl p0
  refine ⟨e.s F.s0 (by decide), e.s F.s1 (by decide), e.s F.s2 (by decide), by rw [eA]; exact F.a8, by rw [eA]; exact F.a10, by rw [eI, eg 72 (by omega)]; exact F.lc, by rw [eI, eg 73 (by omega)]; exact F.cc, by rw [eI, eg 63 (by omega)]; exact F.bc, by rw [eI, eg 85 (by omega)]; exact F.mc, by rw [eI, eg 84 (by omega)]; exact F.oc, by rw [eI, eg 86 (by omega)]; exact F.kc, by rw [eI, eg 68 (by omega)]; exact F.tc, by rw [eI, eg 75 (by omega)]; exact F.rc, fun k k0 k1 => ?_, fun k k0 k1 => ?_, fun k k0 k1 => by rw [eg 68 (by omega)] at k1; rw [e61]; exact F.tb k k0 k1⟩
  · rw [eg 68 (by omega)] at k1
    rw [e.I F.s1 rfl p1, e61]
    exact F.tp_ k k0 k1
  · rw [eg 75 (by omega)] at k1
    rw [e.I F.s2 rfl p2, e65]
    exact F.rd_ k k0 k1
theorem FX.ev (F : FX c x n pe ro pa lb tp rd en op ob T Lf h g) (e : ev h h') : FX c x n pe ro pa lb tp rd en op ob T Lf h' g := F.upS (P := fun _ => False) e.x (fun _ _ => False) (fun _ _ _ _ _ _ => ⟨rfl, rfl⟩) (fun _ q => q.elim) (fun _ _ q => q.elim) (e.A F.fs.s0 rfl) (by rw [e.A F.s13 rfl]) rfl rfl (F.fs.ex (P := fun _ => False) e.x id id id (fun _ _ => rfl) (fun _ => rfl) (fun _ => rfl))
theorem eT.R {R : Nat → Int → Prop} (e : eT x g g') : eqR x R g g' := fun o j h1 h2 h3 _ => e.2.2.2.2 (x + o) j (fun t => by
  rcases t with t | ⟨o', q1, q2⟩
  · omega
  · have : o' = o := by omega
    rw [this] at q1
    exact h3 q1)
/-- the reference's terms are not read -/
theorem FX.eT (F : FX c x n pe ro pa lb tp rd en op ob T Lf h g) (e : eT x g g') : FX c x n pe ro pa lb tp rd en op ob T Lf h g' := by
  have r : eqR x (fun _ _ => False) g g' := e.R
  exact F.upS (P := fun _ => False) evx.refl (fun _ _ => False) r (fun _ q => q.elim) (fun _ _ q => q.elim) rfl rfl (e.xI (by decide) (by decide) (by decide)) (e.xI (by decide) (by decide) (by decide)) (F.fs.ex (P := fun _ => False) evx.refl id id id (fun j w => e.xI (by omega) (by omega) (by omega)) (fun j => (r 61 j (by decide) (by decide) (by decide) id).1) (fun j => (r 65 j (by decide) (by decide) (by decide) id).1))
/-- the reference's cells, by their sorts -/
theorem okP_R {k : Nat} (q : isR k) : okP k = false := by
  unfold isR at q
  rcases q with q | q | q
  · rw [q]; rfl
  · rw [q]; rfl
  · unfold okP
    have e1 : Nat.ble 106 k = true := Nat.ble_eq_true_of_le q.1
    have e2 : Nat.ble k 170 = true := Nat.ble_eq_true_of_le q.2
    rw [e1, e2]
    simp
/-- the reference's own call: the class's cells are as they were -/
theorem FX.wz (F : FX c x n pe ro pa lb tp rd en op ob T Lf h g) (W : wz x h h') (S : rS h x) : FX c x n pe ro pa lb tp rd en op ob T Lf h' g := by
  have e : evx (fun a => x ≤ a ∧ a ≤ x + 65) h h' := by
    refine ⟨fun a _ => ⟨by rw [W.2.1], by rw [W.2.2.1]⟩, fun a q => (W.2.2.2.2 a (fun w => ?_)).2, fun a _ q => ⟨(W.2.2.2.2 a q).2, fun _ => (W.2.2.2.2 a q).1, fun _ => by rw [W.2.2.2.1]⟩⟩
    have := S.isR w
    rw [q] at this
    unfold isR at this
    omega
  have nr : ∀ {a k : Nat}, cq_s h a = k → ¬ isR k → ¬ (x ≤ a ∧ a ≤ x + 65) := fun q w z => w (by rw [← q]; exact S.isR z)
  refine F.upS e (fun _ _ => False) (fun _ _ _ _ _ _ => ⟨rfl, rfl⟩) (fun a q => okP_R (S.isR q)) (fun _ _ q => q.elim) (by rw [W.2.2.2.1]) (by rw [W.2.2.2.1]) rfl rfl (F.fs.ex e (nr F.fs.s0 (by unfold isR; omega)) (nr F.fs.s1 (by unfold isR; omega)) (nr F.fs.s2 (by unfold isR; omega)) (fun _ _ => rfl) (fun _ => rfl) (fun _ => rfl))
/-- the class's own call: the reference's cells are as they were -/
theorem FX.fr (F : FX c x n pe ro pa lb tp rd en op ob T Lf h g) (W : FR g g') (S : rS g x) : FX c x n pe ro pa lb tp rd en op ob T Lf h g' := by
  have q : ∀ o, o ≤ 65 → cq_I g' (x + o) = cq_I g (x + o) ∧ cq_J g' (x + o) = cq_J g (x + o) := fun o w => by
    have := (W.2 (x + o) (S.isR ⟨by omega, by omega⟩)).2
    exact ⟨this.2.2.1, this.2.2.2.1⟩
  have q0 : cq_I g' x = cq_I g x := (q 0 (by omega)).1
  refine F.upS (P := fun _ => False) evx.refl (fun _ _ => False) (fun o j _ h2 _ _ => ⟨by rw [(q o h2).1], by rw [(q o h2).2]⟩) (fun _ q => q.elim) (fun _ _ q => q.elim) rfl rfl (by rw [q0]) (by rw [q0]) (F.fs.ex (P := fun _ => False) evx.refl id id id (fun j w => by rw [q0]) (fun j => by rw [(q 61 (by decide)).1]) (fun j => by rw [(q 65 (by decide)).1]))
end
/-! class and reference side by side: the tape -/
theorem sh24 (x : BitVec 32) {s : Nat} (hs : s ≤ 24) : (x.sshiftRight s) &&& 255#32 = (x >>> s) &&& 255#32 := by
  apply BitVec.eq_of_getLsbD_eq
  intro i hi
  rw [BitVec.getLsbD_and, BitVec.getLsbD_and]
  by_cases w : i < 8
  · rw [BitVec.getLsbD_sshiftRight, BitVec.getLsbD_ushiftRight, if_pos (by omega)]
    have : decide (32 ≤ i) = false := decide_eq_false (by omega)
    rw [this]
    simp
  · have : (255#32).getLsbD i = false := by
      have e : (255#32 : BitVec 32) = BitVec.ofNat 32 (2 ^ 8 - 1) := rfl
      rw [e, BitVec.getLsbD_ofNat, Nat.testBit_two_pow_sub_one]
      simp
      omega
    rw [this, Bool.and_false, Bool.and_false]
theorem shE (v : Int) {s : Int} (hs : s = 0 ∨ s = 8 ∨ s = 16 ∨ s = 24) : cx_and (cx_ush v s) 255 = cx_and (cx_shr v s) 255 := by
  unfold cx_and cx_ush cx_shr cx_bi
  congr 1
  rw [Int32.ofInt_toInt, Int32.ofInt_toInt]
  generalize Int32.ofInt v = x
  apply Int32.toBitVec_inj.mp
  rw [Int32.toBitVec_and, Int32.toBitVec_and]
  show ((x.toUInt32 >>> _).toBitVec &&& 255#32) = ((x >>> _ : Int32).toBitVec &&& 255#32)
  rw [UInt32.toBitVec_shiftRight, Int32.toBitVec_shiftRight, BitVec.ushiftRight_eq', BitVec.sshiftRight_eq']
  rcases hs with rfl | rfl | rfl | rfl
  · have e1 : (((Int32.ofInt 0).toUInt32 &&& Int32.toUInt32 31).toBitVec % 32).toNat = 0 := by decide
    have e2 : ((Int32.ofInt 0 &&& 31).toBitVec.smod 32).toNat = 0 := by decide
    rw [e1, e2, sh24 _ (by decide)]; rfl
  · have e1 : (((Int32.ofInt 8).toUInt32 &&& Int32.toUInt32 31).toBitVec % 32).toNat = 8 := by decide
    have e2 : ((Int32.ofInt 8 &&& 31).toBitVec.smod 32).toNat = 8 := by decide
    rw [e1, e2, sh24 _ (by decide)]; rfl
  · have e1 : (((Int32.ofInt 16).toUInt32 &&& Int32.toUInt32 31).toBitVec % 32).toNat = 16 := by decide
    have e2 : ((Int32.ofInt 16 &&& 31).toBitVec.smod 32).toNat = 16 := by decide
    rw [e1, e2, sh24 _ (by decide)]; rfl
  · have e1 : (((Int32.ofInt 24).toUInt32 &&& Int32.toUInt32 31).toBitVec % 32).toNat = 24 := by decide
    have e2 : ((Int32.ofInt 24 &&& 31).toBitVec.smod 32).toNat = 24 := by decide
    rw [e1, e2, sh24 _ (by decide)]; rfl
/-- so many bytes more on the tape -/
def tpW (m : cx_Q) (tp c : Nat) (f : Int → Int) (t n : Int) : cx_Q := cq_sI (cq_rI m tp (kpF (cq_I m tp) t n f)) c 9 (t + n)
theorem tpW_t {m : cx_Q} {tp c : Nat} {f f' : Int → Int} {t n k : Int} (hn : 0 ≤ n) (hk : 0 ≤ k) (ne : tp ≠ c) (hf : ∀ i, 0 ≤ i → i < k → f' i = f (n + i)) : tpW (tpW m tp c f t n) tp c f' (t + n) k = tpW m tp c f t (n + k) := by
  unfold tpW
  refine qext rfl rfl rfl (fun q r => ?_) (fun q r => rfl) (fun q r => rfl)
  simp only [mm_sI, rr_I]
  by_cases w : q = c ∧ r = 9
  · rw [if_pos w, if_pos w]; omega
  · rw [if_neg w, if_neg w]
    by_cases w1 : q = tp
    · rw [if_pos w1, if_pos w1]
      unfold kpF
      by_cases w2 : t + n ≤ r ∧ r < t + n + k
      · have e1 : n + (r - (t + n)) = r - t := by omega
        rw [if_pos w2, if_pos (by omega), hf _ (by omega) (by omega), e1]
      · rw [if_neg w2, mm_sI, if_neg (fun e => ne e.1), rr_I, if_pos rfl]
        by_cases w3 : t ≤ r ∧ r < t + n
        · rw [if_pos w3, if_pos (by omega)]
        · rw [if_neg w3, if_neg (by omega)]
    · rw [if_neg w1, if_neg w1, mm_sI, if_neg w, rr_I, if_neg w1]
section
variable {Y : cx_Y} {K : Option cx_V → cx_Q → Prop} {c x : Nat} {n L Z : Int} {E : Nat → Option Int} {h0 : cx_Q} {h g : cx_Q} {pe : Int → Nat} {ro : Int → Int → Nat} {pa lb tp rd en op ob : Nat} {T Lf : Int → Nat}
theorem e_X10_putOnTape (hY : cY Y) {u : Int} (H : CI c n L Z E h0 [] h) (eb : cq_A h c 8 = some tp) (ht : cq_I h c 9 + 4 ≤ 40) (hK : ∀ g, CI c n L Z E h0 [] g → g = tpW h tp c (fun i => cx_and (cx_shr u (24 - 8 * i)) 255) (cq_I h c 9) 4 → K none g) : cw Y mi_X10_putOnTape K 0 [some (.inr (.inr (some c))), some (.inl u), none] [] h 0 0 := by
  have sb : cq_s h tp = 103 := H.ta H.cs (own_9 (by decide)) eb
  have i9 := H.i9_9 H.cs
  have ne : tp ≠ c := ns sb H.cs (by decide)
  have loop : ∀ (r : Nat) (k : Int) (g : cx_Q), (r : Int) ≤ 4 → k = 8 * r - 8 → CI c n L Z E h0 [] g → g = tpW h tp c (fun i => cx_and (cx_shr u (24 - 8 * i)) 255) (cq_I h c 9) (4 - r) → cw Y mi_X10_putOnTape K 3 [some (.inr (.inr (some c))), some (.inl u), some (.inl k)] [] g 0 0 := by
    intro r
    induction r with
    | zero =>
      intro k g h2 h3 G eg
      have gc := G.cs
      refine bx_X10_putOnTape_3 hY (pf2_ok hY) ?_
      simp only [wp_iconst, wp_bipush, wp_sipush, wp_ldc, wp_ldc2_w, wp_lconst0, wp_lconst1, wp_aconst_null, wp_iload_0, wp_istore_0, wp_iload_1, wp_istore_1, wp_iload_2, wp_istore_2, wp_iload_3, wp_istore_3, wp_iload, wp_istore, wp_lload_0, wp_lstore_0, wp_lload_1, wp_lstore_1, wp_lload_2, wp_lstore_2, wp_lload_3, wp_lstore_3, wp_lload, wp_lstore, wp_aload_0, wp_astore_0, wp_aload_1, wp_astore_1, wp_aload_2, wp_astore_2, wp_aload_3, wp_astore_3, wp_aload, wp_astore, wp_iinc, wp_iadd, wp_isub, wp_imul, wp_iand, wp_ior, wp_ixor, wp_ishl, wp_ishr, wp_iushr, wp_irem, wp_ladd, wp_lsub, wp_lmul, wp_land, wp_lor, wp_lxor, wp_lshl, wp_lshr, wp_lushr, wp_lrem, wp_lcmp, wp_i2l, wp_l2i, wp_dupI, wp_dupA, wp_dup2J, wp_dup2IA, wp_popI, wp_popA, wp_pop2, wp_goto, wp_if_eq, wp_icmp_eq, wp_if_ne, wp_icmp_ne, wp_if_lt, wp_icmp_lt, wp_if_ge, wp_icmp_ge, wp_if_gt, wp_icmp_gt, wp_if_le, wp_icmp_le, wp_ifnull, wp_ifnonnull, wp_acmp_eq, wp_acmp_ne, wp_tableswitch, wp_get0, wp_put0, wp_get1, wp_put1, wp_get2, wp_put2, wp_get3, wp_put3, wp_new, wp_newarray, wp_anewarray, wp_alen, wp_iaload, wp_laload, wp_baload, wp_aaload, wp_iastore, wp_lastore, wp_bastore, wp_aastore, wp_return, wp_ireturnI, wp_ireturnZ, wp_lreturn, wp_areturnO, wp_areturnA, wp_max, wp_min, wp_obj, wp_virt, wp_nil, ld_I0, ld_Is, ld_J0, ld_Js, ld_A0, ld_As, ha_0, ha_s, cx_put1, cx_put2, cx_dl, cx_tgt, true_and, and_true, Nat.reduceAdd, Nat.reduceSub, Int.reduceAdd, Int.reduceNeg, Int.reduceToNat, Int.reduceSub, Int.cast_ofNat_Int, List.take_succ_cons, List.take_zero, List.drop_succ_cons, List.drop_zero, List.take_nil, List.drop_nil, Option.toList_some, Option.toList_none, List.cons_append, List.nil_append, wp_spec, ne_eq, Nat.reduceEqDiff, not_false_eq_true, true_or, or_true, gc]
      refine ⟨fun _ => ?_, fun q => absurd (by omega) q⟩
      refine bx_X10_putOnTape_48 hY (pf2_ok hY) ?_
      simp only [wp_iconst, wp_bipush, wp_sipush, wp_ldc, wp_ldc2_w, wp_lconst0, wp_lconst1, wp_aconst_null, wp_iload_0, wp_istore_0, wp_iload_1, wp_istore_1, wp_iload_2, wp_istore_2, wp_iload_3, wp_istore_3, wp_iload, wp_istore, wp_lload_0, wp_lstore_0, wp_lload_1, wp_lstore_1, wp_lload_2, wp_lstore_2, wp_lload_3, wp_lstore_3, wp_lload, wp_lstore, wp_aload_0, wp_astore_0, wp_aload_1, wp_astore_1, wp_aload_2, wp_astore_2, wp_aload_3, wp_astore_3, wp_aload, wp_astore, wp_iinc, wp_iadd, wp_isub, wp_imul, wp_iand, wp_ior, wp_ixor, wp_ishl, wp_ishr, wp_iushr, wp_irem, wp_ladd, wp_lsub, wp_lmul, wp_land, wp_lor, wp_lxor, wp_lshl, wp_lshr, wp_lushr, wp_lrem, wp_lcmp, wp_i2l, wp_l2i, wp_dupI, wp_dupA, wp_dup2J, wp_dup2IA, wp_popI, wp_popA, wp_pop2, wp_goto, wp_if_eq, wp_icmp_eq, wp_if_ne, wp_icmp_ne, wp_if_lt, wp_icmp_lt, wp_if_ge, wp_icmp_ge, wp_if_gt, wp_icmp_gt, wp_if_le, wp_icmp_le, wp_ifnull, wp_ifnonnull, wp_acmp_eq, wp_acmp_ne, wp_tableswitch, wp_get0, wp_put0, wp_get1, wp_put1, wp_get2, wp_put2, wp_get3, wp_put3, wp_new, wp_newarray, wp_anewarray, wp_alen, wp_iaload, wp_laload, wp_baload, wp_aaload, wp_iastore, wp_lastore, wp_bastore, wp_aastore, wp_return, wp_ireturnI, wp_ireturnZ, wp_lreturn, wp_areturnO, wp_areturnA, wp_max, wp_min, wp_obj, wp_virt, wp_nil, ld_I0, ld_Is, ld_J0, ld_Js, ld_A0, ld_As, ha_0, ha_s, cx_put1, cx_put2, cx_dl, cx_tgt, true_and, and_true, Nat.reduceAdd, Nat.reduceSub, Int.reduceAdd, Int.reduceNeg, Int.reduceToNat, Int.reduceSub, Int.cast_ofNat_Int, List.take_succ_cons, List.take_zero, List.drop_succ_cons, List.drop_zero, List.take_nil, List.drop_nil, Option.toList_some, Option.toList_none, List.cons_append, List.nil_append, wp_spec, ne_eq, Nat.reduceEqDiff, not_false_eq_true, true_or, or_true]
      exact hK g G eg
    | succ r ih =>
      intro k g h2 h3 G eg
      have gc := G.cs
      have gt : cq_I g c 9 = cq_I h c 9 + (4 - ((r + 1 : Nat) : Int)) := by rw [eg]; unfold tpW; rw [mm_sI, if_pos ⟨rfl, rfl⟩]
      have gb : cq_A g c 8 = some tp := by rw [eg]; exact eb
      have gs : cq_s g tp = 103 := by rw [eg]; exact sb
      have gz : cq_z g tp = 40 := G.tz gs
      have nb : ¬ c = tp := fun e => ne e.symm
      refine bx_X10_putOnTape_3 hY (pf2_ok hY) ?_
      simp only [wp_iconst, wp_bipush, wp_sipush, wp_ldc, wp_ldc2_w, wp_lconst0, wp_lconst1, wp_aconst_null, wp_iload_0, wp_istore_0, wp_iload_1, wp_istore_1, wp_iload_2, wp_istore_2, wp_iload_3, wp_istore_3, wp_iload, wp_istore, wp_lload_0, wp_lstore_0, wp_lload_1, wp_lstore_1, wp_lload_2, wp_lstore_2, wp_lload_3, wp_lstore_3, wp_lload, wp_lstore, wp_aload_0, wp_astore_0, wp_aload_1, wp_astore_1, wp_aload_2, wp_astore_2, wp_aload_3, wp_astore_3, wp_aload, wp_astore, wp_iinc, wp_iadd, wp_isub, wp_imul, wp_iand, wp_ior, wp_ixor, wp_ishl, wp_ishr, wp_iushr, wp_irem, wp_ladd, wp_lsub, wp_lmul, wp_land, wp_lor, wp_lxor, wp_lshl, wp_lshr, wp_lushr, wp_lrem, wp_lcmp, wp_i2l, wp_l2i, wp_dupI, wp_dupA, wp_dup2J, wp_dup2IA, wp_popI, wp_popA, wp_pop2, wp_goto, wp_if_eq, wp_icmp_eq, wp_if_ne, wp_icmp_ne, wp_if_lt, wp_icmp_lt, wp_if_ge, wp_icmp_ge, wp_if_gt, wp_icmp_gt, wp_if_le, wp_icmp_le, wp_ifnull, wp_ifnonnull, wp_acmp_eq, wp_acmp_ne, wp_tableswitch, wp_get0, wp_put0, wp_get1, wp_put1, wp_get2, wp_put2, wp_get3, wp_put3, wp_new, wp_newarray, wp_anewarray, wp_alen, wp_iaload, wp_laload, wp_baload, wp_aaload, wp_iastore, wp_lastore, wp_bastore, wp_aastore, wp_return, wp_ireturnI, wp_ireturnZ, wp_lreturn, wp_areturnO, wp_areturnA, wp_max, wp_min, wp_obj, wp_virt, wp_nil, ld_I0, ld_Is, ld_J0, ld_Js, ld_A0, ld_As, ha_0, ha_s, cx_put1, cx_put2, cx_dl, cx_tgt, true_and, and_true, Nat.reduceAdd, Nat.reduceSub, Int.reduceAdd, Int.reduceNeg, Int.reduceToNat, Int.reduceSub, Int.cast_ofNat_Int, List.take_succ_cons, List.take_zero, List.drop_succ_cons, List.drop_zero, List.take_nil, List.drop_nil, Option.toList_some, Option.toList_none, List.cons_append, List.nil_append, wp_spec, ne_eq, Nat.reduceEqDiff, not_false_eq_true, true_or, or_true, gc, gb, gs, gz, nb, ra_103, mm_sI, mm_sJ, mm_sA, mm_IJ, mm_IA, mm_JI, mm_JA, mm_AI, mm_AJ, mm_ssI, mm_ssJ, mm_ssA, mm_zI, mm_zJ, mm_zA, mm_nI, mm_nJ, mm_nA, Nat.left_eq_add, Nat.add_eq_left, Nat.add_left_cancel_iff, Nat.reduceEqDiff, Int.reduceEq, false_and, and_false, if_false, if_true, and_self, true_and, true_or, or_true, false_or, or_false, cx_rg, gt]
      refine ⟨fun q => absurd q (by omega), fun q => ⟨fun q2 => absurd q2 (by omega), fun q2 => ?_⟩⟩
      (repeat' (with_reducible (first | refine And.intro ?_ ?_ | intro _)))
      all_goals (try omega)
      refine bx_X10_putOnTape_42 hY (pf2_ok hY) ?_
      simp only [wp_iconst, wp_bipush, wp_sipush, wp_ldc, wp_ldc2_w, wp_lconst0, wp_lconst1, wp_aconst_null, wp_iload_0, wp_istore_0, wp_iload_1, wp_istore_1, wp_iload_2, wp_istore_2, wp_iload_3, wp_istore_3, wp_iload, wp_istore, wp_lload_0, wp_lstore_0, wp_lload_1, wp_lstore_1, wp_lload_2, wp_lstore_2, wp_lload_3, wp_lstore_3, wp_lload, wp_lstore, wp_aload_0, wp_astore_0, wp_aload_1, wp_astore_1, wp_aload_2, wp_astore_2, wp_aload_3, wp_astore_3, wp_aload, wp_astore, wp_iinc, wp_iadd, wp_isub, wp_imul, wp_iand, wp_ior, wp_ixor, wp_ishl, wp_ishr, wp_iushr, wp_irem, wp_ladd, wp_lsub, wp_lmul, wp_land, wp_lor, wp_lxor, wp_lshl, wp_lshr, wp_lushr, wp_lrem, wp_lcmp, wp_i2l, wp_l2i, wp_dupI, wp_dupA, wp_dup2J, wp_dup2IA, wp_popI, wp_popA, wp_pop2, wp_goto, wp_if_eq, wp_icmp_eq, wp_if_ne, wp_icmp_ne, wp_if_lt, wp_icmp_lt, wp_if_ge, wp_icmp_ge, wp_if_gt, wp_icmp_gt, wp_if_le, wp_icmp_le, wp_ifnull, wp_ifnonnull, wp_acmp_eq, wp_acmp_ne, wp_tableswitch, wp_get0, wp_put0, wp_get1, wp_put1, wp_get2, wp_put2, wp_get3, wp_put3, wp_new, wp_newarray, wp_anewarray, wp_alen, wp_iaload, wp_laload, wp_baload, wp_aaload, wp_iastore, wp_lastore, wp_bastore, wp_aastore, wp_return, wp_ireturnI, wp_ireturnZ, wp_lreturn, wp_areturnO, wp_areturnA, wp_max, wp_min, wp_obj, wp_virt, wp_nil, ld_I0, ld_Is, ld_J0, ld_Js, ld_A0, ld_As, ha_0, ha_s, cx_put1, cx_put2, cx_dl, cx_tgt, true_and, and_true, Nat.reduceAdd, Nat.reduceSub, Int.reduceAdd, Int.reduceNeg, Int.reduceToNat, Int.reduceSub, Int.cast_ofNat_Int, List.take_succ_cons, List.take_zero, List.drop_succ_cons, List.drop_zero, List.take_nil, List.drop_nil, Option.toList_some, Option.toList_none, List.cons_append, List.nil_append, wp_spec, ne_eq, Nat.reduceEqDiff, not_false_eq_true, true_or, or_true, cx_rg]
      refine ⟨by omega, ih (k + -8) _ (by omega) (by omega) (CI.sI (CI.sI G gs (own_m (by decide)) True.intro rfl) gc (own_9 (by decide)) ⟨by omega, by omega⟩ rfl) ?_⟩
      have e4 : (4 : Int) - (r : Int) = 4 - ((r + 1 : Nat) : Int) + 1 := by omega
      have k4 : k = 0 ∨ k = 8 ∨ k = 16 ∨ k = 24 := by omega
      rw [shE u k4, e4, ← tpW_t (f' := fun _ => cx_and (cx_shr u k) 255) (k := 1) (by omega) (by omega) ne (fun i i0 i1 => by
        have : 24 - 8 * (4 - ((r + 1 : Nat) : Int) + i) = k := by omega
        rw [this])]
      rw [← eg]
      unfold tpW
      refine qext rfl rfl rfl (fun q r' => ?_) (fun q r => rfl) (fun q r => rfl)
      simp only [mm_sI, rr_I]
      by_cases w : q = c ∧ r' = 9
      · rw [if_pos w, if_pos w]
      · rw [if_neg w, if_neg w]
        by_cases w1 : q = tp
        · rw [if_pos w1]
          unfold kpF
          by_cases w2 : r' = cq_I h c 9 + (4 - ((r + 1 : Nat) : Int))
          · rw [if_pos ⟨w1, w2⟩, if_pos (by omega)]
          · rw [if_neg (fun e => w2 e.2), if_neg (by omega), w1]
        · rw [if_neg (fun e => w1 e.1), if_neg w1]
  refine bx_X10_putOnTape_0 hY (pf2_ok hY) ?_
  simp only [wp_iconst, wp_bipush, wp_sipush, wp_ldc, wp_ldc2_w, wp_lconst0, wp_lconst1, wp_aconst_null, wp_iload_0, wp_istore_0, wp_iload_1, wp_istore_1, wp_iload_2, wp_istore_2, wp_iload_3, wp_istore_3, wp_iload, wp_istore, wp_lload_0, wp_lstore_0, wp_lload_1, wp_lstore_1, wp_lload_2, wp_lstore_2, wp_lload_3, wp_lstore_3, wp_lload, wp_lstore, wp_aload_0, wp_astore_0, wp_aload_1, wp_astore_1, wp_aload_2, wp_astore_2, wp_aload_3, wp_astore_3, wp_aload, wp_astore, wp_iinc, wp_iadd, wp_isub, wp_imul, wp_iand, wp_ior, wp_ixor, wp_ishl, wp_ishr, wp_iushr, wp_irem, wp_ladd, wp_lsub, wp_lmul, wp_land, wp_lor, wp_lxor, wp_lshl, wp_lshr, wp_lushr, wp_lrem, wp_lcmp, wp_i2l, wp_l2i, wp_dupI, wp_dupA, wp_dup2J, wp_dup2IA, wp_popI, wp_popA, wp_pop2, wp_goto, wp_if_eq, wp_icmp_eq, wp_if_ne, wp_icmp_ne, wp_if_lt, wp_icmp_lt, wp_if_ge, wp_icmp_ge, wp_if_gt, wp_icmp_gt, wp_if_le, wp_icmp_le, wp_ifnull, wp_ifnonnull, wp_acmp_eq, wp_acmp_ne, wp_tableswitch, wp_get0, wp_put0, wp_get1, wp_put1, wp_get2, wp_put2, wp_get3, wp_put3, wp_new, wp_newarray, wp_anewarray, wp_alen, wp_iaload, wp_laload, wp_baload, wp_aaload, wp_iastore, wp_lastore, wp_bastore, wp_aastore, wp_return, wp_ireturnI, wp_ireturnZ, wp_lreturn, wp_areturnO, wp_areturnA, wp_max, wp_min, wp_obj, wp_virt, wp_nil, ld_I0, ld_Is, ld_J0, ld_Js, ld_A0, ld_As, ha_0, ha_s, cx_put1, cx_put2, cx_dl, cx_tgt, true_and, and_true, Nat.reduceAdd, Nat.reduceSub, Int.reduceAdd, Int.reduceNeg, Int.reduceToNat, Int.reduceSub, Int.cast_ofNat_Int, List.take_succ_cons, List.take_zero, List.drop_succ_cons, List.drop_zero, List.take_nil, List.drop_nil, Option.toList_some, Option.toList_none, List.cons_append, List.nil_append, wp_spec, ne_eq, Nat.reduceEqDiff, not_false_eq_true, true_or, or_true]
  refine loop 4 24 h (by decide) (by decide) H ?_
  unfold tpW
  have e0 : (4 : Int) - ((4 : Nat) : Int) = 0 := by decide
  rw [e0, kpF_0, rI_id, sI_id (by omega)]
/-- what the reference puts on the tape -/
def fdB (a b c d e k : Int) : Int := cx_and (cx_shr (m_fsel a b c d e k) (24 - 8 * cx_rem k 4)) 255
theorem fdB_i {a b c d e : Int} (j : Nat) (hj : j < 5) {u : Int} (hu : ∀ i, 0 ≤ i → i < 4 → m_fsel a b c d e (4 * (j : Int) + i) = u) : ∀ i, 0 ≤ i → i < 4 → cx_and (cx_shr u (24 - 8 * i)) 255 = fdB a b c d e (4 * (j : Int) + i) := by
  intro i i0 i1
  have w := hu i i0 i1
  unfold fdB
  rw [w]
  have r : cx_rem (4 * (j : Int) + i) 4 = i := by
    have hj' : j = 0 ∨ j = 1 ∨ j = 2 ∨ j = 3 ∨ j = 4 := by omega
    have hi : i = 0 ∨ i = 1 ∨ i = 2 ∨ i = 3 := by omega
    rcases hj' with rfl | rfl | rfl | rfl | rfl <;> rcases hi with rfl | rfl | rfl | rfl <;> decide
  rw [r]
theorem e_X10_feed (hY : cY Y) {u1 u2 u3 u4 u5 : Int} (H : CI c n L Z E h0 [] h) (eb : cq_A h c 8 = some tp) (hF : 40 < cq_I h c 9 + 20 → K (some (.inl (-3))) h) (hK : cq_I h c 9 + 20 ≤ 40 → ∀ g, CI c n L Z E h0 [] g → g = tpW h tp c (fdB u1 u2 u3 u4 u5) (cq_I h c 9) 20 → K (some (.inl (cq_I h c 9 + 20))) g) : cw Y mi_X10_feed K 0 [some (.inr (.inr (some c))), some (.inl u1), some (.inl u2), some (.inl u3), some (.inl u4), some (.inl u5)] [] h 0 0 := by
  have hc := H.cs
  have i9 := H.i9_9 hc
  have sb : cq_s h tp = 103 := H.ta H.cs (own_9 (by decide)) eb
  have ne : tp ≠ c := ns sb H.cs (by decide)
  have i9t : ∀ {m : cx_Q} {f : Int → Int} {t k : Int}, cq_I (tpW m tp c f t k) c 9 = t + k := by
    intro m f t k
    unfold tpW
    rw [mm_sI, if_pos ⟨rfl, rfl⟩]
  refine bx_X10_feed_0 hY (pf2_ok hY) ?_
  simp only [wp_iconst, wp_bipush, wp_sipush, wp_ldc, wp_ldc2_w, wp_lconst0, wp_lconst1, wp_aconst_null, wp_iload_0, wp_istore_0, wp_iload_1, wp_istore_1, wp_iload_2, wp_istore_2, wp_iload_3, wp_istore_3, wp_iload, wp_istore, wp_lload_0, wp_lstore_0, wp_lload_1, wp_lstore_1, wp_lload_2, wp_lstore_2, wp_lload_3, wp_lstore_3, wp_lload, wp_lstore, wp_aload_0, wp_astore_0, wp_aload_1, wp_astore_1, wp_aload_2, wp_astore_2, wp_aload_3, wp_astore_3, wp_aload, wp_astore, wp_iinc, wp_iadd, wp_isub, wp_imul, wp_iand, wp_ior, wp_ixor, wp_ishl, wp_ishr, wp_iushr, wp_irem, wp_ladd, wp_lsub, wp_lmul, wp_land, wp_lor, wp_lxor, wp_lshl, wp_lshr, wp_lushr, wp_lrem, wp_lcmp, wp_i2l, wp_l2i, wp_dupI, wp_dupA, wp_dup2J, wp_dup2IA, wp_popI, wp_popA, wp_pop2, wp_goto, wp_if_eq, wp_icmp_eq, wp_if_ne, wp_icmp_ne, wp_if_lt, wp_icmp_lt, wp_if_ge, wp_icmp_ge, wp_if_gt, wp_icmp_gt, wp_if_le, wp_icmp_le, wp_ifnull, wp_ifnonnull, wp_acmp_eq, wp_acmp_ne, wp_tableswitch, wp_get0, wp_put0, wp_get1, wp_put1, wp_get2, wp_put2, wp_get3, wp_put3, wp_new, wp_newarray, wp_anewarray, wp_alen, wp_iaload, wp_laload, wp_baload, wp_aaload, wp_iastore, wp_lastore, wp_bastore, wp_aastore, wp_return, wp_ireturnI, wp_ireturnZ, wp_lreturn, wp_areturnO, wp_areturnA, wp_max, wp_min, wp_obj, wp_virt, wp_nil, ld_I0, ld_Is, ld_J0, ld_Js, ld_A0, ld_As, ha_0, ha_s, cx_put1, cx_put2, cx_dl, cx_tgt, true_and, and_true, Nat.reduceAdd, Nat.reduceSub, Int.reduceAdd, Int.reduceNeg, Int.reduceToNat, Int.reduceSub, Int.cast_ofNat_Int, List.take_succ_cons, List.take_zero, List.drop_succ_cons, List.drop_zero, List.take_nil, List.drop_nil, Option.toList_some, Option.toList_none, List.cons_append, List.nil_append, wp_spec, ne_eq, Nat.reduceEqDiff, not_false_eq_true, true_or, or_true, hc, cx_rg]
  refine ⟨by omega, fun q => ?_, fun q => hF (by omega)⟩
  refine bx_X10_feed_15 hY (pf2_ok hY) ?_
  simp only [wp_iconst, wp_bipush, wp_sipush, wp_ldc, wp_ldc2_w, wp_lconst0, wp_lconst1, wp_aconst_null, wp_iload_0, wp_istore_0, wp_iload_1, wp_istore_1, wp_iload_2, wp_istore_2, wp_iload_3, wp_istore_3, wp_iload, wp_istore, wp_lload_0, wp_lstore_0, wp_lload_1, wp_lstore_1, wp_lload_2, wp_lstore_2, wp_lload_3, wp_lstore_3, wp_lload, wp_lstore, wp_aload_0, wp_astore_0, wp_aload_1, wp_astore_1, wp_aload_2, wp_astore_2, wp_aload_3, wp_astore_3, wp_aload, wp_astore, wp_iinc, wp_iadd, wp_isub, wp_imul, wp_iand, wp_ior, wp_ixor, wp_ishl, wp_ishr, wp_iushr, wp_irem, wp_ladd, wp_lsub, wp_lmul, wp_land, wp_lor, wp_lxor, wp_lshl, wp_lshr, wp_lushr, wp_lrem, wp_lcmp, wp_i2l, wp_l2i, wp_dupI, wp_dupA, wp_dup2J, wp_dup2IA, wp_popI, wp_popA, wp_pop2, wp_goto, wp_if_eq, wp_icmp_eq, wp_if_ne, wp_icmp_ne, wp_if_lt, wp_icmp_lt, wp_if_ge, wp_icmp_ge, wp_if_gt, wp_icmp_gt, wp_if_le, wp_icmp_le, wp_ifnull, wp_ifnonnull, wp_acmp_eq, wp_acmp_ne, wp_tableswitch, wp_get0, wp_put0, wp_get1, wp_put1, wp_get2, wp_put2, wp_get3, wp_put3, wp_new, wp_newarray, wp_anewarray, wp_alen, wp_iaload, wp_laload, wp_baload, wp_aaload, wp_iastore, wp_lastore, wp_bastore, wp_aastore, wp_return, wp_ireturnI, wp_ireturnZ, wp_lreturn, wp_areturnO, wp_areturnA, wp_max, wp_min, wp_obj, wp_virt, wp_nil, ld_I0, ld_Is, ld_J0, ld_Js, ld_A0, ld_As, ha_0, ha_s, cx_put1, cx_put2, cx_dl, cx_tgt, true_and, and_true, Nat.reduceAdd, Nat.reduceSub, Int.reduceAdd, Int.reduceNeg, Int.reduceToNat, Int.reduceSub, Int.cast_ofNat_Int, List.take_succ_cons, List.take_zero, List.drop_succ_cons, List.drop_zero, List.take_nil, List.drop_nil, Option.toList_some, Option.toList_none, List.cons_append, List.nil_append, wp_spec, ne_eq, Nat.reduceEqDiff, not_false_eq_true, true_or, or_true]
  refine cl_X10_putOnTape (Nat.le_of_ble_eq_true rfl) hc (Nat.le_refl _) (Nat.le_refl _) (e_X10_putOnTape hY H eb (by omega) (fun g1 G1 k1 => ?_))
  have k1' : g1 = tpW h tp c (fdB u1 u2 u3 u4 u5) (cq_I h c 9) 4 := by
    rw [k1]
    unfold tpW
    have : kpF (cq_I h tp) (cq_I h c 9) 4 (fun i => cx_and (cx_shr u1 (24 - 8 * i)) 255) = kpF (cq_I h tp) (cq_I h c 9) 4 (fdB u1 u2 u3 u4 u5) := by
      funext r
      unfold kpF
      split
      · rename_i w
        have := fdB_i (a := u1) (b := u2) (c := u3) (d := u4) (e := u5) 0 (by decide) (u := u1) (fun i i0 i1 => by unfold m_fsel; rw [if_pos (by omega)]) (r - cq_I h c 9) (by omega) (by omega)
        have e0 : 4 * ((0 : Nat) : Int) + (r - cq_I h c 9) = r - cq_I h c 9 := by omega
        rw [e0] at this
        exact this
      · rfl
    rw [this]
  have step : ∀ (j : Nat) (u : Int) (g g' : cx_Q), j < 5 → (∀ i, 0 ≤ i → i < 4 → m_fsel u1 u2 u3 u4 u5 (4 * (j : Int) + i) = u) → g = tpW h tp c (fdB u1 u2 u3 u4 u5) (cq_I h c 9) (4 * (j : Int)) → g' = tpW g tp c (fun i => cx_and (cx_shr u (24 - 8 * i)) 255) (cq_I g c 9) 4 → g' = tpW h tp c (fdB u1 u2 u3 u4 u5) (cq_I h c 9) (4 * (j : Int) + 4) := by
    intro j u g g' hj hu eg eg'
    rw [eg', eg, i9t]
    exact tpW_t (by omega) (by omega) ne (fdB_i j hj hu)
  clear k1
  have b1 : cq_A g1 c 8 = some tp := by rw [k1']; exact eb
  have t1 : cq_I g1 c 9 = cq_I h c 9 + 4 := by rw [k1', i9t]
  refine bx_X10_feed_20 hY (pf2_ok hY) ?_
  simp only [wp_iconst, wp_bipush, wp_sipush, wp_ldc, wp_ldc2_w, wp_lconst0, wp_lconst1, wp_aconst_null, wp_iload_0, wp_istore_0, wp_iload_1, wp_istore_1, wp_iload_2, wp_istore_2, wp_iload_3, wp_istore_3, wp_iload, wp_istore, wp_lload_0, wp_lstore_0, wp_lload_1, wp_lstore_1, wp_lload_2, wp_lstore_2, wp_lload_3, wp_lstore_3, wp_lload, wp_lstore, wp_aload_0, wp_astore_0, wp_aload_1, wp_astore_1, wp_aload_2, wp_astore_2, wp_aload_3, wp_astore_3, wp_aload, wp_astore, wp_iinc, wp_iadd, wp_isub, wp_imul, wp_iand, wp_ior, wp_ixor, wp_ishl, wp_ishr, wp_iushr, wp_irem, wp_ladd, wp_lsub, wp_lmul, wp_land, wp_lor, wp_lxor, wp_lshl, wp_lshr, wp_lushr, wp_lrem, wp_lcmp, wp_i2l, wp_l2i, wp_dupI, wp_dupA, wp_dup2J, wp_dup2IA, wp_popI, wp_popA, wp_pop2, wp_goto, wp_if_eq, wp_icmp_eq, wp_if_ne, wp_icmp_ne, wp_if_lt, wp_icmp_lt, wp_if_ge, wp_icmp_ge, wp_if_gt, wp_icmp_gt, wp_if_le, wp_icmp_le, wp_ifnull, wp_ifnonnull, wp_acmp_eq, wp_acmp_ne, wp_tableswitch, wp_get0, wp_put0, wp_get1, wp_put1, wp_get2, wp_put2, wp_get3, wp_put3, wp_new, wp_newarray, wp_anewarray, wp_alen, wp_iaload, wp_laload, wp_baload, wp_aaload, wp_iastore, wp_lastore, wp_bastore, wp_aastore, wp_return, wp_ireturnI, wp_ireturnZ, wp_lreturn, wp_areturnO, wp_areturnA, wp_max, wp_min, wp_obj, wp_virt, wp_nil, ld_I0, ld_Is, ld_J0, ld_Js, ld_A0, ld_As, ha_0, ha_s, cx_put1, cx_put2, cx_dl, cx_tgt, true_and, and_true, Nat.reduceAdd, Nat.reduceSub, Int.reduceAdd, Int.reduceNeg, Int.reduceToNat, Int.reduceSub, Int.cast_ofNat_Int, List.take_succ_cons, List.take_zero, List.drop_succ_cons, List.drop_zero, List.take_nil, List.drop_nil, Option.toList_some, Option.toList_none, List.cons_append, List.nil_append, wp_spec, ne_eq, Nat.reduceEqDiff, not_false_eq_true, true_or, or_true]
  refine cl_X10_putOnTape (Nat.le_of_ble_eq_true rfl) G1.cs (Nat.le_refl _) (Nat.le_refl _) (e_X10_putOnTape hY G1 b1 (by omega) (fun g2 G2 k2 => ?_))
  have k2' := step 1 u2 g1 g2 (by decide) (fun i i0 i1 => by unfold m_fsel; rw [if_neg (by omega), if_pos (by omega)]) k1' k2
  clear k2 k1'
  have b2 : cq_A g2 c 8 = some tp := by rw [k2']; exact eb
  have t2 : cq_I g2 c 9 = cq_I h c 9 + 8 := by rw [k2', i9t]; omega
  refine bx_X10_feed_25 hY (pf2_ok hY) ?_
  simp only [wp_iconst, wp_bipush, wp_sipush, wp_ldc, wp_ldc2_w, wp_lconst0, wp_lconst1, wp_aconst_null, wp_iload_0, wp_istore_0, wp_iload_1, wp_istore_1, wp_iload_2, wp_istore_2, wp_iload_3, wp_istore_3, wp_iload, wp_istore, wp_lload_0, wp_lstore_0, wp_lload_1, wp_lstore_1, wp_lload_2, wp_lstore_2, wp_lload_3, wp_lstore_3, wp_lload, wp_lstore, wp_aload_0, wp_astore_0, wp_aload_1, wp_astore_1, wp_aload_2, wp_astore_2, wp_aload_3, wp_astore_3, wp_aload, wp_astore, wp_iinc, wp_iadd, wp_isub, wp_imul, wp_iand, wp_ior, wp_ixor, wp_ishl, wp_ishr, wp_iushr, wp_irem, wp_ladd, wp_lsub, wp_lmul, wp_land, wp_lor, wp_lxor, wp_lshl, wp_lshr, wp_lushr, wp_lrem, wp_lcmp, wp_i2l, wp_l2i, wp_dupI, wp_dupA, wp_dup2J, wp_dup2IA, wp_popI, wp_popA, wp_pop2, wp_goto, wp_if_eq, wp_icmp_eq, wp_if_ne, wp_icmp_ne, wp_if_lt, wp_icmp_lt, wp_if_ge, wp_icmp_ge, wp_if_gt, wp_icmp_gt, wp_if_le, wp_icmp_le, wp_ifnull, wp_ifnonnull, wp_acmp_eq, wp_acmp_ne, wp_tableswitch, wp_get0, wp_put0, wp_get1, wp_put1, wp_get2, wp_put2, wp_get3, wp_put3, wp_new, wp_newarray, wp_anewarray, wp_alen, wp_iaload, wp_laload, wp_baload, wp_aaload, wp_iastore, wp_lastore, wp_bastore, wp_aastore, wp_return, wp_ireturnI, wp_ireturnZ, wp_lreturn, wp_areturnO, wp_areturnA, wp_max, wp_min, wp_obj, wp_virt, wp_nil, ld_I0, ld_Is, ld_J0, ld_Js, ld_A0, ld_As, ha_0, ha_s, cx_put1, cx_put2, cx_dl, cx_tgt, true_and, and_true, Nat.reduceAdd, Nat.reduceSub, Int.reduceAdd, Int.reduceNeg, Int.reduceToNat, Int.reduceSub, Int.cast_ofNat_Int, List.take_succ_cons, List.take_zero, List.drop_succ_cons, List.drop_zero, List.take_nil, List.drop_nil, Option.toList_some, Option.toList_none, List.cons_append, List.nil_append, wp_spec, ne_eq, Nat.reduceEqDiff, not_false_eq_true, true_or, or_true]
  refine cl_X10_putOnTape (Nat.le_of_ble_eq_true rfl) G2.cs (Nat.le_refl _) (Nat.le_refl _) (e_X10_putOnTape hY G2 b2 (by omega) (fun g3 G3 k3 => ?_))
  have k3' := step 2 u3 g2 g3 (by decide) (fun i i0 i1 => by unfold m_fsel; rw [if_neg (by omega), if_neg (by omega), if_pos (by omega)]) k2' k3
  clear k3 k2'
  have b3 : cq_A g3 c 8 = some tp := by rw [k3']; exact eb
  have t3 : cq_I g3 c 9 = cq_I h c 9 + 12 := by rw [k3', i9t]; omega
  refine bx_X10_feed_30 hY (pf2_ok hY) ?_
  simp only [wp_iconst, wp_bipush, wp_sipush, wp_ldc, wp_ldc2_w, wp_lconst0, wp_lconst1, wp_aconst_null, wp_iload_0, wp_istore_0, wp_iload_1, wp_istore_1, wp_iload_2, wp_istore_2, wp_iload_3, wp_istore_3, wp_iload, wp_istore, wp_lload_0, wp_lstore_0, wp_lload_1, wp_lstore_1, wp_lload_2, wp_lstore_2, wp_lload_3, wp_lstore_3, wp_lload, wp_lstore, wp_aload_0, wp_astore_0, wp_aload_1, wp_astore_1, wp_aload_2, wp_astore_2, wp_aload_3, wp_astore_3, wp_aload, wp_astore, wp_iinc, wp_iadd, wp_isub, wp_imul, wp_iand, wp_ior, wp_ixor, wp_ishl, wp_ishr, wp_iushr, wp_irem, wp_ladd, wp_lsub, wp_lmul, wp_land, wp_lor, wp_lxor, wp_lshl, wp_lshr, wp_lushr, wp_lrem, wp_lcmp, wp_i2l, wp_l2i, wp_dupI, wp_dupA, wp_dup2J, wp_dup2IA, wp_popI, wp_popA, wp_pop2, wp_goto, wp_if_eq, wp_icmp_eq, wp_if_ne, wp_icmp_ne, wp_if_lt, wp_icmp_lt, wp_if_ge, wp_icmp_ge, wp_if_gt, wp_icmp_gt, wp_if_le, wp_icmp_le, wp_ifnull, wp_ifnonnull, wp_acmp_eq, wp_acmp_ne, wp_tableswitch, wp_get0, wp_put0, wp_get1, wp_put1, wp_get2, wp_put2, wp_get3, wp_put3, wp_new, wp_newarray, wp_anewarray, wp_alen, wp_iaload, wp_laload, wp_baload, wp_aaload, wp_iastore, wp_lastore, wp_bastore, wp_aastore, wp_return, wp_ireturnI, wp_ireturnZ, wp_lreturn, wp_areturnO, wp_areturnA, wp_max, wp_min, wp_obj, wp_virt, wp_nil, ld_I0, ld_Is, ld_J0, ld_Js, ld_A0, ld_As, ha_0, ha_s, cx_put1, cx_put2, cx_dl, cx_tgt, true_and, and_true, Nat.reduceAdd, Nat.reduceSub, Int.reduceAdd, Int.reduceNeg, Int.reduceToNat, Int.reduceSub, Int.cast_ofNat_Int, List.take_succ_cons, List.take_zero, List.drop_succ_cons, List.drop_zero, List.take_nil, List.drop_nil, Option.toList_some, Option.toList_none, List.cons_append, List.nil_append, wp_spec, ne_eq, Nat.reduceEqDiff, not_false_eq_true, true_or, or_true]
  refine cl_X10_putOnTape (Nat.le_of_ble_eq_true rfl) G3.cs (Nat.le_refl _) (Nat.le_refl _) (e_X10_putOnTape hY G3 b3 (by omega) (fun g4 G4 k4 => ?_))
  have k4' := step 3 u4 g3 g4 (by decide) (fun i i0 i1 => by unfold m_fsel; rw [if_neg (by omega), if_neg (by omega), if_neg (by omega), if_pos (by omega)]) k3' k4
  clear k4 k3'
  have b4 : cq_A g4 c 8 = some tp := by rw [k4']; exact eb
  have t4 : cq_I g4 c 9 = cq_I h c 9 + 16 := by rw [k4', i9t]; omega
  refine bx_X10_feed_36 hY (pf2_ok hY) ?_
  simp only [wp_iconst, wp_bipush, wp_sipush, wp_ldc, wp_ldc2_w, wp_lconst0, wp_lconst1, wp_aconst_null, wp_iload_0, wp_istore_0, wp_iload_1, wp_istore_1, wp_iload_2, wp_istore_2, wp_iload_3, wp_istore_3, wp_iload, wp_istore, wp_lload_0, wp_lstore_0, wp_lload_1, wp_lstore_1, wp_lload_2, wp_lstore_2, wp_lload_3, wp_lstore_3, wp_lload, wp_lstore, wp_aload_0, wp_astore_0, wp_aload_1, wp_astore_1, wp_aload_2, wp_astore_2, wp_aload_3, wp_astore_3, wp_aload, wp_astore, wp_iinc, wp_iadd, wp_isub, wp_imul, wp_iand, wp_ior, wp_ixor, wp_ishl, wp_ishr, wp_iushr, wp_irem, wp_ladd, wp_lsub, wp_lmul, wp_land, wp_lor, wp_lxor, wp_lshl, wp_lshr, wp_lushr, wp_lrem, wp_lcmp, wp_i2l, wp_l2i, wp_dupI, wp_dupA, wp_dup2J, wp_dup2IA, wp_popI, wp_popA, wp_pop2, wp_goto, wp_if_eq, wp_icmp_eq, wp_if_ne, wp_icmp_ne, wp_if_lt, wp_icmp_lt, wp_if_ge, wp_icmp_ge, wp_if_gt, wp_icmp_gt, wp_if_le, wp_icmp_le, wp_ifnull, wp_ifnonnull, wp_acmp_eq, wp_acmp_ne, wp_tableswitch, wp_get0, wp_put0, wp_get1, wp_put1, wp_get2, wp_put2, wp_get3, wp_put3, wp_new, wp_newarray, wp_anewarray, wp_alen, wp_iaload, wp_laload, wp_baload, wp_aaload, wp_iastore, wp_lastore, wp_bastore, wp_aastore, wp_return, wp_ireturnI, wp_ireturnZ, wp_lreturn, wp_areturnO, wp_areturnA, wp_max, wp_min, wp_obj, wp_virt, wp_nil, ld_I0, ld_Is, ld_J0, ld_Js, ld_A0, ld_As, ha_0, ha_s, cx_put1, cx_put2, cx_dl, cx_tgt, true_and, and_true, Nat.reduceAdd, Nat.reduceSub, Int.reduceAdd, Int.reduceNeg, Int.reduceToNat, Int.reduceSub, Int.cast_ofNat_Int, List.take_succ_cons, List.take_zero, List.drop_succ_cons, List.drop_zero, List.take_nil, List.drop_nil, Option.toList_some, Option.toList_none, List.cons_append, List.nil_append, wp_spec, ne_eq, Nat.reduceEqDiff, not_false_eq_true, true_or, or_true]
  refine cl_X10_putOnTape (Nat.le_of_ble_eq_true rfl) G4.cs (Nat.le_refl _) (Nat.le_refl _) (e_X10_putOnTape hY G4 b4 (by omega) (fun g5 G5 k5 => ?_))
  have k5' := step 4 u5 g4 g5 (by decide) (fun i i0 i1 => by unfold m_fsel; rw [if_neg (by omega), if_neg (by omega), if_neg (by omega), if_neg (by omega)]) k4' k5
  clear k5 k4'
  have t5 : cq_I g5 c 9 = cq_I h c 9 + 20 := by rw [k5', i9t]; omega
  have gc := G5.cs
  refine bx_X10_feed_42 hY (pf2_ok hY) ?_
  simp only [wp_iconst, wp_bipush, wp_sipush, wp_ldc, wp_ldc2_w, wp_lconst0, wp_lconst1, wp_aconst_null, wp_iload_0, wp_istore_0, wp_iload_1, wp_istore_1, wp_iload_2, wp_istore_2, wp_iload_3, wp_istore_3, wp_iload, wp_istore, wp_lload_0, wp_lstore_0, wp_lload_1, wp_lstore_1, wp_lload_2, wp_lstore_2, wp_lload_3, wp_lstore_3, wp_lload, wp_lstore, wp_aload_0, wp_astore_0, wp_aload_1, wp_astore_1, wp_aload_2, wp_astore_2, wp_aload_3, wp_astore_3, wp_aload, wp_astore, wp_iinc, wp_iadd, wp_isub, wp_imul, wp_iand, wp_ior, wp_ixor, wp_ishl, wp_ishr, wp_iushr, wp_irem, wp_ladd, wp_lsub, wp_lmul, wp_land, wp_lor, wp_lxor, wp_lshl, wp_lshr, wp_lushr, wp_lrem, wp_lcmp, wp_i2l, wp_l2i, wp_dupI, wp_dupA, wp_dup2J, wp_dup2IA, wp_popI, wp_popA, wp_pop2, wp_goto, wp_if_eq, wp_icmp_eq, wp_if_ne, wp_icmp_ne, wp_if_lt, wp_icmp_lt, wp_if_ge, wp_icmp_ge, wp_if_gt, wp_icmp_gt, wp_if_le, wp_icmp_le, wp_ifnull, wp_ifnonnull, wp_acmp_eq, wp_acmp_ne, wp_tableswitch, wp_get0, wp_put0, wp_get1, wp_put1, wp_get2, wp_put2, wp_get3, wp_put3, wp_new, wp_newarray, wp_anewarray, wp_alen, wp_iaload, wp_laload, wp_baload, wp_aaload, wp_iastore, wp_lastore, wp_bastore, wp_aastore, wp_return, wp_ireturnI, wp_ireturnZ, wp_lreturn, wp_areturnO, wp_areturnA, wp_max, wp_min, wp_obj, wp_virt, wp_nil, ld_I0, ld_Is, ld_J0, ld_Js, ld_A0, ld_As, ha_0, ha_s, cx_put1, cx_put2, cx_dl, cx_tgt, true_and, and_true, Nat.reduceAdd, Nat.reduceSub, Int.reduceAdd, Int.reduceNeg, Int.reduceToNat, Int.reduceSub, Int.cast_ofNat_Int, List.take_succ_cons, List.take_zero, List.drop_succ_cons, List.drop_zero, List.take_nil, List.drop_nil, Option.toList_some, Option.toList_none, List.cons_append, List.nil_append, wp_spec, ne_eq, Nat.reduceEqDiff, not_false_eq_true, true_or, or_true, gc, t5]
  exact hK (by omega) g5 G5 k5'
theorem e_X10_end (hY : cY Y) {u : Int} (H : CI c n L Z E h0 [] h) (hN : ¬ (0 ≤ u ∧ u ≤ 20 ∧ 20 ≤ cq_I h c 9) → K (some (.inl (-1))) h) (hK : 0 ≤ u ∧ u ≤ 20 ∧ 20 ≤ cq_I h c 9 → ∀ g, CI c n L Z E h0 [] g → g = cq_sI h c 9 (cq_I h c 9 - 20 + u) → K (some (.inl (cq_I h c 9 - 20 + u))) g) : cw Y mi_X10_end K 0 [some (.inr (.inr (some c))), some (.inl u)] [] h 0 0 := by
  have hc := H.cs
  have i9 := H.i9_9 hc
  have j19 : ¬ (0 ≤ u ∧ u ≤ 20 ∧ 20 ≤ cq_I h c 9) → cw Y mi_X10_end K 19 [some (.inr (.inr (some c))), some (.inl u)] [] h 0 0 := by
    intro w
    refine bx_X10_end_19 hY (pf2_ok hY) ?_
    simp only [wp_iconst, wp_bipush, wp_sipush, wp_ldc, wp_ldc2_w, wp_lconst0, wp_lconst1, wp_aconst_null, wp_iload_0, wp_istore_0, wp_iload_1, wp_istore_1, wp_iload_2, wp_istore_2, wp_iload_3, wp_istore_3, wp_iload, wp_istore, wp_lload_0, wp_lstore_0, wp_lload_1, wp_lstore_1, wp_lload_2, wp_lstore_2, wp_lload_3, wp_lstore_3, wp_lload, wp_lstore, wp_aload_0, wp_astore_0, wp_aload_1, wp_astore_1, wp_aload_2, wp_astore_2, wp_aload_3, wp_astore_3, wp_aload, wp_astore, wp_iinc, wp_iadd, wp_isub, wp_imul, wp_iand, wp_ior, wp_ixor, wp_ishl, wp_ishr, wp_iushr, wp_irem, wp_ladd, wp_lsub, wp_lmul, wp_land, wp_lor, wp_lxor, wp_lshl, wp_lshr, wp_lushr, wp_lrem, wp_lcmp, wp_i2l, wp_l2i, wp_dupI, wp_dupA, wp_dup2J, wp_dup2IA, wp_popI, wp_popA, wp_pop2, wp_goto, wp_if_eq, wp_icmp_eq, wp_if_ne, wp_icmp_ne, wp_if_lt, wp_icmp_lt, wp_if_ge, wp_icmp_ge, wp_if_gt, wp_icmp_gt, wp_if_le, wp_icmp_le, wp_ifnull, wp_ifnonnull, wp_acmp_eq, wp_acmp_ne, wp_tableswitch, wp_get0, wp_put0, wp_get1, wp_put1, wp_get2, wp_put2, wp_get3, wp_put3, wp_new, wp_newarray, wp_anewarray, wp_alen, wp_iaload, wp_laload, wp_baload, wp_aaload, wp_iastore, wp_lastore, wp_bastore, wp_aastore, wp_return, wp_ireturnI, wp_ireturnZ, wp_lreturn, wp_areturnO, wp_areturnA, wp_max, wp_min, wp_obj, wp_virt, wp_nil, ld_I0, ld_Is, ld_J0, ld_Js, ld_A0, ld_As, ha_0, ha_s, cx_put1, cx_put2, cx_dl, cx_tgt, true_and, and_true, Nat.reduceAdd, Nat.reduceSub, Int.reduceAdd, Int.reduceNeg, Int.reduceToNat, Int.reduceSub, Int.cast_ofNat_Int, List.take_succ_cons, List.take_zero, List.drop_succ_cons, List.drop_zero, List.take_nil, List.drop_nil, Option.toList_some, Option.toList_none, List.cons_append, List.nil_append, wp_spec, ne_eq, Nat.reduceEqDiff, not_false_eq_true, true_or, or_true]
    exact hN w
  refine bx_X10_end_0 hY (pf2_ok hY) ?_
  simp only [wp_iconst, wp_bipush, wp_sipush, wp_ldc, wp_ldc2_w, wp_lconst0, wp_lconst1, wp_aconst_null, wp_iload_0, wp_istore_0, wp_iload_1, wp_istore_1, wp_iload_2, wp_istore_2, wp_iload_3, wp_istore_3, wp_iload, wp_istore, wp_lload_0, wp_lstore_0, wp_lload_1, wp_lstore_1, wp_lload_2, wp_lstore_2, wp_lload_3, wp_lstore_3, wp_lload, wp_lstore, wp_aload_0, wp_astore_0, wp_aload_1, wp_astore_1, wp_aload_2, wp_astore_2, wp_aload_3, wp_astore_3, wp_aload, wp_astore, wp_iinc, wp_iadd, wp_isub, wp_imul, wp_iand, wp_ior, wp_ixor, wp_ishl, wp_ishr, wp_iushr, wp_irem, wp_ladd, wp_lsub, wp_lmul, wp_land, wp_lor, wp_lxor, wp_lshl, wp_lshr, wp_lushr, wp_lrem, wp_lcmp, wp_i2l, wp_l2i, wp_dupI, wp_dupA, wp_dup2J, wp_dup2IA, wp_popI, wp_popA, wp_pop2, wp_goto, wp_if_eq, wp_icmp_eq, wp_if_ne, wp_icmp_ne, wp_if_lt, wp_icmp_lt, wp_if_ge, wp_icmp_ge, wp_if_gt, wp_icmp_gt, wp_if_le, wp_icmp_le, wp_ifnull, wp_ifnonnull, wp_acmp_eq, wp_acmp_ne, wp_tableswitch, wp_get0, wp_put0, wp_get1, wp_put1, wp_get2, wp_put2, wp_get3, wp_put3, wp_new, wp_newarray, wp_anewarray, wp_alen, wp_iaload, wp_laload, wp_baload, wp_aaload, wp_iastore, wp_lastore, wp_bastore, wp_aastore, wp_return, wp_ireturnI, wp_ireturnZ, wp_lreturn, wp_areturnO, wp_areturnA, wp_max, wp_min, wp_obj, wp_virt, wp_nil, ld_I0, ld_Is, ld_J0, ld_Js, ld_A0, ld_As, ha_0, ha_s, cx_put1, cx_put2, cx_dl, cx_tgt, true_and, and_true, Nat.reduceAdd, Nat.reduceSub, Int.reduceAdd, Int.reduceNeg, Int.reduceToNat, Int.reduceSub, Int.cast_ofNat_Int, List.take_succ_cons, List.take_zero, List.drop_succ_cons, List.drop_zero, List.take_nil, List.drop_nil, Option.toList_some, Option.toList_none, List.cons_append, List.nil_append, wp_spec, ne_eq, Nat.reduceEqDiff, not_false_eq_true, true_or, or_true, hc]
  refine ⟨fun q => j19 (by omega), fun q => ⟨fun q2 => j19 (by omega), fun q2 => ⟨fun q3 => ?_, fun q3 => j19 (by omega)⟩⟩⟩
  refine bx_X10_end_21 hY (pf2_ok hY) ?_
  simp only [wp_iconst, wp_bipush, wp_sipush, wp_ldc, wp_ldc2_w, wp_lconst0, wp_lconst1, wp_aconst_null, wp_iload_0, wp_istore_0, wp_iload_1, wp_istore_1, wp_iload_2, wp_istore_2, wp_iload_3, wp_istore_3, wp_iload, wp_istore, wp_lload_0, wp_lstore_0, wp_lload_1, wp_lstore_1, wp_lload_2, wp_lstore_2, wp_lload_3, wp_lstore_3, wp_lload, wp_lstore, wp_aload_0, wp_astore_0, wp_aload_1, wp_astore_1, wp_aload_2, wp_astore_2, wp_aload_3, wp_astore_3, wp_aload, wp_astore, wp_iinc, wp_iadd, wp_isub, wp_imul, wp_iand, wp_ior, wp_ixor, wp_ishl, wp_ishr, wp_iushr, wp_irem, wp_ladd, wp_lsub, wp_lmul, wp_land, wp_lor, wp_lxor, wp_lshl, wp_lshr, wp_lushr, wp_lrem, wp_lcmp, wp_i2l, wp_l2i, wp_dupI, wp_dupA, wp_dup2J, wp_dup2IA, wp_popI, wp_popA, wp_pop2, wp_goto, wp_if_eq, wp_icmp_eq, wp_if_ne, wp_icmp_ne, wp_if_lt, wp_icmp_lt, wp_if_ge, wp_icmp_ge, wp_if_gt, wp_icmp_gt, wp_if_le, wp_icmp_le, wp_ifnull, wp_ifnonnull, wp_acmp_eq, wp_acmp_ne, wp_tableswitch, wp_get0, wp_put0, wp_get1, wp_put1, wp_get2, wp_put2, wp_get3, wp_put3, wp_new, wp_newarray, wp_anewarray, wp_alen, wp_iaload, wp_laload, wp_baload, wp_aaload, wp_iastore, wp_lastore, wp_bastore, wp_aastore, wp_return, wp_ireturnI, wp_ireturnZ, wp_lreturn, wp_areturnO, wp_areturnA, wp_max, wp_min, wp_obj, wp_virt, wp_nil, ld_I0, ld_Is, ld_J0, ld_Js, ld_A0, ld_As, ha_0, ha_s, cx_put1, cx_put2, cx_dl, cx_tgt, true_and, and_true, Nat.reduceAdd, Nat.reduceSub, Int.reduceAdd, Int.reduceNeg, Int.reduceToNat, Int.reduceSub, Int.cast_ofNat_Int, List.take_succ_cons, List.take_zero, List.drop_succ_cons, List.drop_zero, List.take_nil, List.drop_nil, Option.toList_some, Option.toList_none, List.cons_append, List.nil_append, wp_spec, ne_eq, Nat.reduceEqDiff, not_false_eq_true, true_or, or_true, hc, mm_sI, mm_sJ, mm_sA, mm_IJ, mm_IA, mm_JI, mm_JA, mm_AI, mm_AJ, mm_ssI, mm_ssJ, mm_ssA, mm_zI, mm_zJ, mm_zA, mm_nI, mm_nJ, mm_nA, Nat.left_eq_add, Nat.add_eq_left, Nat.add_left_cancel_iff, Nat.reduceEqDiff, Int.reduceEq, false_and, and_false, if_false, if_true, and_self, true_and, true_or, or_true, false_or, or_false, cx_rg]
  exact ⟨by omega, by omega, hK (by omega) _ (H.sI hc (own_9 (by decide)) ⟨by omega, by omega⟩ rfl) rfl⟩
/-- the reference's tape -/
theorem m_fd_q {a b c d e : Int} : ∀ (r : Nat) {k : Int} {g : cx_Q}, cq_I (m_fd x a b c d e r k g) x 68 = cq_I g x 68 + r ∧ (∀ j, cq_I (m_fd x a b c d e r k g) (x + 61) j = kpF (cq_I g (x + 61)) (cq_I g x 68) r (fun i => fdB a b c d e (k + i)) j) ∧ (∀ i j, ¬ (i = x ∧ j = 68) → i ≠ x + 61 → cq_I (m_fd x a b c d e r k g) i j = cq_I g i j) ∧ cq_J (m_fd x a b c d e r k g) = cq_J g
  | 0, k, g => by
    rw [m_fd]
    refine ⟨by omega, fun j => ?_, fun _ _ _ _ => rfl, rfl⟩
    have := congrFun (kpF_0 (f := cq_I g (x + 61)) (sz := cq_I g x 68) (v := fun i => fdB a b c d e (k + i))) j
    exact this.symm
  | r + 1, k, g => by
    rw [m_fd]
    obtain ⟨h1, h2, h3, h4⟩ := m_fd_q (a := a) (b := b) (c := c) (d := d) (e := e) r (k := k + 1) (g := m_fd1 g x (m_fsel a b c d e k) k)
    have e68 : cq_I (m_fd1 g x (m_fsel a b c d e k) k) x 68 = cq_I g x 68 + 1 := m_fd1_68
    have e61 : ∀ j, cq_I (m_fd1 g x (m_fsel a b c d e k) k) (x + 61) j = if j = cq_I g x 68 then fdB a b c d e k else cq_I g (x + 61) j := by
      intro j
      unfold m_fd1 fdB
      rw [mm_sI, if_neg (fun e => by omega), mm_sI]
      by_cases w : j = cq_I g x 68
      · rw [if_pos ⟨rfl, w⟩, if_pos w]
      · rw [if_neg (fun e => w e.2), if_neg w]
    refine ⟨by rw [h1, e68]; omega, fun j => ?_, fun i j w1 w2 => ?_, ?_⟩
    · rw [h2, e68]
      unfold kpF
      by_cases w : j = cq_I g x 68
      · have e1 : k + (j - cq_I g x 68) = k := by omega
        rw [if_neg (by omega), e61, if_pos w, if_pos (by omega)]
        dsimp only
        rw [e1]
      · by_cases w2 : cq_I g x 68 + 1 ≤ j ∧ j < cq_I g x 68 + 1 + (r : Int)
        · have e1 : k + 1 + (j - (cq_I g x 68 + 1)) = k + (j - cq_I g x 68) := by omega
          rw [if_pos w2, if_pos (by omega)]
          dsimp only
          rw [e1]
        · rw [if_neg w2, e61, if_neg w, if_neg (by omega)]
    · rw [h3 i j w1 w2]
      unfold m_fd1
      rw [mm_sI, if_neg w1, mm_sI, if_neg (fun e => w2 e.1)]
    · rw [h4]; rfl
theorem fx_feed (F : FX c x n pe ro pa lb tp rd en op ob T Lf h g) {a b c' d e : Int} (hc : cq_s h c = 9) : FX c x n pe ro pa lb tp rd en op ob T Lf (tpW h tp c (fdB a b c' d e) (cq_I h c 9) 20) (m_fd x a b c' d e 20 0 g) := by
  obtain ⟨q1, q2, q3, q4⟩ := m_fd_q (x := x) (a := a) (b := b) (c := c') (d := d) (e := e) 20 (k := 0) (g := g)
  have fs := F.fs
  have ne : tp ≠ c := ns fs.s1 fs.s0 (by decide)
  have ex : evx (fun a => a = c ∨ a = tp) h (tpW h tp c (fdB a b c' d e) (cq_I h c 9) 20) := (evx.refl.rI (Or.inr rfl)).sI (Or.inl rfl)
  have gx : ∀ j, j ≠ 68 → cq_I (m_fd x a b c' d e 20 0 g) x j = cq_I g x j := fun j w => q3 x j (fun e => w e.2) (by omega)
  have cI : ∀ j, j ≠ 9 → cq_I (tpW h tp c (fdB a b c' d e) (cq_I h c 9) 20) c j = cq_I h c j := fun j w => by
    unfold tpW
    rw [mm_sI, if_neg (fun e => w e.2), rr_I, if_neg (fun e => ne e.symm)]
  refine F.upS ex (fun o _ => o = 61) (fun o j _ _ _ w => ⟨q3 (x + o) j (fun e => by omega) (by omega), by rw [q4]⟩) (fun a w => ?_) (fun o j w => Or.inl w) rfl rfl (gx 0 (by decide)) (gx 72 (by decide)) ?_
  · rcases w with rfl | rfl
    · rw [fs.s0]; rfl
    · rw [fs.s1]; rfl
  refine ⟨fs.s0, fs.s1, fs.s2, fs.a8, fs.a10, by rw [cI 2 (by decide), gx 72 (by decide)]; exact fs.lc, by rw [cI 3 (by decide), gx 73 (by decide)]; exact fs.cc, by rw [cI 4 (by decide), gx 63 (by decide)]; exact fs.bc, by rw [cI 5 (by decide), gx 85 (by decide)]; exact fs.mc, by rw [cI 6 (by decide), gx 84 (by decide)]; exact fs.oc, by rw [cI 7 (by decide), gx 86 (by decide)]; exact fs.kc, ?_, by rw [cI 11 (by decide), gx 75 (by decide)]; exact fs.rc, fun k k0 k1 => ?_, fun k k0 k1 => ?_, fun k k0 k1 => ?_⟩
  · rw [q1, ← fs.tc]
    unfold tpW
    rw [mm_sI, if_pos ⟨rfl, rfl⟩]
    rfl
  · rw [q1] at k1
    rw [q2]
    unfold tpW
    rw [mm_sI, if_neg (fun e => ne e.1), rr_I, if_pos rfl, ← fs.tc]
    rw [← fs.tc] at k1
    unfold kpF
    by_cases w : cq_I h c 9 ≤ k ∧ k < cq_I h c 9 + 20
    · rw [if_pos w, if_pos (by omega)]
      dsimp only
      rw [Int.zero_add]
    · rw [if_neg w, if_neg (by omega)]
      exact fs.tp_ k k0 (by rw [← fs.tc]; omega)
  · rw [gx 75 (by decide)] at k1
    rw [q3 (x + 65) k (fun e => by omega) (by omega)]
    unfold tpW
    rw [mm_sI, if_neg (fun e => ns fs.s2 fs.s0 (by decide) e.1), rr_I, if_neg (ns fs.s2 fs.s1 (by decide))]
    exact fs.rd_ k k0 k1
  · rw [q1] at k1
    rw [q2]
    unfold kpF
    by_cases w : cq_I g x 68 ≤ k ∧ k < cq_I g x 68 + ((20 : Nat) : Int)
    · rw [if_pos w]
      unfold fdB
      exact and255
    · rw [if_neg w]
      exact fs.tb k k0 (by omega)
/-- an int of the object, and of the reference, that tells of neither tape, letters nor what was read -/
theorem fx_end (F : FX c x n pe ro pa lb tp rd en op ob T Lf h g) {v : Int} (hv : v ≤ cq_I g x 68) : FX c x n pe ro pa lb tp rd en op ob T Lf (cq_sI h c 9 v) (cq_sI g x 68 v) := by
  have fs := F.fs
  have ex : evx (fun a => a = c) h (cq_sI h c 9 v) := evx.refl.sI rfl
  have cI : ∀ j, j ≠ 9 → cq_I (cq_sI h c 9 v) c j = cq_I h c j := fun j w => by rw [mm_sI, if_neg (fun e => w e.2)]
  have gx : ∀ j, j ≠ 68 → cq_I (cq_sI g x 68 v) x j = cq_I g x j := fun j w => by rw [mm_sI, if_neg (fun e => w e.2)]
  refine F.upS ex (fun o _ => False) (fun o j w _ _ _ => ⟨by rw [mm_sI, if_neg (fun e => by omega)], rfl⟩) (fun a w => by rw [w, fs.s0]; rfl) (fun o j w => w.elim) rfl rfl (gx 0 (by decide)) (gx 72 (by decide)) ?_
  refine ⟨fs.s0, fs.s1, fs.s2, fs.a8, fs.a10, by rw [cI 2 (by decide), gx 72 (by decide)]; exact fs.lc, by rw [cI 3 (by decide), gx 73 (by decide)]; exact fs.cc, by rw [cI 4 (by decide), gx 63 (by decide)]; exact fs.bc, by rw [cI 5 (by decide), gx 85 (by decide)]; exact fs.mc, by rw [cI 6 (by decide), gx 84 (by decide)]; exact fs.oc, by rw [cI 7 (by decide), gx 86 (by decide)]; exact fs.kc, by rw [mm_sI, if_pos ⟨rfl, rfl⟩, mm_sI, if_pos ⟨rfl, rfl⟩], by rw [cI 11 (by decide), gx 75 (by decide)]; exact fs.rc, fun k k0 k1 => ?_, fun k k0 k1 => ?_, fun k k0 k1 => ?_⟩
  · rw [mm_sI, if_pos ⟨rfl, rfl⟩] at k1
    rw [mm_sI, if_neg (fun e => ns fs.s1 fs.s0 (by decide) e.1), mm_sI, if_neg (fun e => by omega)]
    exact fs.tp_ k k0 (by omega)
  · rw [gx 75 (by decide)] at k1
    rw [mm_sI, if_neg (fun e => ns fs.s2 fs.s0 (by decide) e.1), mm_sI, if_neg (fun e => by omega)]
    exact fs.rd_ k k0 k1
  · rw [mm_sI, if_pos ⟨rfl, rfl⟩] at k1
    rw [mm_sI, if_neg (fun e => by omega)]
    exact fs.tb k k0 (by omega)
end
/-! class and reference side by side: a user's keys -/
section
variable {c x : Nat} {n : Int} {pe : Int → Nat} {ro : Int → Int → Nat} {pa lb tp rd en op ob : Nat} {T Lf : Int → Nat} {h g h' g' : cx_Q} {P : Nat → Prop}
/-- the cells of a user -/
def ucl (p a : Nat) : Prop := a = p ∨ a = p + 1 ∨ a = p + 2 ∨ a = p + 3 ∨ a = p + 4 ∨ a = p + 5
theorem FU.cl {p a : Nat} {u : Int} (F : FU x p u h g) (q : ucl p a) : cq_s h a = 4 ∨ cq_s h a = 176 ∨ cq_s h a = 177 ∨ cq_s h a = 178 ∨ cq_s h a = 179 ∨ cq_s h a = 180 := by
  rcases q with rfl | rfl | rfl | rfl | rfl | rfl
  · exact Or.inl F.s0
  · exact Or.inr (Or.inl F.s1)
  · exact Or.inr (Or.inr (Or.inl F.s2))
  · exact Or.inr (Or.inr (Or.inr (Or.inl F.s3)))
  · exact Or.inr (Or.inr (Or.inr (Or.inr (Or.inl F.s4))))
  · exact Or.inr (Or.inr (Or.inr (Or.inr (Or.inr F.s5))))
/-- the cells of two users are not the same -/
theorem FU.ne {p q a : Nat} {u w : Int} (F : FU x p u h g) (G : FU x q w h g) (ne : p ≠ q) (h1 : ucl p a) (h2 : ucl q a) : False := by
  have f0 := F.s0
  have f1 := F.s1
  have f2 := F.s2
  have f3 := F.s3
  have f4 := F.s4
  have f5 := F.s5
  have g0 := G.s0
  have g1 := G.s1
  have g2 := G.s2
  have g3 := G.s3
  have g4 := G.s4
  have g5 := G.s5
  rcases h1 with e | e | e | e | e | e <;> rcases h2 with e' | e' | e' | e' | e' | e' <;> first | omega | (rw [← e, e'] at f0; omega) | (rw [← e, e'] at f1; omega) | (rw [← e, e'] at f2; omega) | (rw [← e, e'] at f3; omega) | (rw [← e, e'] at f4; omega) | (rw [← e, e'] at f5; omega)
/-- of one user alone something is other -/
theorem FX.upU (F : FX c x n pe ro pa lb tp rd en op ob T Lf h g) {u0 : Int} (hu : 0 ≤ u0 ∧ u0 < n) (e : evx P h h') (hP : ∀ a, P a → ucl (pe u0) a) (eg : eqR x (inU u0) g g') (ex : ∀ j, (j = 0 ∨ j = 63 ∨ j = 68 ∨ j = 72 ∨ j = 73 ∨ j = 75 ∨ j = 84 ∨ j = 85 ∨ j = 86) → cq_I g' x j = cq_I g x j) (e13 : cq_A h' (pe u0) 13 = cq_A h (pe u0) 13) (fu : FU x (pe u0) u0 h' g') : FX c x n pe ro pa lb tp rd en op ob T Lf h' g' := by
  have fu0 := F.fu u0 hu.1 hu.2
  have nP : ∀ {a k : Nat}, cq_s h a = k → (k ≠ 4 ∧ k ≠ 176 ∧ k ≠ 177 ∧ k ≠ 178 ∧ k ≠ 179 ∧ k ≠ 180) → ¬ P a := by
    intro a k q w hp
    have := fu0.cl (hP a hp)
    omega
  have gS : ∀ {s : Int} o j, inS s o j → cq_I g' (x + o) j = cq_I g (x + o) j ∧ cq_J g' (x + o) j = cq_J g (x + o) j := fun {s} o j w => by
    obtain ⟨q1, q2, q3⟩ := inS_r w
    exact eg o j q1 q2 q3 (fun z => by unfold inS at w; unfold inU at z; omega)
  have g29 : ∀ j, cq_I g' (x + 29) j = cq_I g (x + 29) j := fun j => (eg 29 j (by decide) (by decide) (by decide) (fun z => by unfold inU at z; omega)).1
  have g30 : ∀ j, cq_I g' (x + 30) j = cq_I g (x + 30) j := fun j => (eg 30 j (by decide) (by decide) (by decide) (fun z => by unfold inU at z; omega)).1
  have g61 : ∀ j, cq_I g' (x + 61) j = cq_I g (x + 61) j := fun j => (eg 61 j (by decide) (by decide) (by decide) (fun z => by unfold inU at z; omega)).1
  have g62 : ∀ j, cq_I g' (x + 62) j = cq_I g (x + 62) j := fun j => (eg 62 j (by decide) (by decide) (by decide) (fun z => by unfold inU at z; omega)).1
  have g63 : ∀ j, cq_I g' (x + 63) j = cq_I g (x + 63) j := fun j => (eg 63 j (by decide) (by decide) (by decide) (fun z => by unfold inU at z; omega)).1
  have g65 : ∀ j, cq_I g' (x + 65) j = cq_I g (x + 65) j := fun j => (eg 65 j (by decide) (by decide) (by decide) (fun z => by unfold inU at z; omega)).1
  have e72 := ex 72 (by omega)
  have eA := e.A F.fs.s0 rfl (nP F.fs.s0 (by decide))
  refine ⟨F.fs.ex e (nP F.fs.s0 (by decide)) (nP F.fs.s1 (by decide)) (nP F.fs.s2 (by decide)) (fun j w => ex j (by omega)) g61 g65, F.n26, by rw [ex 0 (by omega)]; exact F.nn, by rw [eA]; exact F.a0, e.s F.s0 (by decide), by rw [eA]; exact F.a1, e.s F.s1 (by decide), by rw [eA]; exact F.a12, e.s F.s12 (by decide), by rw [eA]; exact F.a13, e.s F.s13 (by decide), by rw [e.A F.s13 rfl (nP F.s13 (by decide))]; exact F.aob, e.s F.sob (by decide), fun u u0 u1 => ?_, fun u v0 v1 => ?_, fun u v u0 u1 v0 v1 => ?_, fun u v0 v1 => ?_, fun u v u0 u1 v0 v1 => ?_, by rw [e72]; exact F.l80, fun l l0 l1 => ?_, by rw [e72]; exact F.li, F.pi, F.ri, ?_⟩
  · rw [e.A F.s0 rfl (nP F.s0 (by decide))]
    exact F.pa_ u u0 u1
  · have r := F.r13 u v0 v1
    by_cases w : u = u0
    · rw [w, e13]
      rw [w] at r
      exact ⟨r.1, e.s r.2 (by decide)⟩
    · have f := F.fu u v0 v1
      rw [e.A f.s0 rfl (fun z => f.ne fu0 (F.pi u u0 v0 v1 hu.1 hu.2 w) (Or.inl rfl) (hP _ z))]
      exact ⟨r.1, e.s r.2 (by decide)⟩
  · have r := F.r13 u u0 u1
    rw [e.A r.2 rfl (nP r.2 (by decide))]
    exact F.ra u v u0 u1 v0 v1
  · by_cases w : u = u0
    · rw [w]; exact fu
    · have f := F.fu u v0 v1
      have ne := F.pi u u0 v0 v1 hu.1 hu.2 w
      have nn : ∀ {a : Nat}, ucl (pe u) a → ¬ P a := fun q z => f.ne fu0 ne q (hP _ z)
      refine f.ex e (nn (Or.inl rfl)) (nn (Or.inr (Or.inl rfl))) (nn (Or.inr (Or.inr (Or.inl rfl)))) (nn (Or.inr (Or.inr (Or.inr (Or.inl rfl))))) (nn (Or.inr (Or.inr (Or.inr (Or.inr (Or.inl rfl)))))) (nn (Or.inr (Or.inr (Or.inr (Or.inr (Or.inr rfl)))))) (fun o j z => ?_)
      obtain ⟨q1, q2, q3⟩ := inU_r z
      exact eg o j q1 q2 q3 (fun z2 => by unfold inU at z z2; omega)
  · have fo := F.fo u v u0 u1 v0 v1
    refine fo.ex e (nP fo.s0 (by decide)) (nP fo.s1 (by decide)) (fun j => g29 _) (g30 _) (fun i i0 i1 => ?_)
    have sr := fo.ss i i0 i1
    exact sr.ex e (nP sr.s0 (by decide)) (nP sr.s1 (by decide)) (nP sr.s2 (by decide)) (nP sr.s3 (by decide)) (nP sr.s4 (by decide)) gS
  · rw [e72] at l1
    obtain ⟨f1, f2⟩ := F.fl l l0 l1
    rw [e.A F.s1 rfl (nP F.s1 (by decide))]
    exact ⟨f1, f2.ex e (nP f2.s0 (by decide)) (nP f2.s1 (by decide)) (g63 l) (fun k _ _ => g62 _)⟩
  · intro u v u' v' i j u0 u1 v0 v1 u0' u1' v0' v1' i0 i1 j0 j1
    rw [g30] at i1 j1
    rw [g29, g29]
    exact F.ti u v u' v' i j u0 u1 v0 v1 u0' u1' v0' v1' i0 i1 j0 j1
/-- what the reference's lending writes -/
theorem lend_I {u : Int} {o : Nat} {j : Int} (ho : 1 ≤ o) : cq_I (m_lend g x u) (x + o) j = if o = 12 ∧ j = u then cq_I g (x + 12) u + 1 + 1 else if o = 16 ∧ j = u then cq_I g (x + 16) u + 1 else cq_I g (x + o) j := by
  unfold m_lend m_lend3 m_lend2 m_lend1 m_draw
  simp only [mm_sI, mm_sJ, mm_sA, mm_IJ, mm_IA, mm_JI, mm_JA, mm_AI, mm_AJ, mm_ssI, mm_ssJ, mm_ssA, mm_zI, mm_zJ, mm_zA, mm_nI, mm_nJ, mm_nA, Nat.left_eq_add, Nat.add_eq_left, Nat.add_left_cancel_iff, Nat.reduceEqDiff, Int.reduceEq, false_and, and_false, if_false, if_true, and_self, true_and, true_or, or_true, false_or, or_false]
  by_cases w : o = 12 ∧ j = u
  · rw [if_pos w, if_pos w]
  · simp only [w, if_false]
theorem lend_x {u j : Int} : cq_I (m_lend g x u) x j = cq_I g x j := by
  unfold m_lend m_lend3 m_lend2 m_lend1 m_draw
  simp only [mm_sI, mm_sJ, mm_sA, mm_IJ, mm_IA, mm_JI, mm_JA, mm_AI, mm_AJ, mm_ssI, mm_ssJ, mm_ssA, mm_zI, mm_zJ, mm_zA, mm_nI, mm_nJ, mm_nA, Nat.left_eq_add, Nat.add_eq_left, Nat.add_left_cancel_iff, Nat.reduceEqDiff, Int.reduceEq, false_and, and_false, if_false, if_true, and_self, true_and, true_or, or_true, false_or, or_false]
theorem lend_J {u : Int} {o : Nat} {j : Int} (ho : 1 ≤ o) : cq_J (m_lend g x u) (x + o) j = if o = 22 ∧ j = u then seP (dV (cq_J g (x + 1) u) (cq_I g (x + 12) u + 1)) (dO (cq_J g (x + 1) u) (cq_I g (x + 12) u + 1)) (dO (cq_J g (x + 1) u) (cq_I g (x + 12) u)) (cq_J g (x + 13) u) else if o = 21 ∧ j = u then dO (cq_J g (x + 1) u) (cq_I g (x + 12) u + 1) else if o = 20 ∧ j = u then dO (cq_J g (x + 1) u) (cq_I g (x + 12) u) else if o = 18 ∧ j = 21 * u + (cq_I g (x + 16) u + 1) then dO (cq_J g (x + 1) u) (cq_I g (x + 12) u) else if o = 17 ∧ j = 21 * u + (cq_I g (x + 16) u + 1) then dV (cq_J g (x + 1) u) (cq_I g (x + 12) u) else cq_J g (x + o) j := by
  have o0 : ¬ o = 0 := by omega
  unfold m_lend m_lend3 m_lend2 m_lend1 m_draw seP dO dV
  simp only [mm_sI, mm_sJ, mm_sA, mm_IJ, mm_IA, mm_JI, mm_JA, mm_AI, mm_AJ, mm_ssI, mm_ssJ, mm_ssA, mm_zI, mm_zJ, mm_zA, mm_nI, mm_nJ, mm_nA, Nat.left_eq_add, Nat.add_eq_left, Nat.add_left_cancel_iff, Nat.reduceEqDiff, Int.reduceEq, false_and, and_false, if_false, if_true, and_self, true_and, true_or, or_true, false_or, or_false, o0]
theorem lend_Io {u : Int} {o : Nat} {j : Int} (ho : 1 ≤ o) (h1 : o ≠ 12) (h2 : o ≠ 16) : cq_I (m_lend g x u) (x + o) j = cq_I g (x + o) j := by
  rw [lend_I ho, if_neg (fun z => h1 z.1), if_neg (fun z => h2 z.1)]
theorem lend_Jo {u : Int} {o : Nat} {j : Int} (ho : 1 ≤ o) (h1 : o ≠ 17 ∧ o ≠ 18 ∧ o ≠ 20 ∧ o ≠ 21 ∧ o ≠ 22) : cq_J (m_lend g x u) (x + o) j = cq_J g (x + o) j := by
  rw [lend_J ho, if_neg (fun z => h1.2.2.2.2 z.1), if_neg (fun z => h1.2.2.2.1 z.1), if_neg (fun z => h1.2.2.1 z.1), if_neg (fun z => h1.2.1 z.1), if_neg (fun z => h1.1 z.1)]
end
/-! class and reference side by side: register, rotate, forge -/
theorem dO_rg {s : Int64} {d : Int} : 0 < uu (dO s d) ∧ uu (dO s d) < 2305843009213693951 := f_power_3 _
theorem dV_rg {s : Int64} {d : Int} : uu (dV s d) < 2305843009213693952 := by
  have := f_asSecret_lt (f_mix s (Int64.ofInt (d + 1)))
  unfold dV
  omega
section
variable {c x : Nat} {n : Int} {pe : Int → Nat} {ro : Int → Int → Nat} {pa lb tp rd en op ob : Nat} {T Lf : Int → Nat} {h g h' g' : cx_Q} {P : Nat → Prop}
/-- what the reference's lending tells -/
def LQ (x : Nat) (u : Int) (g g' : cx_Q) : Prop := (∀ j, cq_I g' x j = cq_I g x j) ∧ (∀ o j, 1 ≤ o → ¬ ((o = 12 ∨ o = 16) ∧ j = u) → cq_I g' (x + o) j = cq_I g (x + o) j) ∧ (cq_I g' (x + 12) u = cq_I g (x + 12) u + 1 + 1) ∧ (cq_I g' (x + 16) u = cq_I g (x + 16) u + 1) ∧ (∀ o j, 1 ≤ o → ¬ ((o = 20 ∨ o = 21 ∨ o = 22) ∧ j = u) → ¬ ((o = 17 ∨ o = 18) ∧ j = 21 * u + (cq_I g (x + 16) u + 1)) → cq_J g' (x + o) j = cq_J g (x + o) j) ∧ (cq_J g' (x + 17) (21 * u + (cq_I g (x + 16) u + 1)) = dV (cq_J g (x + 1) u) (cq_I g (x + 12) u)) ∧ (cq_J g' (x + 18) (21 * u + (cq_I g (x + 16) u + 1)) = dO (cq_J g (x + 1) u) (cq_I g (x + 12) u)) ∧ (cq_J g' (x + 20) u = dO (cq_J g (x + 1) u) (cq_I g (x + 12) u)) ∧ (cq_J g' (x + 21) u = dO (cq_J g (x + 1) u) (cq_I g (x + 12) u + 1)) ∧ (cq_J g' (x + 22) u = seP (dV (cq_J g (x + 1) u) (cq_I g (x + 12) u + 1)) (dO (cq_J g (x + 1) u) (cq_I g (x + 12) u + 1)) (dO (cq_J g (x + 1) u) (cq_I g (x + 12) u)) (cq_J g (x + 13) u))
theorem LQ.x_ {x : Nat} {u : Int} {g g' : cx_Q} (F_ : LQ x u g g') : ∀ j, cq_I g' x j = cq_I g x j := F_.1
theorem LQ.I_ {x : Nat} {u : Int} {g g' : cx_Q} (F_ : LQ x u g g') : ∀ o j, 1 ≤ o → ¬ ((o = 12 ∨ o = 16) ∧ j = u) → cq_I g' (x + o) j = cq_I g (x + o) j := F_.2.1
theorem LQ.i12 {x : Nat} {u : Int} {g g' : cx_Q} (F_ : LQ x u g g') : cq_I g' (x + 12) u = cq_I g (x + 12) u + 1 + 1 := F_.2.2.1
theorem LQ.i16 {x : Nat} {u : Int} {g g' : cx_Q} (F_ : LQ x u g g') : cq_I g' (x + 16) u = cq_I g (x + 16) u + 1 := F_.2.2.2.1
theorem LQ.J_ {x : Nat} {u : Int} {g g' : cx_Q} (F_ : LQ x u g g') : ∀ o j, 1 ≤ o → ¬ ((o = 20 ∨ o = 21 ∨ o = 22) ∧ j = u) → ¬ ((o = 17 ∨ o = 18) ∧ j = 21 * u + (cq_I g (x + 16) u + 1)) → cq_J g' (x + o) j = cq_J g (x + o) j := F_.2.2.2.2.1
theorem LQ.j17 {x : Nat} {u : Int} {g g' : cx_Q} (F_ : LQ x u g g') : cq_J g' (x + 17) (21 * u + (cq_I g (x + 16) u + 1)) = dV (cq_J g (x + 1) u) (cq_I g (x + 12) u) := F_.2.2.2.2.2.1
theorem LQ.j18 {x : Nat} {u : Int} {g g' : cx_Q} (F_ : LQ x u g g') : cq_J g' (x + 18) (21 * u + (cq_I g (x + 16) u + 1)) = dO (cq_J g (x + 1) u) (cq_I g (x + 12) u) := F_.2.2.2.2.2.2.1
theorem LQ.j20 {x : Nat} {u : Int} {g g' : cx_Q} (F_ : LQ x u g g') : cq_J g' (x + 20) u = dO (cq_J g (x + 1) u) (cq_I g (x + 12) u) := F_.2.2.2.2.2.2.2.1
theorem LQ.j21 {x : Nat} {u : Int} {g g' : cx_Q} (F_ : LQ x u g g') : cq_J g' (x + 21) u = dO (cq_J g (x + 1) u) (cq_I g (x + 12) u + 1) := F_.2.2.2.2.2.2.2.2.1
theorem LQ.j22 {x : Nat} {u : Int} {g g' : cx_Q} (F_ : LQ x u g g') : cq_J g' (x + 22) u = seP (dV (cq_J g (x + 1) u) (cq_I g (x + 12) u + 1)) (dO (cq_J g (x + 1) u) (cq_I g (x + 12) u + 1)) (dO (cq_J g (x + 1) u) (cq_I g (x + 12) u)) (cq_J g (x + 13) u) := F_.2.2.2.2.2.2.2.2.2
theorem lend_q {u : Int} : LQ x u g (m_lend g x u) := by
  refine ⟨fun j => lend_x, fun o j ho w => ?_, ?_, ?_, fun o j ho w1 w2 => ?_, ?_, ?_, ?_, ?_, ?_⟩
  · rw [lend_I ho, if_neg (fun z => w ⟨Or.inl z.1, z.2⟩), if_neg (fun z => w ⟨Or.inr z.1, z.2⟩)]
  · rw [lend_I (by decide), if_pos ⟨rfl, rfl⟩]
  · rw [lend_I (by decide), if_neg (fun z => absurd z.1 (by decide)), if_pos ⟨rfl, rfl⟩]
  · rw [lend_J ho, if_neg (fun z => w1 ⟨Or.inr (Or.inr z.1), z.2⟩), if_neg (fun z => w1 ⟨Or.inr (Or.inl z.1), z.2⟩), if_neg (fun z => w1 ⟨Or.inl z.1, z.2⟩), if_neg (fun z => w2 ⟨Or.inr z.1, z.2⟩), if_neg (fun z => w2 ⟨Or.inl z.1, z.2⟩)]
  · rw [lend_J (by decide), if_neg (fun z => absurd z.1 (by decide)), if_neg (fun z => absurd z.1 (by decide)), if_neg (fun z => absurd z.1 (by decide)), if_neg (fun z => absurd z.1 (by decide)), if_pos ⟨rfl, rfl⟩]
  · rw [lend_J (by decide), if_neg (fun z => absurd z.1 (by decide)), if_neg (fun z => absurd z.1 (by decide)), if_neg (fun z => absurd z.1 (by decide)), if_pos ⟨rfl, rfl⟩]
  · rw [lend_J (by decide), if_neg (fun z => absurd z.1 (by decide)), if_neg (fun z => absurd z.1 (by decide)), if_pos ⟨rfl, rfl⟩]
  · rw [lend_J (by decide), if_neg (fun z => absurd z.1 (by decide)), if_pos ⟨rfl, rfl⟩]
  · rw [lend_J (by decide), if_pos ⟨rfl, rfl⟩]
theorem fx_lend {u : Int} (Q : LQ x u g g') (F : FX c x n pe ro pa lb tp rd en op ob T Lf h g) {t r : Nat} (hu : 0 ≤ u ∧ u < n) (hU : cq_I g (x + 11) u ≠ 0) (hl : cq_I g (x + 16) u < 20) (e : ev (lkW h (pe u) (pe u + 1) t r (cq_I g (x + 12) u) (cq_I g (x + 16) u) (cq_J g (x + 1) u) (cq_J g (x + 13) u)) h') (st : cq_s h' t = 6) (v1 : cq_J h' t 0 = dV (cq_J g (x + 1) u) (cq_I g (x + 12) u)) (v2 : cq_J h' t 1 = dO (cq_J g (x + 1) u) (cq_I g (x + 12) u)) : FX c x n pe ro pa lb tp rd en op ob T Lf h' g' := by
  have f := F.fu u hu.1 hu.2
  have l20 := f.l20
  have n10 : ¬ pe u + 1 = pe u := by omega
  have n01 : ¬ pe u = pe u + 1 := by omega
  have s6 : cq_s h (pe u) ≠ 6 := by rw [f.s0]; decide
  have ex0 : evx (fun a => a = pe u ∨ a = pe u + 1) h (lkW h (pe u) (pe u + 1) t r (cq_I g (x + 12) u) (cq_I g (x + 16) u) (cq_J g (x + 1) u) (cq_J g (x + 13) u)) := by
    unfold lkW
    exact (((((((((evx.refl.sI (Or.inl rfl)).sA (Or.inl rfl)).sI (Or.inl rfl)).sA (Or.inl rfl)).sI (Or.inl rfl)).sA (Or.inr rfl)).sJ (Or.inl rfl) s6).sJ (Or.inl rfl) s6).sJ (Or.inl rfl) s6)
  have es : cq_s (lkW h (pe u) (pe u + 1) t r (cq_I g (x + 12) u) (cq_I g (x + 16) u) (cq_J g (x + 1) u) (cq_J g (x + 13) u)) = cq_s h := Eq.trans rfl rfl
  have eI : ∀ j, cq_I h' (pe u) j = if j = 4 then cq_I g (x + 16) u + 1 else if j = 1 then cq_I g (x + 12) u + 1 + 1 else cq_I h (pe u) j := fun j => by
    rw [e.I (k0 := 4) (by rw [es]; exact f.s0) rfl]
    unfold lkW
    simp only [mm_sI, mm_sJ, mm_sA, mm_IJ, mm_IA, mm_JI, mm_JA, mm_AI, mm_AJ, mm_ssI, mm_ssJ, mm_ssA, mm_zI, mm_zJ, mm_zA, mm_nI, mm_nJ, mm_nA, n01, n10, Nat.left_eq_add, Nat.add_eq_left, Nat.add_left_cancel_iff, Nat.reduceEqDiff, Int.reduceEq, false_and, and_false, if_false, if_true, and_self, true_and, true_or, or_true, false_or, or_false]
    repeat' split
    all_goals rfl
  have eJ : ∀ j, cq_J h' (pe u) j = if j = 7 then seP (dV (cq_J g (x + 1) u) (cq_I g (x + 12) u + 1)) (dO (cq_J g (x + 1) u) (cq_I g (x + 12) u + 1)) (dO (cq_J g (x + 1) u) (cq_I g (x + 12) u)) (cq_J g (x + 13) u) else if j = 6 then dO (cq_J g (x + 1) u) (cq_I g (x + 12) u + 1) else if j = 5 then dO (cq_J g (x + 1) u) (cq_I g (x + 12) u) else cq_J h (pe u) j := fun j => by
    rw [e.J (k0 := 4) (by rw [es]; exact f.s0) (by decide)]
    unfold lkW
    simp only [mm_sI, mm_sJ, mm_sA, mm_IJ, mm_IA, mm_JI, mm_JA, mm_AI, mm_AJ, mm_ssI, mm_ssJ, mm_ssA, mm_zI, mm_zJ, mm_zA, mm_nI, mm_nJ, mm_nA, n01, n10, Nat.left_eq_add, Nat.add_eq_left, Nat.add_left_cancel_iff, Nat.reduceEqDiff, Int.reduceEq, false_and, and_false, if_false, if_true, and_self, true_and, true_or, or_true, false_or, or_false]
  have eA : ∀ j, j ≠ 2 → cq_A h' (pe u) j = cq_A h (pe u) j := fun j w => by
    rw [e.A (k0 := 4) (by rw [es]; exact f.s0) rfl]
    unfold lkW
    simp only [mm_sI, mm_sJ, mm_sA, mm_IJ, mm_IA, mm_JI, mm_JA, mm_AI, mm_AJ, mm_ssI, mm_ssJ, mm_ssA, mm_zI, mm_zJ, mm_zA, mm_nI, mm_nJ, mm_nA, n01, n10, w, Nat.left_eq_add, Nat.add_eq_left, Nat.add_left_cancel_iff, Nat.reduceEqDiff, Int.reduceEq, false_and, and_false, if_false, if_true, and_self, true_and, true_or, or_true, false_or, or_false]
  have e1 : ∀ j, cq_A h' (pe u + 1) j = if j = cq_I g (x + 16) u + 1 then some t else cq_A h (pe u + 1) j := fun j => by
    rw [e.A (k0 := 176) (by rw [es]; exact f.s1) rfl]
    unfold lkW
    simp only [mm_sI, mm_sJ, mm_sA, mm_IJ, mm_IA, mm_JI, mm_JA, mm_AI, mm_AJ, mm_ssI, mm_ssJ, mm_ssA, mm_zI, mm_zJ, mm_zA, mm_nI, mm_nJ, mm_nA, n01, n10, Nat.left_eq_add, Nat.add_eq_left, Nat.add_left_cancel_iff, Nat.reduceEqDiff, Int.reduceEq, false_and, and_false, if_false, if_true, and_self, true_and, true_or, or_true, false_or, or_false]
  have eIo : ∀ j, j ≠ 4 → j ≠ 1 → cq_I h' (pe u) j = cq_I h (pe u) j := fun j w1 w2 => by rw [eI, if_neg w1, if_neg w2]
  have eI4 : cq_I h' (pe u) 4 = cq_I g (x + 16) u + 1 := by rw [eI, if_pos rfl]
  have eI1 : cq_I h' (pe u) 1 = cq_I g (x + 12) u + 1 + 1 := by rw [eI, if_neg (by decide), if_pos rfl]
  have eJ0 : cq_J h' (pe u) 0 = cq_J h (pe u) 0 := by rw [eJ, if_neg (by decide), if_neg (by decide), if_neg (by decide)]
  have eJ5 : cq_J h' (pe u) 5 = dO (cq_J g (x + 1) u) (cq_I g (x + 12) u) := by rw [eJ, if_neg (by decide), if_neg (by decide), if_pos rfl]
  have eJ6 : cq_J h' (pe u) 6 = dO (cq_J g (x + 1) u) (cq_I g (x + 12) u + 1) := by rw [eJ, if_neg (by decide), if_pos rfl]
  have eJ7 : cq_J h' (pe u) 7 = seP (dV (cq_J g (x + 1) u) (cq_I g (x + 12) u + 1)) (dO (cq_J g (x + 1) u) (cq_I g (x + 12) u + 1)) (dO (cq_J g (x + 1) u) (cq_I g (x + 12) u)) (cq_J g (x + 13) u) := by rw [eJ, if_pos rfl]
  have ex := ex0.trans (e.x (P := fun a => a = pe u ∨ a = pe u + 1))
  have p2 : ¬ (fun a => a = pe u ∨ a = pe u + 1) (pe u + 2) := fun w => by dsimp only at w; omega
  have p3 : ¬ (fun a => a = pe u ∨ a = pe u + 1) (pe u + 3) := fun w => by dsimp only at w; omega
  have p4 : ¬ (fun a => a = pe u ∨ a = pe u + 1) (pe u + 4) := fun w => by dsimp only at w; omega
  have p5 : ¬ (fun a => a = pe u ∨ a = pe u + 1) (pe u + 5) := fun w => by dsimp only at w; omega
  refine F.upU hu ex (fun a w => w.elim Or.inl (fun z => Or.inr (Or.inl z))) (fun o j h1 h2 h3 w => ⟨?_, ?_⟩) (fun j _ => Q.x_ j) (eA 13 (by decide)) ?_
  · exact Q.I_ o j h1 (fun z => w (Or.inl ⟨by omega, z.2⟩))
  · exact Q.J_ o j h1 (fun z => w (Or.inl ⟨by omega, z.2⟩)) (fun z => w (Or.inr (Or.inl ⟨by omega, by omega, by omega⟩)))
  have I11 := Q.I_ 11 u (by decide) (by omega)
  have I12 := Q.i12
  have I16 := Q.i16
  have I23 := Q.I_ 23 u (by decide) (by omega)
  have I58 := Q.I_ 58 u (by decide) (by omega)
  have J1 := Q.J_ 1 u (by decide) (by omega) (by omega)
  have J13 := Q.J_ 13 u (by decide) (by omega) (by omega)
  have J14 := Q.J_ 14 u (by decide) (by omega) (by omega)
  have J20 := Q.j20
  have J21 := Q.j21
  have J22 := Q.j22
  have J17 : ∀ k, cq_J g' (x + 17) (21 * u + k) = if k = cq_I g (x + 16) u + 1 then dV (cq_J g (x + 1) u) (cq_I g (x + 12) u) else cq_J g (x + 17) (21 * u + k) := fun k => by
    by_cases w : k = cq_I g (x + 16) u + 1
    · rw [if_pos w, w]; exact Q.j17
    · rw [if_neg w]; exact Q.J_ 17 _ (by decide) (by omega) (by omega)
  have J18 : ∀ k, cq_J g' (x + 18) (21 * u + k) = if k = cq_I g (x + 16) u + 1 then dO (cq_J g (x + 1) u) (cq_I g (x + 12) u) else cq_J g (x + 18) (21 * u + k) := fun k => by
    by_cases w : k = cq_I g (x + 16) u + 1
    · rw [if_pos w, w]; exact Q.j18
    · rw [if_neg w]; exact Q.J_ 18 _ (by decide) (by omega) (by omega)
  refine ⟨ex.s f.s0 (by decide), ex.s f.s1 (by decide), ex.s f.s2 (by decide), ex.s f.s3 (by decide), ex.s f.s4 (by decide), ex.s f.s5 (by decide), by rw [eA 8 (by decide)]; exact f.a8, by rw [eA 9 (by decide)]; exact f.a9, by rw [eA 10 (by decide)]; exact f.a10, by rw [eA 14 (by decide)]; exact f.a14, by rw [eA 15 (by decide)]; exact f.a15, by rw [J1, eJ0]; exact f.sd, by rw [I12, eI1], fun q => absurd q (by rw [I11]; exact hU), fun q => ?_, by rw [J21]; exact dO_rg.2, by rw [I16, eI4], by rw [I16]; omega, by rw [J20, eJ5], by rw [J21, eJ6], by rw [J22, eJ7], fun k k1 k2 => ?_, by rw [I23, eIo 11 (by decide) (by decide)]; exact f.on, by rw [I23]; exact f.o60, fun k k1 k2 => ?_, fun k k1 k2 => ?_, fun k k1 => ?_, by rw [I23, eIo 12 (by decide) (by decide)]; exact f.ot, fun k k1 k2 => ?_, by rw [I58, eIo 16 (by decide) (by decide)]; exact f.hd, by rw [I58]; exact f.h100, fun k k1 k2 => ?_⟩
  · obtain ⟨d, q1, q2, q3, q4, q5, q6, q7⟩ := f.n1 hU
    exact ⟨d, by rw [eA 3 (by decide)]; exact q1, ex.s q2 (by decide), by rw [ex.2.1 d q2, J13]; exact q3, by rw [ex.2.1 d q2, J14]; exact q4, by rw [J13]; exact q5, by rw [J14]; exact q6, by rw [J14]; exact q7⟩
  · rw [I16] at k2
    rw [J17, J18]
    by_cases w : k = cq_I g (x + 16) u + 1
    · rw [if_pos w, if_pos w]
      exact ⟨t, by rw [e1, if_pos w], st, v1, v2⟩
    · rw [if_neg w, if_neg w]
      obtain ⟨d, q1, q2, q3, q4⟩ := f.lk k k1 (by omega)
      exact ⟨d, by rw [e1, if_neg w]; exact q1, ex.s q2 (by decide), by rw [ex.2.1 d q2]; exact q3, by rw [ex.2.1 d q2]; exact q4⟩
  · rw [I23] at k2
    obtain ⟨d, q1, q2, q3, q4⟩ := f.ok k k1 k2
    have j24 : cq_J (g') (x + 24) (61 * u + k) = cq_J g (x + 24) (61 * u + k) := Q.J_ _ _ (by decide) (by omega) (by omega)
    have j25 : cq_J (g') (x + 25) (61 * u + k) = cq_J g (x + 25) (61 * u + k) := Q.J_ _ _ (by decide) (by omega) (by omega)
    exact ⟨d, by rw [ex.A f.s2 rfl p2]; exact q1, ex.s q2 (by decide), by rw [ex.2.1 d q2, j24]; exact q3, by rw [ex.2.1 d q2, j25]; exact q4⟩
  · rw [I23] at k2
    have i28 : cq_I (g') (x + 28) (61 * u + k) = cq_I g (x + 28) (61 * u + k) := Q.I_ _ _ (by decide) (by omega)
    rw [ex.I f.s3 rfl p3, i28]
    exact f.ou k k1 k2
  · rw [I23] at k1
    rw [ex.I f.s3 rfl p3]
    exact f.oz k k1
  · rw [I23] at k2
    have i27 : cq_I (g') (x + 27) (61 * u + k) = cq_I g (x + 27) (61 * u + k) := Q.I_ _ _ (by decide) (by omega)
    rw [i27, eIo 12 (by decide) (by decide)]
    exact f.od k k1 k2
  · rw [I58] at k2
    have j60 : cq_J (g') (x + 60) (100 * u + k) = cq_J g (x + 60) (100 * u + k) := Q.J_ _ _ (by decide) (by omega) (by omega)
    have i59 : cq_I (g') (x + 59) (100 * u + k) = cq_I g (x + 59) (100 * u + k) := Q.I_ _ _ (by decide) (by omega)
    rw [ex.J f.s4 (by decide) p4, ex.I f.s5 rfl p5, j60, i59]
    exact f.he k k1 k2
end
/-! class and reference side by side: a draw, an IDENTITY, a ONCE key, a forged number -/
/-- what the reference tells when ints of a user at these places are other: d draws, i11 isUser, i23 ONCE keys -/
def DQ (x : Nat) (u : Int) (g g' : cx_Q) : Prop := (∀ j, cq_I g' x j = cq_I g x j) ∧ (∀ o j, 1 ≤ o → ¬ (o = 12 ∧ j = u) → cq_I g' (x + o) j = cq_I g (x + o) j) ∧ (cq_I g' (x + 12) u = cq_I g (x + 12) u + 1) ∧ (∀ o j, 1 ≤ o → cq_J g' (x + o) j = cq_J g (x + o) j)
theorem DQ.x_ {x : Nat} {u : Int} {g g' : cx_Q} (F_ : DQ x u g g') : ∀ j, cq_I g' x j = cq_I g x j := F_.1
theorem DQ.I_ {x : Nat} {u : Int} {g g' : cx_Q} (F_ : DQ x u g g') : ∀ o j, 1 ≤ o → ¬ (o = 12 ∧ j = u) → cq_I g' (x + o) j = cq_I g (x + o) j := F_.2.1
theorem DQ.i12 {x : Nat} {u : Int} {g g' : cx_Q} (F_ : DQ x u g g') : cq_I g' (x + 12) u = cq_I g (x + 12) u + 1 := F_.2.2.1
theorem DQ.J_ {x : Nat} {u : Int} {g g' : cx_Q} (F_ : DQ x u g g') : ∀ o j, 1 ≤ o → cq_J g' (x + o) j = cq_J g (x + o) j := F_.2.2.2
def RQ (x : Nat) (u : Int) (g g' : cx_Q) : Prop := (∀ j, cq_I g' x j = cq_I g x j) ∧ (∀ o j, 1 ≤ o → ¬ ((o = 11 ∨ o = 12) ∧ j = u) → cq_I g' (x + o) j = cq_I g (x + o) j) ∧ (cq_I g' (x + 11) u = 1) ∧ (cq_I g' (x + 12) u = cq_I g (x + 12) u + 1) ∧ (∀ o j, 1 ≤ o → ¬ ((o = 13 ∨ o = 14) ∧ j = u) → cq_J g' (x + o) j = cq_J g (x + o) j) ∧ (cq_J g' (x + 13) u = dV (cq_J g (x + 1) u) (cq_I g (x + 12) u)) ∧ (cq_J g' (x + 14) u = dO (cq_J g (x + 1) u) (cq_I g (x + 12) u))
theorem RQ.x_ {x : Nat} {u : Int} {g g' : cx_Q} (F_ : RQ x u g g') : ∀ j, cq_I g' x j = cq_I g x j := F_.1
theorem RQ.I_ {x : Nat} {u : Int} {g g' : cx_Q} (F_ : RQ x u g g') : ∀ o j, 1 ≤ o → ¬ ((o = 11 ∨ o = 12) ∧ j = u) → cq_I g' (x + o) j = cq_I g (x + o) j := F_.2.1
theorem RQ.i11 {x : Nat} {u : Int} {g g' : cx_Q} (F_ : RQ x u g g') : cq_I g' (x + 11) u = 1 := F_.2.2.1
theorem RQ.i12 {x : Nat} {u : Int} {g g' : cx_Q} (F_ : RQ x u g g') : cq_I g' (x + 12) u = cq_I g (x + 12) u + 1 := F_.2.2.2.1
theorem RQ.J_ {x : Nat} {u : Int} {g g' : cx_Q} (F_ : RQ x u g g') : ∀ o j, 1 ≤ o → ¬ ((o = 13 ∨ o = 14) ∧ j = u) → cq_J g' (x + o) j = cq_J g (x + o) j := F_.2.2.2.2.1
theorem RQ.j13 {x : Nat} {u : Int} {g g' : cx_Q} (F_ : RQ x u g g') : cq_J g' (x + 13) u = dV (cq_J g (x + 1) u) (cq_I g (x + 12) u) := F_.2.2.2.2.2.1
theorem RQ.j14 {x : Nat} {u : Int} {g g' : cx_Q} (F_ : RQ x u g g') : cq_J g' (x + 14) u = dO (cq_J g (x + 1) u) (cq_I g (x + 12) u) := F_.2.2.2.2.2.2
def PQ (x : Nat) (u : Int) (g g' : cx_Q) : Prop := (∀ j, cq_I g' x j = cq_I g x j) ∧ (∀ o j, 1 ≤ o → ¬ ((o = 12 ∨ o = 23) ∧ j = u) → ¬ ((o = 27 ∨ o = 28) ∧ j = 61 * u + (cq_I g (x + 23) u + 1)) → cq_I g' (x + o) j = cq_I g (x + o) j) ∧ (cq_I g' (x + 12) u = cq_I g (x + 12) u + 1) ∧ (cq_I g' (x + 23) u = cq_I g (x + 23) u + 1) ∧ (cq_I g' (x + 27) (61 * u + (cq_I g (x + 23) u + 1)) = 1) ∧ (cq_I g' (x + 28) (61 * u + (cq_I g (x + 23) u + 1)) = 1) ∧ (∀ o j, 1 ≤ o → ¬ ((o = 24 ∨ o = 25) ∧ j = 61 * u + (cq_I g (x + 23) u + 1)) → cq_J g' (x + o) j = cq_J g (x + o) j) ∧ (cq_J g' (x + 24) (61 * u + (cq_I g (x + 23) u + 1)) = dV (cq_J g (x + 1) u) (cq_I g (x + 12) u)) ∧ (cq_J g' (x + 25) (61 * u + (cq_I g (x + 23) u + 1)) = dO (cq_J g (x + 1) u) (cq_I g (x + 12) u))
theorem PQ.x_ {x : Nat} {u : Int} {g g' : cx_Q} (F_ : PQ x u g g') : ∀ j, cq_I g' x j = cq_I g x j := F_.1
theorem PQ.I_ {x : Nat} {u : Int} {g g' : cx_Q} (F_ : PQ x u g g') : ∀ o j, 1 ≤ o → ¬ ((o = 12 ∨ o = 23) ∧ j = u) → ¬ ((o = 27 ∨ o = 28) ∧ j = 61 * u + (cq_I g (x + 23) u + 1)) → cq_I g' (x + o) j = cq_I g (x + o) j := F_.2.1
theorem PQ.i12 {x : Nat} {u : Int} {g g' : cx_Q} (F_ : PQ x u g g') : cq_I g' (x + 12) u = cq_I g (x + 12) u + 1 := F_.2.2.1
theorem PQ.i23 {x : Nat} {u : Int} {g g' : cx_Q} (F_ : PQ x u g g') : cq_I g' (x + 23) u = cq_I g (x + 23) u + 1 := F_.2.2.2.1
theorem PQ.i27 {x : Nat} {u : Int} {g g' : cx_Q} (F_ : PQ x u g g') : cq_I g' (x + 27) (61 * u + (cq_I g (x + 23) u + 1)) = 1 := F_.2.2.2.2.1
theorem PQ.i28 {x : Nat} {u : Int} {g g' : cx_Q} (F_ : PQ x u g g') : cq_I g' (x + 28) (61 * u + (cq_I g (x + 23) u + 1)) = 1 := F_.2.2.2.2.2.1
theorem PQ.J_ {x : Nat} {u : Int} {g g' : cx_Q} (F_ : PQ x u g g') : ∀ o j, 1 ≤ o → ¬ ((o = 24 ∨ o = 25) ∧ j = 61 * u + (cq_I g (x + 23) u + 1)) → cq_J g' (x + o) j = cq_J g (x + o) j := F_.2.2.2.2.2.2.1
theorem PQ.j24 {x : Nat} {u : Int} {g g' : cx_Q} (F_ : PQ x u g g') : cq_J g' (x + 24) (61 * u + (cq_I g (x + 23) u + 1)) = dV (cq_J g (x + 1) u) (cq_I g (x + 12) u) := F_.2.2.2.2.2.2.2.1
theorem PQ.j25 {x : Nat} {u : Int} {g g' : cx_Q} (F_ : PQ x u g g') : cq_J g' (x + 25) (61 * u + (cq_I g (x + 23) u + 1)) = dO (cq_J g (x + 1) u) (cq_I g (x + 12) u) := F_.2.2.2.2.2.2.2.2
section
variable {c x : Nat} {n : Int} {pe : Int → Nat} {ro : Int → Int → Nat} {pa lb tp rd en op ob : Nat} {T Lf : Int → Nat} {h g h' g' : cx_Q} {P : Nat → Prop} {u : Int} {t : Nat}
theorem draw_q : DQ x u g (m_draw g x u) := by
  refine ⟨fun j => ?_, fun o j ho w => ?_, ?_, fun o j ho => ?_⟩
  · unfold m_draw
    simp only [mm_sI, mm_sJ, mm_sA, mm_IJ, mm_IA, mm_JI, mm_JA, mm_AI, mm_AJ, mm_ssI, mm_ssJ, mm_ssA, mm_zI, mm_zJ, mm_zA, mm_nI, mm_nJ, mm_nA, Nat.left_eq_add, Nat.add_eq_left, Nat.add_left_cancel_iff, Nat.reduceEqDiff, Int.reduceEq, false_and, and_false, if_false, if_true, and_self, true_and, true_or, or_true, false_or, or_false]
  · unfold m_draw
    simp only [mm_sI, mm_sJ, mm_sA, mm_IJ, mm_IA, mm_JI, mm_JA, mm_AI, mm_AJ, mm_ssI, mm_ssJ, mm_ssA, mm_zI, mm_zJ, mm_zA, mm_nI, mm_nJ, mm_nA, Nat.left_eq_add, Nat.add_eq_left, Nat.add_left_cancel_iff, Nat.reduceEqDiff, Int.reduceEq, false_and, and_false, if_false, if_true, and_self, true_and, true_or, or_true, false_or, or_false]
    rw [if_neg w]
  · unfold m_draw
    simp only [mm_sI, mm_sJ, mm_sA, mm_IJ, mm_IA, mm_JI, mm_JA, mm_AI, mm_AJ, mm_ssI, mm_ssJ, mm_ssA, mm_zI, mm_zJ, mm_zA, mm_nI, mm_nJ, mm_nA, Nat.left_eq_add, Nat.add_eq_left, Nat.add_left_cancel_iff, Nat.reduceEqDiff, Int.reduceEq, false_and, and_false, if_false, if_true, and_self, true_and, true_or, or_true, false_or, or_false]
  · have o0 : ¬ o = 0 := by omega
    unfold m_draw
    simp only [mm_sI, mm_sJ, mm_sA, mm_IJ, mm_IA, mm_JI, mm_JA, mm_AI, mm_AJ, mm_ssI, mm_ssJ, mm_ssA, mm_zI, mm_zJ, mm_zA, mm_nI, mm_nJ, mm_nA, Nat.left_eq_add, Nat.add_eq_left, Nat.add_left_cancel_iff, Nat.reduceEqDiff, Int.reduceEq, false_and, and_false, if_false, if_true, and_self, true_and, true_or, or_true, false_or, or_false, o0]
theorem reg_q : RQ x u g (m_reg2 (m_reg1 g x u) x u) := by
  refine ⟨fun j => ?_, fun o j ho w => ?_, ?_, ?_, fun o j ho w => ?_, ?_, ?_⟩
  · unfold m_reg2 m_reg1 m_draw
    simp only [mm_sI, mm_sJ, mm_sA, mm_IJ, mm_IA, mm_JI, mm_JA, mm_AI, mm_AJ, mm_ssI, mm_ssJ, mm_ssA, mm_zI, mm_zJ, mm_zA, mm_nI, mm_nJ, mm_nA, Nat.left_eq_add, Nat.add_eq_left, Nat.add_left_cancel_iff, Nat.reduceEqDiff, Int.reduceEq, false_and, and_false, if_false, if_true, and_self, true_and, true_or, or_true, false_or, or_false]
  · unfold m_reg2 m_reg1 m_draw
    simp only [mm_sI, mm_sJ, mm_sA, mm_IJ, mm_IA, mm_JI, mm_JA, mm_AI, mm_AJ, mm_ssI, mm_ssJ, mm_ssA, mm_zI, mm_zJ, mm_zA, mm_nI, mm_nJ, mm_nA, Nat.left_eq_add, Nat.add_eq_left, Nat.add_left_cancel_iff, Nat.reduceEqDiff, Int.reduceEq, false_and, and_false, if_false, if_true, and_self, true_and, true_or, or_true, false_or, or_false]
    rw [if_neg (fun z => w ⟨Or.inr z.1, z.2⟩), if_neg (fun z => w ⟨Or.inl z.1, z.2⟩)]
  · unfold m_reg2 m_reg1 m_draw
    simp only [mm_sI, mm_sJ, mm_sA, mm_IJ, mm_IA, mm_JI, mm_JA, mm_AI, mm_AJ, mm_ssI, mm_ssJ, mm_ssA, mm_zI, mm_zJ, mm_zA, mm_nI, mm_nJ, mm_nA, Nat.left_eq_add, Nat.add_eq_left, Nat.add_left_cancel_iff, Nat.reduceEqDiff, Int.reduceEq, false_and, and_false, if_false, if_true, and_self, true_and, true_or, or_true, false_or, or_false]
  · unfold m_reg2 m_reg1 m_draw
    simp only [mm_sI, mm_sJ, mm_sA, mm_IJ, mm_IA, mm_JI, mm_JA, mm_AI, mm_AJ, mm_ssI, mm_ssJ, mm_ssA, mm_zI, mm_zJ, mm_zA, mm_nI, mm_nJ, mm_nA, Nat.left_eq_add, Nat.add_eq_left, Nat.add_left_cancel_iff, Nat.reduceEqDiff, Int.reduceEq, false_and, and_false, if_false, if_true, and_self, true_and, true_or, or_true, false_or, or_false]
  · have o0 : ¬ o = 0 := by omega
    unfold m_reg2 m_reg1 m_draw
    simp only [mm_sI, mm_sJ, mm_sA, mm_IJ, mm_IA, mm_JI, mm_JA, mm_AI, mm_AJ, mm_ssI, mm_ssJ, mm_ssA, mm_zI, mm_zJ, mm_zA, mm_nI, mm_nJ, mm_nA, Nat.left_eq_add, Nat.add_eq_left, Nat.add_left_cancel_iff, Nat.reduceEqDiff, Int.reduceEq, false_and, and_false, if_false, if_true, and_self, true_and, true_or, or_true, false_or, or_false, o0]
    rw [if_neg (fun z => w ⟨Or.inr z.1, z.2⟩), if_neg (fun z => w ⟨Or.inl z.1, z.2⟩)]
  · unfold m_reg2 m_reg1 m_draw dV
    simp only [mm_sI, mm_sJ, mm_sA, mm_IJ, mm_IA, mm_JI, mm_JA, mm_AI, mm_AJ, mm_ssI, mm_ssJ, mm_ssA, mm_zI, mm_zJ, mm_zA, mm_nI, mm_nJ, mm_nA, Nat.left_eq_add, Nat.add_eq_left, Nat.add_left_cancel_iff, Nat.reduceEqDiff, Int.reduceEq, false_and, and_false, if_false, if_true, and_self, true_and, true_or, or_true, false_or, or_false]
  · unfold m_reg2 m_reg1 m_draw dO dV
    simp only [mm_sI, mm_sJ, mm_sA, mm_IJ, mm_IA, mm_JI, mm_JA, mm_AI, mm_AJ, mm_ssI, mm_ssJ, mm_ssA, mm_zI, mm_zJ, mm_zA, mm_nI, mm_nJ, mm_nA, Nat.left_eq_add, Nat.add_eq_left, Nat.add_left_cancel_iff, Nat.reduceEqDiff, Int.reduceEq, false_and, and_false, if_false, if_true, and_self, true_and, true_or, or_true, false_or, or_false]
theorem pub_q : PQ x u g (m_pub1 g x u) := by
  refine ⟨fun j => ?_, fun o j ho w w2 => ?_, ?_, ?_, ?_, ?_, fun o j ho w => ?_, ?_, ?_⟩
  · unfold m_pub1 m_pubB m_pubA m_draw
    simp only [mm_sI, mm_sJ, mm_sA, mm_IJ, mm_IA, mm_JI, mm_JA, mm_AI, mm_AJ, mm_ssI, mm_ssJ, mm_ssA, mm_zI, mm_zJ, mm_zA, mm_nI, mm_nJ, mm_nA, Nat.left_eq_add, Nat.add_eq_left, Nat.add_left_cancel_iff, Nat.reduceEqDiff, Int.reduceEq, false_and, and_false, if_false, if_true, and_self, true_and, true_or, or_true, false_or, or_false]
  · unfold m_pub1 m_pubB m_pubA m_draw
    simp only [mm_sI, mm_sJ, mm_sA, mm_IJ, mm_IA, mm_JI, mm_JA, mm_AI, mm_AJ, mm_ssI, mm_ssJ, mm_ssA, mm_zI, mm_zJ, mm_zA, mm_nI, mm_nJ, mm_nA, Nat.left_eq_add, Nat.add_eq_left, Nat.add_left_cancel_iff, Nat.reduceEqDiff, Int.reduceEq, false_and, and_false, if_false, if_true, and_self, true_and, true_or, or_true, false_or, or_false]
    rw [if_neg (fun z => w2 ⟨Or.inr z.1, z.2⟩), if_neg (fun z => w2 ⟨Or.inl z.1, z.2⟩), if_neg (fun z => w ⟨Or.inl z.1, z.2⟩), if_neg (fun z => w ⟨Or.inr z.1, z.2⟩)]
  · unfold m_pub1 m_pubB m_pubA m_draw
    simp only [mm_sI, mm_sJ, mm_sA, mm_IJ, mm_IA, mm_JI, mm_JA, mm_AI, mm_AJ, mm_ssI, mm_ssJ, mm_ssA, mm_zI, mm_zJ, mm_zA, mm_nI, mm_nJ, mm_nA, Nat.left_eq_add, Nat.add_eq_left, Nat.add_left_cancel_iff, Nat.reduceEqDiff, Int.reduceEq, false_and, and_false, if_false, if_true, and_self, true_and, true_or, or_true, false_or, or_false]
  · unfold m_pub1 m_pubB m_pubA m_draw
    simp only [mm_sI, mm_sJ, mm_sA, mm_IJ, mm_IA, mm_JI, mm_JA, mm_AI, mm_AJ, mm_ssI, mm_ssJ, mm_ssA, mm_zI, mm_zJ, mm_zA, mm_nI, mm_nJ, mm_nA, Nat.left_eq_add, Nat.add_eq_left, Nat.add_left_cancel_iff, Nat.reduceEqDiff, Int.reduceEq, false_and, and_false, if_false, if_true, and_self, true_and, true_or, or_true, false_or, or_false]
  · unfold m_pub1 m_pubB m_pubA m_draw
    simp only [mm_sI, mm_sJ, mm_sA, mm_IJ, mm_IA, mm_JI, mm_JA, mm_AI, mm_AJ, mm_ssI, mm_ssJ, mm_ssA, mm_zI, mm_zJ, mm_zA, mm_nI, mm_nJ, mm_nA, Nat.left_eq_add, Nat.add_eq_left, Nat.add_left_cancel_iff, Nat.reduceEqDiff, Int.reduceEq, false_and, and_false, if_false, if_true, and_self, true_and, true_or, or_true, false_or, or_false]
  · unfold m_pub1 m_pubB m_pubA m_draw
    simp only [mm_sI, mm_sJ, mm_sA, mm_IJ, mm_IA, mm_JI, mm_JA, mm_AI, mm_AJ, mm_ssI, mm_ssJ, mm_ssA, mm_zI, mm_zJ, mm_zA, mm_nI, mm_nJ, mm_nA, Nat.left_eq_add, Nat.add_eq_left, Nat.add_left_cancel_iff, Nat.reduceEqDiff, Int.reduceEq, false_and, and_false, if_false, if_true, and_self, true_and, true_or, or_true, false_or, or_false]
  · have o0 : ¬ o = 0 := by omega
    unfold m_pub1 m_pubB m_pubA m_draw
    simp only [mm_sI, mm_sJ, mm_sA, mm_IJ, mm_IA, mm_JI, mm_JA, mm_AI, mm_AJ, mm_ssI, mm_ssJ, mm_ssA, mm_zI, mm_zJ, mm_zA, mm_nI, mm_nJ, mm_nA, Nat.left_eq_add, Nat.add_eq_left, Nat.add_left_cancel_iff, Nat.reduceEqDiff, Int.reduceEq, false_and, and_false, if_false, if_true, and_self, true_and, true_or, or_true, false_or, or_false, o0]
    rw [if_neg (fun z => w ⟨Or.inr z.1, z.2⟩), if_neg (fun z => w ⟨Or.inl z.1, z.2⟩)]
  · unfold m_pub1 m_pubB m_pubA m_draw dV
    simp only [mm_sI, mm_sJ, mm_sA, mm_IJ, mm_IA, mm_JI, mm_JA, mm_AI, mm_AJ, mm_ssI, mm_ssJ, mm_ssA, mm_zI, mm_zJ, mm_zA, mm_nI, mm_nJ, mm_nA, Nat.left_eq_add, Nat.add_eq_left, Nat.add_left_cancel_iff, Nat.reduceEqDiff, Int.reduceEq, false_and, and_false, if_false, if_true, and_self, true_and, true_or, or_true, false_or, or_false]
  · unfold m_pub1 m_pubB m_pubA m_draw dO dV
    simp only [mm_sI, mm_sJ, mm_sA, mm_IJ, mm_IA, mm_JI, mm_JA, mm_AI, mm_AJ, mm_ssI, mm_ssJ, mm_ssA, mm_zI, mm_zJ, mm_zA, mm_nI, mm_nJ, mm_nA, Nat.left_eq_add, Nat.add_eq_left, Nat.add_left_cancel_iff, Nat.reduceEqDiff, Int.reduceEq, false_and, and_false, if_false, if_true, and_self, true_and, true_or, or_true, false_or, or_false]
theorem fx_draw (Q : DQ x u g g') (F : FX c x n pe ro pa lb tp rd en op ob T Lf h g) (hu : 0 ≤ u ∧ u < n) (e : ev (coD h (pe u) t (cq_I g (x + 12) u)) h') : FX c x n pe ro pa lb tp rd en op ob T Lf h' g' := by
  have f := F.fu u hu.1 hu.2
  have ex0 : evx (fun a => a = pe u) h (coD h (pe u) t (cq_I g (x + 12) u)) := by
    unfold coD
    exact evx.sA (P := fun a => a = pe u) (evx.sI (P := fun a => a = pe u) evx.refl rfl) rfl
  have ex := ex0.trans (e.x (P := fun a => a = pe u))
  have eI : ∀ j, cq_I h' (pe u) j = if j = 1 then cq_I g (x + 12) u + 1 else cq_I h (pe u) j := fun j => by
    rw [e.I (k0 := 4) (by rw [coD_s]; exact f.s0) rfl]
    unfold coD
    simp only [mm_sI, mm_sJ, mm_sA, mm_IJ, mm_IA, mm_JI, mm_JA, mm_AI, mm_AJ, mm_ssI, mm_ssJ, mm_ssA, mm_zI, mm_zJ, mm_zA, mm_nI, mm_nJ, mm_nA, Nat.left_eq_add, Nat.add_eq_left, Nat.add_left_cancel_iff, Nat.reduceEqDiff, Int.reduceEq, false_and, and_false, if_false, if_true, and_self, true_and, true_or, or_true, false_or, or_false]
  have eIo : ∀ j, j ≠ 1 → cq_I h' (pe u) j = cq_I h (pe u) j := fun j w => by rw [eI, if_neg w]
  have eJ : cq_J h' (pe u) = cq_J h (pe u) := by rw [e.J (k0 := 4) (by rw [coD_s]; exact f.s0) (by decide), coD_J]
  have eA : ∀ j, j ≠ 2 → cq_A h' (pe u) j = cq_A h (pe u) j := fun j w => by
    rw [e.A (k0 := 4) (by rw [coD_s]; exact f.s0) rfl]
    unfold coD
    simp only [mm_sI, mm_sJ, mm_sA, mm_IJ, mm_IA, mm_JI, mm_JA, mm_AI, mm_AJ, mm_ssI, mm_ssJ, mm_ssA, mm_zI, mm_zJ, mm_zA, mm_nI, mm_nJ, mm_nA, w, Nat.left_eq_add, Nat.add_eq_left, Nat.add_left_cancel_iff, Nat.reduceEqDiff, Int.reduceEq, false_and, and_false, if_false, if_true, and_self, true_and, true_or, or_true, false_or, or_false]
  have pp : ∀ k, 1 ≤ k → ¬ pe u + k = pe u := fun k w => by omega
  refine F.upU hu ex (fun a w => Or.inl w) (fun o j h1 h2 h3 w => ⟨Q.I_ o j h1 (fun z => w (Or.inl ⟨by omega, z.2⟩)), Q.J_ o j h1⟩) (fun j _ => Q.x_ j) (eA 13 (by decide)) ?_
  have I : ∀ o j, 1 ≤ o → o ≠ 12 → cq_I g' (x + o) j = cq_I g (x + o) j := fun o j h1 h2 => Q.I_ o j h1 (fun z => h2 z.1)
  have J := Q.J_
  have I11 := I 11 u (by decide) (by decide)
  have I16 := I 16 u (by decide) (by decide)
  have I23 := I 23 u (by decide) (by decide)
  have I58 := I 58 u (by decide) (by decide)
  refine ⟨ex.s f.s0 (by decide), ex.s f.s1 (by decide), ex.s f.s2 (by decide), ex.s f.s3 (by decide), ex.s f.s4 (by decide), ex.s f.s5 (by decide), by rw [eA 8 (by decide)]; exact f.a8, by rw [eA 9 (by decide)]; exact f.a9, by rw [eA 10 (by decide)]; exact f.a10, by rw [eA 14 (by decide)]; exact f.a14, by rw [eA 15 (by decide)]; exact f.a15, by rw [J 1 u (by decide), eJ]; exact f.sd, by rw [Q.i12, eI, if_pos rfl], fun q => by rw [eA 3 (by decide)]; exact f.n0 (by rw [← I11]; exact q), fun q => ?_, by rw [J 21 u (by decide)]; exact f.sb, by rw [I16, eIo 4 (by decide)]; exact f.ln, by rw [I16]; exact f.l20, by rw [J 20 u (by decide), eJ]; exact f.lo, by rw [J 21 u (by decide), eJ]; exact f.so, by rw [J 22 u (by decide), eJ]; exact f.sp, fun k k1 k2 => ?_, by rw [I23, eIo 11 (by decide)]; exact f.on, by rw [I23]; exact f.o60, fun k k1 k2 => ?_, fun k k1 k2 => ?_, fun k k1 => ?_, by rw [I23, eIo 12 (by decide)]; exact f.ot, fun k k1 k2 => ?_, by rw [I58, eIo 16 (by decide)]; exact f.hd, by rw [I58]; exact f.h100, fun k k1 k2 => ?_⟩
  · obtain ⟨d, q1, q2, q3, q4, q5, q6, q7⟩ := f.n1 (by rw [← I11]; exact q)
    exact ⟨d, by rw [eA 3 (by decide)]; exact q1, ex.s q2 (by decide), by rw [ex.2.1 d q2, J 13 u (by decide)]; exact q3, by rw [ex.2.1 d q2, J 14 u (by decide)]; exact q4, by rw [J 13 u (by decide)]; exact q5, by rw [J 14 u (by decide)]; exact q6, by rw [J 14 u (by decide)]; exact q7⟩
  · rw [I16] at k2
    obtain ⟨d, q1, q2, q3, q4⟩ := f.lk k k1 k2
    exact ⟨d, by rw [ex.A f.s1 rfl (pp 1 (by decide))]; exact q1, ex.s q2 (by decide), by rw [ex.2.1 d q2, J 17 _ (by decide)]; exact q3, by rw [ex.2.1 d q2, J 18 _ (by decide)]; exact q4⟩
  · rw [I23] at k2
    obtain ⟨d, q1, q2, q3, q4⟩ := f.ok k k1 k2
    exact ⟨d, by rw [ex.A f.s2 rfl (pp 2 (by decide))]; exact q1, ex.s q2 (by decide), by rw [ex.2.1 d q2, J 24 _ (by decide)]; exact q3, by rw [ex.2.1 d q2, J 25 _ (by decide)]; exact q4⟩
  · rw [I23] at k2
    rw [ex.I f.s3 rfl (pp 3 (by decide)), I 28 _ (by decide) (by decide)]
    exact f.ou k k1 k2
  · rw [I23] at k1
    rw [ex.I f.s3 rfl (pp 3 (by decide))]
    exact f.oz k k1
  · rw [I23] at k2
    rw [I 27 _ (by decide) (by decide), eIo 12 (by decide)]
    exact f.od k k1 k2
  · rw [I58] at k2
    rw [ex.J f.s4 (by decide) (pp 4 (by decide)), ex.I f.s5 rfl (pp 5 (by decide)), J 60 _ (by decide), I 59 _ (by decide) (by decide)]
    exact f.he k k1 k2
theorem fx_ident (Q : RQ x u g g') (F : FX c x n pe ro pa lb tp rd en op ob T Lf h g) (hu : 0 ≤ u ∧ u < n) (e : ev (cq_sA (coD h (pe u) t (cq_I g (x + 12) u)) (pe u) 3 (some t)) h') (st : cq_s h' t = 6) (v1 : cq_J h' t 0 = dV (cq_J g (x + 1) u) (cq_I g (x + 12) u)) (v2 : cq_J h' t 1 = dO (cq_J g (x + 1) u) (cq_I g (x + 12) u)) : FX c x n pe ro pa lb tp rd en op ob T Lf h' g' := by
  have f := F.fu u hu.1 hu.2
  have es : cq_s (cq_sA (coD h (pe u) t (cq_I g (x + 12) u)) (pe u) 3 (some t)) = cq_s h := Eq.trans rfl rfl
  have ex0 : evx (fun a => a = pe u) h (cq_sA (coD h (pe u) t (cq_I g (x + 12) u)) (pe u) 3 (some t)) := by
    unfold coD
    exact evx.sA (P := fun a => a = pe u) (evx.sA (P := fun a => a = pe u) (evx.sI (P := fun a => a = pe u) evx.refl rfl) rfl) rfl
  have ex := ex0.trans (e.x (P := fun a => a = pe u))
  have eI : ∀ j, cq_I h' (pe u) j = if j = 1 then cq_I g (x + 12) u + 1 else cq_I h (pe u) j := fun j => by
    rw [e.I (k0 := 4) (by rw [es]; exact f.s0) rfl]
    unfold coD
    simp only [mm_sI, mm_sJ, mm_sA, mm_IJ, mm_IA, mm_JI, mm_JA, mm_AI, mm_AJ, mm_ssI, mm_ssJ, mm_ssA, mm_zI, mm_zJ, mm_zA, mm_nI, mm_nJ, mm_nA, Nat.left_eq_add, Nat.add_eq_left, Nat.add_left_cancel_iff, Nat.reduceEqDiff, Int.reduceEq, false_and, and_false, if_false, if_true, and_self, true_and, true_or, or_true, false_or, or_false]
  have eIo : ∀ j, j ≠ 1 → cq_I h' (pe u) j = cq_I h (pe u) j := fun j w => by rw [eI, if_neg w]
  have eJ : cq_J h' (pe u) = cq_J h (pe u) := by rw [e.J (k0 := 4) (by rw [es]; exact f.s0) (by decide), mm_JA, coD_J]
  have eA : ∀ j, j ≠ 2 → j ≠ 3 → cq_A h' (pe u) j = cq_A h (pe u) j := fun j w w3 => by
    rw [e.A (k0 := 4) (by rw [es]; exact f.s0) rfl]
    unfold coD
    simp only [mm_sI, mm_sJ, mm_sA, mm_IJ, mm_IA, mm_JI, mm_JA, mm_AI, mm_AJ, mm_ssI, mm_ssJ, mm_ssA, mm_zI, mm_zJ, mm_zA, mm_nI, mm_nJ, mm_nA, w, w3, Nat.left_eq_add, Nat.add_eq_left, Nat.add_left_cancel_iff, Nat.reduceEqDiff, Int.reduceEq, false_and, and_false, if_false, if_true, and_self, true_and, true_or, or_true, false_or, or_false]
  have e3 : cq_A h' (pe u) 3 = some t := by
    rw [e.A (k0 := 4) (by rw [es]; exact f.s0) rfl, mm_sA, if_pos ⟨rfl, rfl⟩]
  have pp : ∀ k, 1 ≤ k → ¬ pe u + k = pe u := fun k w => by omega
  refine F.upU hu ex (fun a w => Or.inl w) (fun o j h1 h2 h3 w => ⟨Q.I_ o j h1 (fun z => w (Or.inl ⟨by omega, z.2⟩)), Q.J_ o j h1 (fun z => w (Or.inl ⟨by omega, z.2⟩))⟩) (fun j _ => Q.x_ j) (eA 13 (by decide) (by decide)) ?_
  have I : ∀ o j, 1 ≤ o → o ≠ 11 → o ≠ 12 → cq_I g' (x + o) j = cq_I g (x + o) j := fun o j h1 h2 h3 => Q.I_ o j h1 (fun z => by omega)
  have J : ∀ o j, 1 ≤ o → o ≠ 13 → o ≠ 14 → cq_J g' (x + o) j = cq_J g (x + o) j := fun o j h1 h2 h3 => Q.J_ o j h1 (fun z => by omega)
  have I16 := I 16 u (by decide) (by decide) (by decide)
  have I23 := I 23 u (by decide) (by decide) (by decide)
  have I58 := I 58 u (by decide) (by decide) (by decide)
  refine ⟨ex.s f.s0 (by decide), ex.s f.s1 (by decide), ex.s f.s2 (by decide), ex.s f.s3 (by decide), ex.s f.s4 (by decide), ex.s f.s5 (by decide), by rw [eA 8 (by decide) (by decide)]; exact f.a8, by rw [eA 9 (by decide) (by decide)]; exact f.a9, by rw [eA 10 (by decide) (by decide)]; exact f.a10, by rw [eA 14 (by decide) (by decide)]; exact f.a14, by rw [eA 15 (by decide) (by decide)]; exact f.a15, by rw [J 1 u (by decide) (by decide) (by decide), eJ]; exact f.sd, by rw [Q.i12, eI, if_pos rfl], fun q => absurd q (by rw [Q.i11]; decide), fun q => ⟨t, e3, st, by rw [Q.j13]; exact v1, by rw [Q.j14]; exact v2, by rw [Q.j13]; exact dV_rg, by rw [Q.j14]; exact dO_rg.1, by rw [Q.j14]; exact dO_rg.2⟩, by rw [J 21 u (by decide) (by decide) (by decide)]; exact f.sb, by rw [I16, eIo 4 (by decide)]; exact f.ln, by rw [I16]; exact f.l20, by rw [J 20 u (by decide) (by decide) (by decide), eJ]; exact f.lo, by rw [J 21 u (by decide) (by decide) (by decide), eJ]; exact f.so, by rw [J 22 u (by decide) (by decide) (by decide), eJ]; exact f.sp, fun k k1 k2 => ?_, by rw [I23, eIo 11 (by decide)]; exact f.on, by rw [I23]; exact f.o60, fun k k1 k2 => ?_, fun k k1 k2 => ?_, fun k k1 => ?_, by rw [I23, eIo 12 (by decide)]; exact f.ot, fun k k1 k2 => ?_, by rw [I58, eIo 16 (by decide)]; exact f.hd, by rw [I58]; exact f.h100, fun k k1 k2 => ?_⟩
  · rw [I16] at k2
    obtain ⟨d, q1, q2, q3, q4⟩ := f.lk k k1 k2
    exact ⟨d, by rw [ex.A f.s1 rfl (pp 1 (by decide))]; exact q1, ex.s q2 (by decide), by rw [ex.2.1 d q2, J 17 _ (by decide) (by decide) (by decide)]; exact q3, by rw [ex.2.1 d q2, J 18 _ (by decide) (by decide) (by decide)]; exact q4⟩
  · rw [I23] at k2
    obtain ⟨d, q1, q2, q3, q4⟩ := f.ok k k1 k2
    exact ⟨d, by rw [ex.A f.s2 rfl (pp 2 (by decide))]; exact q1, ex.s q2 (by decide), by rw [ex.2.1 d q2, J 24 _ (by decide) (by decide) (by decide)]; exact q3, by rw [ex.2.1 d q2, J 25 _ (by decide) (by decide) (by decide)]; exact q4⟩
  · rw [I23] at k2
    rw [ex.I f.s3 rfl (pp 3 (by decide)), I 28 _ (by decide) (by decide) (by decide)]
    exact f.ou k k1 k2
  · rw [I23] at k1
    rw [ex.I f.s3 rfl (pp 3 (by decide))]
    exact f.oz k k1
  · rw [I23] at k2
    rw [I 27 _ (by decide) (by decide) (by decide), eIo 12 (by decide)]
    exact f.od k k1 k2
  · rw [I58] at k2
    rw [ex.J f.s4 (by decide) (pp 4 (by decide)), ex.I f.s5 rfl (pp 5 (by decide)), J 60 _ (by decide) (by decide) (by decide), I 59 _ (by decide) (by decide) (by decide)]
    exact f.he k k1 k2
theorem fx_once (Q : PQ x u g g') (F : FX c x n pe ro pa lb tp rd en op ob T Lf h g) (hu : 0 ≤ u ∧ u < n) (hm : cq_I g (x + 23) u < 60) (e : ev (cq_sA (cq_sA (cq_sI (cq_sI h (pe u) 11 (cq_I g (x + 23) u + 1)) (pe u) 1 (cq_I g (x + 12) u + 1)) (pe u) 2 (some t)) (pe u + 2) (cq_I g (x + 23) u + 1) (some t)) h') (st : cq_s h' t = 6) (v1 : cq_J h' t 0 = dV (cq_J g (x + 1) u) (cq_I g (x + 12) u)) (v2 : cq_J h' t 1 = dO (cq_J g (x + 1) u) (cq_I g (x + 12) u)) : FX c x n pe ro pa lb tp rd en op ob T Lf h' g' := by
  have f := F.fu u hu.1 hu.2
  have o60 := f.o60
  have ot := f.ot
  have n02 : ¬ pe u = pe u + 2 := by omega
  have n20 : ¬ pe u + 2 = pe u := by omega
  have es : cq_s (cq_sA (cq_sA (cq_sI (cq_sI h (pe u) 11 (cq_I g (x + 23) u + 1)) (pe u) 1 (cq_I g (x + 12) u + 1)) (pe u) 2 (some t)) (pe u + 2) (cq_I g (x + 23) u + 1) (some t)) = cq_s h := Eq.trans rfl rfl
  have ex0 : evx (fun a => a = pe u ∨ a = pe u + 2) h (cq_sA (cq_sA (cq_sI (cq_sI h (pe u) 11 (cq_I g (x + 23) u + 1)) (pe u) 1 (cq_I g (x + 12) u + 1)) (pe u) 2 (some t)) (pe u + 2) (cq_I g (x + 23) u + 1) (some t)) := (((evx.refl.sI (Or.inl rfl)).sI (Or.inl rfl)).sA (Or.inl rfl)).sA (Or.inr rfl)
  have ex := ex0.trans (e.x (P := fun a => a = pe u ∨ a = pe u + 2))
  have eI : ∀ j, cq_I h' (pe u) j = if j = 1 then cq_I g (x + 12) u + 1 else if j = 11 then cq_I g (x + 23) u + 1 else cq_I h (pe u) j := fun j => by
    rw [e.I (k0 := 4) (by rw [es]; exact f.s0) rfl]
    simp only [mm_sI, mm_sJ, mm_sA, mm_IJ, mm_IA, mm_JI, mm_JA, mm_AI, mm_AJ, mm_ssI, mm_ssJ, mm_ssA, mm_zI, mm_zJ, mm_zA, mm_nI, mm_nJ, mm_nA, n02, n20, Nat.left_eq_add, Nat.add_eq_left, Nat.add_left_cancel_iff, Nat.reduceEqDiff, Int.reduceEq, false_and, and_false, if_false, if_true, and_self, true_and, true_or, or_true, false_or, or_false]
  have eIo : ∀ j, j ≠ 1 → j ≠ 11 → cq_I h' (pe u) j = cq_I h (pe u) j := fun j w w2 => by rw [eI, if_neg w, if_neg w2]
  have eJ : cq_J h' (pe u) = cq_J h (pe u) := by rw [e.J (k0 := 4) (by rw [es]; exact f.s0) (by decide)]; rfl
  have eA : ∀ j, j ≠ 2 → cq_A h' (pe u) j = cq_A h (pe u) j := fun j w => by
    rw [e.A (k0 := 4) (by rw [es]; exact f.s0) rfl]
    simp only [mm_sI, mm_sJ, mm_sA, mm_IJ, mm_IA, mm_JI, mm_JA, mm_AI, mm_AJ, mm_ssI, mm_ssJ, mm_ssA, mm_zI, mm_zJ, mm_zA, mm_nI, mm_nJ, mm_nA, n02, w, Nat.left_eq_add, Nat.add_eq_left, Nat.add_left_cancel_iff, Nat.reduceEqDiff, Int.reduceEq, false_and, and_false, if_false, if_true, and_self, true_and, true_or, or_true, false_or, or_false]
  have e2 : ∀ j, cq_A h' (pe u + 2) j = if j = cq_I g (x + 23) u + 1 then some t else cq_A h (pe u + 2) j := fun j => by
    rw [e.A (k0 := 177) (by rw [es]; exact f.s2) rfl]
    simp only [mm_sI, mm_sJ, mm_sA, mm_IJ, mm_IA, mm_JI, mm_JA, mm_AI, mm_AJ, mm_ssI, mm_ssJ, mm_ssA, mm_zI, mm_zJ, mm_zA, mm_nI, mm_nJ, mm_nA, n20, Nat.left_eq_add, Nat.add_eq_left, Nat.add_left_cancel_iff, Nat.reduceEqDiff, Int.reduceEq, false_and, and_false, if_false, if_true, and_self, true_and, true_or, or_true, false_or, or_false]
  have pp : ∀ k, 1 ≤ k → k ≠ 2 → ¬ (fun a => a = pe u ∨ a = pe u + 2) (pe u + k) := fun k w w2 z => by dsimp only at z; omega
  refine F.upU hu ex (fun a w => w.elim Or.inl (fun z => Or.inr (Or.inr (Or.inl z)))) (fun o j h1 h2 h3 w => ⟨Q.I_ o j h1 (fun z => w (Or.inl ⟨by omega, z.2⟩)) (fun z => w (Or.inr (Or.inr (Or.inl ⟨by omega, by omega, by omega⟩)))), Q.J_ o j h1 (fun z => w (Or.inr (Or.inr (Or.inl ⟨by omega, by omega, by omega⟩))))⟩) (fun j _ => Q.x_ j) (eA 13 (by decide)) ?_
  have I : ∀ o j, 1 ≤ o → o ≠ 12 → o ≠ 23 → o ≠ 27 → o ≠ 28 → cq_I g' (x + o) j = cq_I g (x + o) j := fun o j h1 h2 h3 h4 h5 => Q.I_ o j h1 (fun z => by omega) (fun z => by omega)
  have J : ∀ o j, 1 ≤ o → o ≠ 24 → o ≠ 25 → cq_J g' (x + o) j = cq_J g (x + o) j := fun o j h1 h2 h3 => Q.J_ o j h1 (fun z => by omega)
  have I11 := I 11 u (by decide) (by decide) (by decide) (by decide) (by decide)
  have I16 := I 16 u (by decide) (by decide) (by decide) (by decide) (by decide)
  have I58 := I 58 u (by decide) (by decide) (by decide) (by decide) (by decide)
  have I23 := Q.i23
  refine ⟨ex.s f.s0 (by decide), ex.s f.s1 (by decide), ex.s f.s2 (by decide), ex.s f.s3 (by decide), ex.s f.s4 (by decide), ex.s f.s5 (by decide), by rw [eA 8 (by decide)]; exact f.a8, by rw [eA 9 (by decide)]; exact f.a9, by rw [eA 10 (by decide)]; exact f.a10, by rw [eA 14 (by decide)]; exact f.a14, by rw [eA 15 (by decide)]; exact f.a15, by rw [J 1 u (by decide) (by decide) (by decide), eJ]; exact f.sd, by rw [Q.i12, eI, if_pos rfl], fun q => by rw [eA 3 (by decide)]; exact f.n0 (by rw [← I11]; exact q), fun q => ?_, by rw [J 21 u (by decide) (by decide) (by decide)]; exact f.sb, by rw [I16, eIo 4 (by decide) (by decide)]; exact f.ln, by rw [I16]; exact f.l20, by rw [J 20 u (by decide) (by decide) (by decide), eJ]; exact f.lo, by rw [J 21 u (by decide) (by decide) (by decide), eJ]; exact f.so, by rw [J 22 u (by decide) (by decide) (by decide), eJ]; exact f.sp, fun k k1 k2 => ?_, by rw [I23, eI, if_neg (by decide), if_pos rfl], by rw [I23]; omega, fun k k1 k2 => ?_, fun k k1 k2 => ?_, fun k k1 => ?_, by rw [I23, eIo 12 (by decide) (by decide)]; omega, fun k k1 k2 => ?_, by rw [I58, eIo 16 (by decide) (by decide)]; exact f.hd, by rw [I58]; exact f.h100, fun k k1 k2 => ?_⟩
  · obtain ⟨d, q1, q2, q3, q4, q5, q6, q7⟩ := f.n1 (by rw [← I11]; exact q)
    have j13 := J 13 u (by decide) (by decide) (by decide)
    have j14 := J 14 u (by decide) (by decide) (by decide)
    exact ⟨d, by rw [eA 3 (by decide)]; exact q1, ex.s q2 (by decide), by rw [ex.2.1 d q2, j13]; exact q3, by rw [ex.2.1 d q2, j14]; exact q4, by rw [j13]; exact q5, by rw [j14]; exact q6, by rw [j14]; exact q7⟩
  · rw [I16] at k2
    obtain ⟨d, q1, q2, q3, q4⟩ := f.lk k k1 k2
    exact ⟨d, by rw [ex.A f.s1 rfl (pp 1 (by decide) (by decide))]; exact q1, ex.s q2 (by decide), by rw [ex.2.1 d q2, J 17 _ (by decide) (by decide) (by decide)]; exact q3, by rw [ex.2.1 d q2, J 18 _ (by decide) (by decide) (by decide)]; exact q4⟩
  · rw [I23] at k2
    by_cases w : k = cq_I g (x + 23) u + 1
    · rw [w]
      exact ⟨t, by rw [e2, if_pos rfl], st, by rw [Q.j24]; exact v1, by rw [Q.j25]; exact v2⟩
    · obtain ⟨d, q1, q2, q3, q4⟩ := f.ok k k1 (by omega)
      exact ⟨d, by rw [e2, if_neg w]; exact q1, ex.s q2 (by decide), by rw [ex.2.1 d q2, Q.J_ 24 _ (by decide) (fun z => by omega)]; exact q3, by rw [ex.2.1 d q2, Q.J_ 25 _ (by decide) (fun z => by omega)]; exact q4⟩
  · rw [I23] at k2
    rw [ex.I f.s3 rfl (pp 3 (by decide) (by decide))]
    by_cases w : k = cq_I g (x + 23) u + 1
    · rw [w, Q.i28, f.oz _ (by omega)]
      exact ⟨fun _ => by decide, fun _ => rfl⟩
    · rw [Q.I_ 28 _ (by decide) (fun z => by omega) (fun z => by omega)]
      exact f.ou k k1 (by omega)
  · rw [I23] at k1
    rw [ex.I f.s3 rfl (pp 3 (by decide) (by decide))]
    exact f.oz k (by omega)
  · rw [I23] at k2
    rw [eIo 12 (by decide) (by decide)]
    by_cases w : k = cq_I g (x + 23) u + 1
    · rw [w, Q.i27]
      exact ⟨fun _ => by omega, fun _ => by decide⟩
    · rw [Q.I_ 27 _ (by decide) (fun z => by omega) (fun z => by omega)]
      exact f.od k k1 (by omega)
  · rw [I58] at k2
    rw [ex.J f.s4 (by decide) (pp 4 (by decide) (by decide)), ex.I f.s5 rfl (pp 5 (by decide) (by decide)), J 60 _ (by decide) (by decide) (by decide), I 59 _ (by decide) (by decide) (by decide) (by decide) (by decide)]
    exact f.he k k1 k2
end
