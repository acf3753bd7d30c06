/-! class and reference, by value: all of it -/
/-- where the class's cells stand: pe users, ro rows, and the rest -/
def FX (c x : Nat) (n : Int) (pe : Int → Nat) (ro : Int → Int → Nat) (pa lb tp rd en op ob : Nat) (T : Int → Nat) (Lf : Int → Nat) (h g : cx_Q) : Prop := (FS x c tp rd h g) ∧ (2 ≤ n ∧ n ≤ 6) ∧ (cq_I g x 0 = n) ∧ (cq_A h c 0 = some pa) ∧ (cq_s h pa = 105) ∧ (cq_A h c 1 = some lb) ∧ (cq_s h lb = 102) ∧ (cq_A h c 12 = some en) ∧ (cq_s h en = 0) ∧ (cq_A h c 13 = some op) ∧ (cq_s h op = 3) ∧ (cq_A h op 0 = some ob) ∧ (cq_s h ob = 175) ∧ (∀ u, 0 ≤ u → u < n → cq_A h pa u = some (pe u)) ∧ (∀ u, 0 ≤ u → u < n → cq_A h (pe u) 13 = some (pe u + 6) ∧ cq_s h (pe u + 6) = 181) ∧ (∀ u v, 0 ≤ u → u < n → 0 ≤ v → v < n → cq_A h (pe u + 6) v = some (ro u v)) ∧ (∀ u, 0 ≤ u → u < n → FU x (pe u) u h g) ∧ (∀ u v, 0 ≤ u → u < n → 0 ≤ v → v < n → FO x (ro u v) (6 * u + v) T h g) ∧ (0 ≤ cq_I g x 72 ∧ cq_I g x 72 ≤ 80) ∧ (∀ l, 0 ≤ l → l < cq_I g x 72 → cq_A h lb l = some (Lf l) ∧ FL x (Lf l) l h g) ∧ (∀ l m, 0 ≤ l → l < m → m < cq_I g x 72 → Lf l ≠ Lf m) ∧ (∀ u w, 0 ≤ u → u < n → 0 ≤ w → w < n → u ≠ w → pe u ≠ pe w) ∧ (∀ u v u' v', 0 ≤ u → u < n → 0 ≤ v → v < n → 0 ≤ u' → u' < n → 0 ≤ v' → v' < n → ¬ (u = u' ∧ v = v') → ro u v ≠ ro u' v') ∧ (∀ u v u' v' i j, 0 ≤ u → u < n → 0 ≤ v → v < n → 0 ≤ u' → u' < n → 0 ≤ v' → v' < n → 0 ≤ i → i < cq_I g (x + 30) (6 * u + v) → 0 ≤ j → j < cq_I g (x + 30) (6 * u' + v') → ¬ (u = u' ∧ v = v' ∧ i = j) → T (cq_I g (x + 29) (4 * (6 * u + v) + i)) ≠ T (cq_I g (x + 29) (4 * (6 * u' + v') + j)))
theorem FX.fs {c x : Nat} {n : Int} {pe : Int → Nat} {ro : Int → Int → Nat} {pa lb tp rd en op ob : Nat} {T : Int → Nat} {Lf : Int → Nat} {h g : cx_Q} (F_ : FX c x n pe ro pa lb tp rd en op ob T Lf h g) : FS x c tp rd h g := F_.1
theorem FX.n26 {c x : Nat} {n : Int} {pe : Int → Nat} {ro : Int → Int → Nat} {pa lb tp rd en op ob : Nat} {T : Int → Nat} {Lf : Int → Nat} {h g : cx_Q} (F_ : FX c x n pe ro pa lb tp rd en op ob T Lf h g) : 2 ≤ n ∧ n ≤ 6 := F_.2.1
theorem FX.nn {c x : Nat} {n : Int} {pe : Int → Nat} {ro : Int → Int → Nat} {pa lb tp rd en op ob : Nat} {T : Int → Nat} {Lf : Int → Nat} {h g : cx_Q} (F_ : FX c x n pe ro pa lb tp rd en op ob T Lf h g) : cq_I g x 0 = n := F_.2.2.1
theorem FX.a0 {c x : Nat} {n : Int} {pe : Int → Nat} {ro : Int → Int → Nat} {pa lb tp rd en op ob : Nat} {T : Int → Nat} {Lf : Int → Nat} {h g : cx_Q} (F_ : FX c x n pe ro pa lb tp rd en op ob T Lf h g) : cq_A h c 0 = some pa := F_.2.2.2.1
theorem FX.s0 {c x : Nat} {n : Int} {pe : Int → Nat} {ro : Int → Int → Nat} {pa lb tp rd en op ob : Nat} {T : Int → Nat} {Lf : Int → Nat} {h g : cx_Q} (F_ : FX c x n pe ro pa lb tp rd en op ob T Lf h g) : cq_s h pa = 105 := F_.2.2.2.2.1
theorem FX.a1 {c x : Nat} {n : Int} {pe : Int → Nat} {ro : Int → Int → Nat} {pa lb tp rd en op ob : Nat} {T : Int → Nat} {Lf : Int → Nat} {h g : cx_Q} (F_ : FX c x n pe ro pa lb tp rd en op ob T Lf h g) : cq_A h c 1 = some lb := F_.2.2.2.2.2.1
theorem FX.s1 {c x : Nat} {n : Int} {pe : Int → Nat} {ro : Int → Int → Nat} {pa lb tp rd en op ob : Nat} {T : Int → Nat} {Lf : Int → Nat} {h g : cx_Q} (F_ : FX c x n pe ro pa lb tp rd en op ob T Lf h g) : cq_s h lb = 102 := F_.2.2.2.2.2.2.1
theorem FX.a12 {c x : Nat} {n : Int} {pe : Int → Nat} {ro : Int → Int → Nat} {pa lb tp rd en op ob : Nat} {T : Int → Nat} {Lf : Int → Nat} {h g : cx_Q} (F_ : FX c x n pe ro pa lb tp rd en op ob T Lf h g) : cq_A h c 12 = some en := F_.2.2.2.2.2.2.2.1
theorem FX.s12 {c x : Nat} {n : Int} {pe : Int → Nat} {ro : Int → Int → Nat} {pa lb tp rd en op ob : Nat} {T : Int → Nat} {Lf : Int → Nat} {h g : cx_Q} (F_ : FX c x n pe ro pa lb tp rd en op ob T Lf h g) : cq_s h en = 0 := F_.2.2.2.2.2.2.2.2.1
theorem FX.a13 {c x : Nat} {n : Int} {pe : Int → Nat} {ro : Int → Int → Nat} {pa lb tp rd en op ob : Nat} {T : Int → Nat} {Lf : Int → Nat} {h g : cx_Q} (F_ : FX c x n pe ro pa lb tp rd en op ob T Lf h g) : cq_A h c 13 = some op := F_.2.2.2.2.2.2.2.2.2.1
theorem FX.s13 {c x : Nat} {n : Int} {pe : Int → Nat} {ro : Int → Int → Nat} {pa lb tp rd en op ob : Nat} {T : Int → Nat} {Lf : Int → Nat} {h g : cx_Q} (F_ : FX c x n pe ro pa lb tp rd en op ob T Lf h g) : cq_s h op = 3 := F_.2.2.2.2.2.2.2.2.2.2.1
theorem FX.aob {c x : Nat} {n : Int} {pe : Int → Nat} {ro : Int → Int → Nat} {pa lb tp rd en op ob : Nat} {T : Int → Nat} {Lf : Int → Nat} {h g : cx_Q} (F_ : FX c x n pe ro pa lb tp rd en op ob T Lf h g) : cq_A h op 0 = some ob := F_.2.2.2.2.2.2.2.2.2.2.2.1
theorem FX.sob {c x : Nat} {n : Int} {pe : Int → Nat} {ro : Int → Int → Nat} {pa lb tp rd en op ob : Nat} {T : Int → Nat} {Lf : Int → Nat} {h g : cx_Q} (F_ : FX c x n pe ro pa lb tp rd en op ob T Lf h g) : cq_s h ob = 175 := F_.2.2.2.2.2.2.2.2.2.2.2.2.1
theorem FX.pa_ {c x : Nat} {n : Int} {pe : Int → Nat} {ro : Int → Int → Nat} {pa lb tp rd en op ob : Nat} {T : Int → Nat} {Lf : Int → Nat} {h g : cx_Q} (F_ : FX c x n pe ro pa lb tp rd en op ob T Lf h g) : ∀ u, 0 ≤ u → u < n → cq_A h pa u = some (pe u) := F_.2.2.2.2.2.2.2.2.2.2.2.2.2.1
theorem FX.r13 {c x : Nat} {n : Int} {pe : Int → Nat} {ro : Int → Int → Nat} {pa lb tp rd en op ob : Nat} {T : Int → Nat} {Lf : Int → Nat} {h g : cx_Q} (F_ : FX c x n pe ro pa lb tp rd en op ob T Lf h g) : ∀ u, 0 ≤ u → u < n → cq_A h (pe u) 13 = some (pe u + 6) ∧ cq_s h (pe u + 6) = 181 := F_.2.2.2.2.2.2.2.2.2.2.2.2.2.2.1
theorem FX.ra {c x : Nat} {n : Int} {pe : Int → Nat} {ro : Int → Int → Nat} {pa lb tp rd en op ob : Nat} {T : Int → Nat} {Lf : Int → Nat} {h g : cx_Q} (F_ : FX c x n pe ro pa lb tp rd en op ob T Lf h g) : ∀ u v, 0 ≤ u → u < n → 0 ≤ v → v < n → cq_A h (pe u + 6) v = some (ro u v) := F_.2.2.2.2.2.2.2.2.2.2.2.2.2.2.2.1
theorem FX.fu {c x : Nat} {n : Int} {pe : Int → Nat} {ro : Int → Int → Nat} {pa lb tp rd en op ob : Nat} {T : Int → Nat} {Lf : Int → Nat} {h g : cx_Q} (F_ : FX c x n pe ro pa lb tp rd en op ob T Lf h g) : ∀ u, 0 ≤ u → u < n → FU x (pe u) u h g := F_.2.2.2.2.2.2.2.2.2.2.2.2.2.2.2.2.1
theorem FX.fo {c x : Nat} {n : Int} {pe : Int → Nat} {ro : Int → Int → Nat} {pa lb tp rd en op ob : Nat} {T : Int → Nat} {Lf : Int → Nat} {h g : cx_Q} (F_ : FX c x n pe ro pa lb tp rd en op ob T Lf h g) : ∀ u v, 0 ≤ u → u < n → 0 ≤ v → v < n → FO x (ro u v) (6 * u + v) T h g := F_.2.2.2.2.2.2.2.2.2.2.2.2.2.2.2.2.2.1
theorem FX.l80 {c x : Nat} {n : Int} {pe : Int → Nat} {ro : Int → Int → Nat} {pa lb tp rd en op ob : Nat} {T : Int → Nat} {Lf : Int → Nat} {h g : cx_Q} (F_ : FX c x n pe ro pa lb tp rd en op ob T Lf h g) : 0 ≤ cq_I g x 72 ∧ cq_I g x 72 ≤ 80 := F_.2.2.2.2.2.2.2.2.2.2.2.2.2.2.2.2.2.2.1
theorem FX.fl {c x : Nat} {n : Int} {pe : Int → Nat} {ro : Int → Int → Nat} {pa lb tp rd en op ob : Nat} {T : Int → Nat} {Lf : Int → Nat} {h g : cx_Q} (F_ : FX c x n pe ro pa lb tp rd en op ob T Lf h g) : ∀ l, 0 ≤ l → l < cq_I g x 72 → cq_A h lb l = some (Lf l) ∧ FL x (Lf l) l h g := F_.2.2.2.2.2.2.2.2.2.2.2.2.2.2.2.2.2.2.2.1
theorem FX.li {c x : Nat} {n : Int} {pe : Int → Nat} {ro : Int → Int → Nat} {pa lb tp rd en op ob : Nat} {T : Int → Nat} {Lf : Int → Nat} {h g : cx_Q} (F_ : FX c x n pe ro pa lb tp rd en op ob T Lf h g) : ∀ l m, 0 ≤ l → l < m → m < cq_I g x 72 → Lf l ≠ Lf m := F_.2.2.2.2.2.2.2.2.2.2.2.2.2.2.2.2.2.2.2.2.1
theorem FX.pi {c x : Nat} {n : Int} {pe : Int → Nat} {ro : Int → Int → Nat} {pa lb tp rd en op ob : Nat} {T : Int → Nat} {Lf : Int → Nat} {h g : cx_Q} (F_ : FX c x n pe ro pa lb tp rd en op ob T Lf h g) : ∀ u w, 0 ≤ u → u < n → 0 ≤ w → w < n → u ≠ w → pe u ≠ pe w := F_.2.2.2.2.2.2.2.2.2.2.2.2.2.2.2.2.2.2.2.2.2.1
theorem FX.ri {c x : Nat} {n : Int} {pe : Int → Nat} {ro : Int → Int → Nat} {pa lb tp rd en op ob : Nat} {T : Int → Nat} {Lf : Int → Nat} {h g : cx_Q} (F_ : FX c x n pe ro pa lb tp rd en op ob T Lf h g) : ∀ u v u' v', 0 ≤ u → u < n → 0 ≤ v → v < n → 0 ≤ u' → u' < n → 0 ≤ v' → v' < n → ¬ (u = u' ∧ v = v') → ro u v ≠ ro u' v' := F_.2.2.2.2.2.2.2.2.2.2.2.2.2.2.2.2.2.2.2.2.2.2.1
theorem FX.ti {c x : Nat} {n : Int} {pe : Int → Nat} {ro : Int → Int → Nat} {pa lb tp rd en op ob : Nat} {T : Int → Nat} {Lf : Int → Nat} {h g : cx_Q} (F_ : FX c x n pe ro pa lb tp rd en op ob T Lf h g) : ∀ u v u' v' i j, 0 ≤ u → u < n → 0 ≤ v → v < n → 0 ≤ u' → u' < n → 0 ≤ v' → v' < n → 0 ≤ i → i < cq_I g (x + 30) (6 * u + v) → 0 ≤ j → j < cq_I g (x + 30) (6 * u' + v') → ¬ (u = u' ∧ v = v' ∧ i = j) → T (cq_I g (x + 29) (4 * (6 * u + v) + i)) ≠ T (cq_I g (x + 29) (4 * (6 * u' + v') + j)) := F_.2.2.2.2.2.2.2.2.2.2.2.2.2.2.2.2.2.2.2.2.2.2.2
/-- all cells but those of P tell what they told -/
def evx (P : Nat → Prop) (h h' : cx_Q) : Prop := (∀ a, cq_s h a ≠ 99 → cq_s h' a = cq_s h a ∧ cq_z h' a = cq_z h a) ∧ (∀ a, cq_s h a = 6 → cq_J h' a = cq_J h a) ∧ ∀ a, cq_s h a ≠ 99 → ¬ P a → cq_J h' a = cq_J h a ∧ (okI (cq_s h a) = true → cq_I h' a = cq_I h a) ∧ (okB (cq_s h a) = true → cq_A h' a = cq_A h a)
section
variable {P Q : Nat → Prop} {h h' h1 : cx_Q} {a k0 : Nat}
theorem evx.s (e : evx P h h') (hs : cq_s h a = k0) (hn : k0 ≠ 99) : cq_s h' a = k0 := (e.1 a (by rw [hs]; exact hn)).1.trans hs
theorem evx.I (e : evx P h h') (hs : cq_s h a = k0) (hn : okI k0 = true) (hP : ¬ P a) : cq_I h' a = cq_I h a := (e.2.2 a (by rw [hs]; exact okI_9 hn) hP).2.1 (by rw [hs]; exact hn)
theorem evx.J (e : evx P h h') (hs : cq_s h a = k0) (hn : k0 ≠ 99) (hP : ¬ P a) : cq_J h' a = cq_J h a := (e.2.2 a (by rw [hs]; exact hn) hP).1
theorem evx.A (e : evx P h h') (hs : cq_s h a = k0) (hn : okB k0 = true) (hP : ¬ P a) : cq_A h' a = cq_A h a := (e.2.2 a (by rw [hs]; exact okB_9 hn) hP).2.2 (by rw [hs]; exact hn)
theorem ev.x (e : ev h h') : evx P h h' := ⟨fun a w => ⟨(e.2.1 a w).1, (e.2.1 a w).2.1⟩, fun a w => e.J w (by decide), fun a w _ => ⟨(e.2.1 a w).2.2, fun q => e.2.2.1 a q, fun q => e.2.2.2.1 a (okB_A q)⟩⟩
theorem ew.x (e : ew h h') : evx P h h' := ⟨fun a w => ⟨(e.2.1 a w).1, (e.2.1 a w).2.1⟩, fun a w => e.J w (by decide), fun a w _ => ⟨(e.2.1 a w).2.2, fun q => e.2.2.1 a q, fun q => e.2.2.2.1 a q⟩⟩
theorem evx.trans (e : evx P h h1) (f : evx P h1 h') : evx P h h' := by
  refine ⟨fun a w => ?_, fun a w => ?_, fun a w hP => ?_⟩
  · have e1 := e.1 a w
    have f1 := f.1 a (by rw [e1.1]; exact w)
    exact ⟨f1.1.trans e1.1, f1.2.trans e1.2⟩
  · rw [f.2.1 a ((e.1 a (by rw [w]; decide)).1.trans w), e.2.1 a w]
  · have e1 := (e.1 a w).1
    have e2 := e.2.2 a w hP
    have f2 := f.2.2 a (by rw [e1]; exact w) hP
    exact ⟨f2.1.trans e2.1, fun q => (f2.2.1 (by rw [e1]; exact q)).trans (e2.2.1 q), fun q => (f2.2.2 (by rw [e1]; exact q)).trans (e2.2.2 q)⟩
theorem evx.mono (e : evx P h h') (w : ∀ a, P a → Q a) : evx Q h h' := ⟨e.1, e.2.1, fun a q hQ => e.2.2 a q (fun p => hQ (w a p))⟩
theorem evx.refl : evx P h h := ev.refl.x
theorem evx.sI (e : evx P h h') {j v : Int} (hP : P a) : evx P h (cq_sI h' a j v) := ⟨e.1, e.2.1, fun b w q => ⟨(e.2.2 b w q).1, fun z => by
  rw [← (e.2.2 b w q).2.1 z]
  funext r
  rw [mm_sI, if_neg (fun x => q (by rw [x.1]; exact hP))], (e.2.2 b w q).2.2⟩⟩
theorem evx.sJ (e : evx P h h') {j : Int} {v : Int64} (hP : P a) (h6 : cq_s h a ≠ 6) : evx P h (cq_sJ h' a j v) := ⟨e.1, fun b w => by
  rw [← e.2.1 b w]
  funext r
  rw [mm_sJ, if_neg (fun x => h6 (by rw [← x.1]; exact w))], fun b w q => ⟨by
  rw [← (e.2.2 b w q).1]
  funext r
  rw [mm_sJ, if_neg (fun x => q (by rw [x.1]; exact hP))], (e.2.2 b w q).2⟩⟩
theorem evx.sA (e : evx P h h') {j : Int} {v : Option Nat} (hP : P a) : evx P h (cq_sA h' a j v) := ⟨e.1, e.2.1, fun b w q => ⟨(e.2.2 b w q).1, (e.2.2 b w q).2.1, fun z => by
  rw [← (e.2.2 b w q).2.2 z]
  funext r
  rw [mm_sA, if_neg (fun x => q (by rw [x.1]; exact hP))]⟩⟩
theorem evx.rI (e : evx P h h') {f : Int → Int} (hP : P a) : evx P h (cq_rI h' a f) := ⟨e.1, e.2.1, fun b w q => ⟨(e.2.2 b w q).1, fun z => by
  rw [← (e.2.2 b w q).2.1 z, rr_I, if_neg (fun x => q (by rw [x]; exact hP))], (e.2.2 b w q).2.2⟩⟩
theorem evx.rJ (e : evx P h h') {f : Int → Int64} (hP : P a) (h6 : cq_s h a ≠ 6) : evx P h (cq_rJ h' a f) := ⟨e.1, fun b w => by
  rw [← e.2.1 b w, rr_J, if_neg (fun x => h6 (by rw [← x]; exact w))], fun b w q => ⟨by
  rw [← (e.2.2 b w q).1, rr_J, if_neg (fun x => q (by rw [x]; exact hP))], (e.2.2 b w q).2⟩⟩
theorem evx.rA (e : evx P h h') {f : Int → Option Nat} (hP : P a) : evx P h (cq_rA h' a f) := ⟨e.1, e.2.1, fun b w q => ⟨(e.2.2 b w q).1, (e.2.2 b w q).2.1, fun z => by
  rw [← (e.2.2 b w q).2.2 z, rr_A, if_neg (fun x => q (by rw [x]; exact hP))]⟩⟩
theorem FU.ex {x p : Nat} {u : Int} {g g' : cx_Q} (F : FU x p u h g) (e : evx P h h') (p0 : ¬ P p) (p1 : ¬ P (p + 1)) (p2 : ¬ P (p + 2)) (p3 : ¬ P (p + 3)) (p4 : ¬ P (p + 4)) (p5 : ¬ P (p + 5)) (eg : ∀ o j, inU u o j → cq_I g' (x + o) j = cq_I g (x + o) j ∧ cq_J g' (x + o) j = cq_J g (x + o) j) : FU x p u h' g' := F.fr (fun d w => (e.1 d w).1) (e.I F.s0 rfl p0) (e.J F.s0 (by decide) p0) (e.A F.s0 rfl p0) (e.A F.s1 rfl p1) (e.A F.s2 rfl p2) (e.I F.s3 rfl p3) (e.J F.s4 (by decide) p4) (e.I F.s5 rfl p5) e.2.1 eg
theorem SR.ex {x p : Nat} {s : Int} {g g' : cx_Q} (F : SR x p s h g) (e : evx P h h') (p0 : ¬ P p) (p1 : ¬ P (p + 1)) (p2 : ¬ P (p + 2)) (p3 : ¬ P (p + 3)) (p4 : ¬ P (p + 4)) (eg : ∀ o j, inS s o j → cq_I g' (x + o) j = cq_I g (x + o) j ∧ cq_J g' (x + o) j = cq_J g (x + o) j) : SR x p s h' g' := F.fr (fun d w => (e.1 d w).1) (e.I F.s0 rfl p0) (e.J F.s0 (by decide) p0) (e.A F.s0 rfl p0) (e.I F.s1 rfl p1) (e.A F.s1 rfl p1) (e.J F.s2 (by decide) p2) (e.I F.s3 rfl p3) (e.J F.s4 (by decide) p4) e.2.1 eg
theorem FL.ex {x p : Nat} {l : Int} {g g' : cx_Q} (F : FL x p l h g) (e : evx P h h') (p0 : ¬ P p) (p1 : ¬ P (p + 1)) (eg : cq_I g' (x + 63) l = cq_I g (x + 63) l) (eb : ∀ k, 0 ≤ k → k < 100 → cq_I g' (x + 62) (100 * l + k) = cq_I g (x + 62) (100 * l + k)) : FL x p l h' g' := F.fr (fun d w => e.1 d w) (e.A F.s0 rfl p0) (e.I F.s1 rfl p1) eg eb
theorem FO.ex {x r : Nat} {w : Int} {T : Int → Nat} {g g' : cx_Q} (F : FO x r w T h g) (e : evx P h h') (p0 : ¬ P r) (p1 : ¬ P (r + 1)) (eo : ∀ j, cq_I g' (x + 29) (4 * w + j) = cq_I g (x + 29) (4 * w + j)) (er : cq_I g' (x + 30) w = cq_I g (x + 30) w) (eS : ∀ i, 0 ≤ i → i < cq_I g (x + 30) w → SR x (T (cq_I g (x + 29) (4 * w + i))) (cq_I g (x + 29) (4 * w + i)) h' g') : FO x r w T h' g' := by
  refine ⟨e.s F.s0 (by decide), e.s F.s1 (by decide), by rw [e.I F.s0 rfl p0, er]; exact F.rm, by rw [er]; exact F.r4, fun i i0 i1 => ?_, fun i i0 i1 => ?_, fun i j i0 i1 i2 => ?_, fun i i0 i1 => ?_⟩
  · rw [er] at i1
    rw [e.A F.s1 rfl p1, eo]
    exact F.at_ i i0 i1
  · rw [er] at i1
    rw [eo]
    exact F.sl i i0 i1
  · rw [er] at i2
    rw [eo, eo]
    exact F.di i j i0 i1 i2
  · rw [er] at i1
    rw [eo]
    exact eS i i0 i1
end
section
variable {c x : Nat} {n : Int} {pe : Int → Nat} {ro : Int → Int → Nat} {pa lb tp rd en op ob : Nat} {T Lf : Int → Nat} {h g h' g' : cx_Q} {P : Nat → Prop}
/-- what of the reference neither stands in an object's own ints nor in terms -/
def eqR (x : Nat) (R : Nat → Int → Prop) (g g' : cx_Q) : Prop := ∀ o j, 1 ≤ o → o ≤ 65 → o ∉ tL → ¬ R o j → cq_I g' (x + o) j = cq_I g (x + o) j ∧ cq_J g' (x + o) j = cq_J g (x + o) j
theorem inU_r {u j : Int} {o : Nat} (q : inU u o j) : 1 ≤ o ∧ o ≤ 65 ∧ o ∉ tL := by
  unfold inU at q
  have : o = 1 ∨ o = 11 ∨ o = 12 ∨ o = 13 ∨ o = 14 ∨ o = 16 ∨ o = 20 ∨ o = 21 ∨ o = 22 ∨ o = 23 ∨ o = 58 ∨ o = 17 ∨ o = 18 ∨ o = 24 ∨ o = 25 ∨ o = 27 ∨ o = 28 ∨ o = 59 ∨ o = 60 := by omega
  rcases this with rfl | rfl | rfl | rfl | rfl | rfl | rfl | rfl | rfl | rfl | rfl | rfl | rfl | rfl | rfl | rfl | rfl | rfl | rfl <;> decide
theorem inS_r {s j : Int} {o : Nat} (q : inS s o j) : 1 ≤ o ∧ o ≤ 65 ∧ o ∉ tL := by
  unfold inS at q
  have : o = 31 ∨ o = 32 ∨ o = 33 ∨ o = 34 ∨ o = 35 ∨ o = 36 ∨ o = 37 ∨ o = 38 ∨ o = 39 ∨ o = 40 ∨ o = 41 ∨ o = 42 ∨ o = 43 ∨ o = 44 ∨ o = 45 ∨ o = 46 ∨ o = 47 ∨ o = 53 ∨ o = 54 ∨ o = 55 ∨ o = 56 := by omega
  rcases this with rfl | rfl | rfl | rfl | rfl | rfl | rfl | rfl | rfl | rfl | rfl | rfl | rfl | rfl | rfl | rfl | rfl | rfl | rfl | rfl | rfl <;> decide
/-- sorts of users', rows' and letters' cells -/
def okP (k : Nat) : Bool := k != 9 && k != 103 && k != 104 && k != 0 && k != 3 && k != 175 && k != 10 && k != 98 && !(Nat.ble 106 k && Nat.ble k 170)
/-- nothing is other of users, rows and letters -/
theorem FX.upS (F : FX c x n pe ro pa lb tp rd en op ob T Lf h g) (e : evx P h h') (R : Nat → Int → Prop) (eg : eqR x R g g') (hP : ∀ a, P a → okP (cq_s h a) = false) (hR : ∀ o j, R o j → o = 61 ∨ o = 65) (eA : cq_A h' c = cq_A h c) (eop : cq_A h' op 0 = cq_A h op 0) (e0 : cq_I g' x 0 = cq_I g x 0) (e72 : cq_I g' x 72 = cq_I g x 72) (fs : FS x c tp rd h' g') : FX c x n pe ro pa lb tp rd en op ob T Lf h' g' := by
  have nP : ∀ {a k : Nat}, cq_s h a = k → okP k = true → ¬ P a := by
    intro a k q w hp
    have := hP a hp
    rw [q, w] at this
    cases this
  have gg : ∀ o j, 1 ≤ o → o ≤ 65 → o ∉ tL → o ≠ 61 → o ≠ 65 → cq_I g' (x + o) j = cq_I g (x + o) j ∧ cq_J g' (x + o) j = cq_J g (x + o) j := fun o j h1 h2 h3 h4 h5 => eg o j h1 h2 h3 (fun r => by have := hR o j r; omega)
  have gU : ∀ {u : Int} o j, inU u o j → cq_I g' (x + o) j = cq_I g (x + o) j ∧ cq_J g' (x + o) j = cq_J g (x + o) j := fun {u} o j w => by
    obtain ⟨q1, q2, q3⟩ := inU_r w
    exact gg o j q1 q2 q3 (by unfold inU at w; omega) (by unfold inU at w; omega)
  have gS : ∀ {s : Int} o j, inS s o j → cq_I g' (x + o) j = cq_I g (x + o) j ∧ cq_J g' (x + o) j = cq_J g (x + o) j := fun {u} o j w => by
    obtain ⟨q1, q2, q3⟩ := inS_r w
    exact gg o j q1 q2 q3 (by unfold inS at w; omega) (by unfold inS at w; omega)
  have g29 : ∀ j, cq_I g' (x + 29) j = cq_I g (x + 29) j := fun j => (gg 29 j (by decide) (by decide) (by decide) (by decide) (by decide)).1
  have g30 : ∀ j, cq_I g' (x + 30) j = cq_I g (x + 30) j := fun j => (gg 30 j (by decide) (by decide) (by decide) (by decide) (by decide)).1
  have g62 : ∀ j, cq_I g' (x + 62) j = cq_I g (x + 62) j := fun j => (gg 62 j (by decide) (by decide) (by decide) (by decide) (by decide)).1
  have g63 : ∀ j, cq_I g' (x + 63) j = cq_I g (x + 63) j := fun j => (gg 63 j (by decide) (by decide) (by decide) (by decide) (by decide)).1
  refine ⟨fs, F.n26, by rw [e0]; exact F.nn, by rw [eA]; exact F.a0, e.s F.s0 (by decide), by rw [eA]; exact F.a1, e.s F.s1 (by decide), by rw [eA]; exact F.a12, e.s F.s12 (by decide), by rw [eA]; exact F.a13, e.s F.s13 (by decide), by rw [eop]; exact F.aob, e.s F.sob (by decide), fun u u0 u1 => ?_, fun u u0 u1 => ?_, fun u v u0 u1 v0 v1 => ?_, fun u u0 u1 => ?_, fun u v u0 u1 v0 v1 => ?_, by rw [e72]; exact F.l80, fun l l0 l1 => ?_, by rw [e72]; exact F.li, F.pi, F.ri, ?_⟩
  · rw [e.A F.s0 rfl (nP F.s0 rfl)]
    exact F.pa_ u u0 u1
  · have fu := F.fu u u0 u1
    have r := F.r13 u u0 u1
    rw [e.A fu.s0 rfl (nP fu.s0 rfl)]
    exact ⟨r.1, e.s r.2 (by decide)⟩
  · have r := F.r13 u u0 u1
    rw [e.A r.2 rfl (nP r.2 rfl)]
    exact F.ra u v u0 u1 v0 v1
  · have fu := F.fu u u0 u1
    exact fu.ex e (nP fu.s0 rfl) (nP fu.s1 rfl) (nP fu.s2 rfl) (nP fu.s3 rfl) (nP fu.s4 rfl) (nP fu.s5 rfl) gU
  · have fo := F.fo u v u0 u1 v0 v1
    refine fo.ex e (nP fo.s0 rfl) (nP fo.s1 rfl) (fun j => g29 _) (g30 _) (fun i i0 i1 => ?_)
    have sr := fo.ss i i0 i1
    exact sr.ex e (nP sr.s0 rfl) (nP sr.s1 rfl) (nP sr.s2 rfl) (nP sr.s3 rfl) (nP sr.s4 rfl) gS
  · rw [e72] at l1
    obtain ⟨f1, f2⟩ := F.fl l l0 l1
    rw [e.A F.s1 rfl (nP F.s1 rfl)]
    exact ⟨f1, f2.ex e (nP f2.s0 rfl) (nP f2.s1 rfl) (g63 l) (fun k _ _ => g62 _)⟩
  · intro u v u' v' i j u0 u1 v0 v1 u0' u1' v0' v1' i0 i1 j0 j1
    rw [g30] at i1 j1
    rw [g29, g29]
    exact F.ti u v u' v' i j u0 u1 v0 v1 u0' u1' v0' v1' i0 i1 j0 j1
theorem FS.ex (F : FS x c tp rd h g) (e : evx P h h') (p0 : ¬ P c) (p1 : ¬ P tp) (p2 : ¬ P rd) (eg : ∀ j, (j = 63 ∨ j = 68 ∨ j = 72 ∨ j = 73 ∨ j = 75 ∨ j = 84 ∨ j = 85 ∨ j = 86) → cq_I g' x j = cq_I g x j) (e61 : ∀ j, cq_I g' (x + 61) j = cq_I g (x + 61) j) (e65 : ∀ j, cq_I g' (x + 65) j = cq_I g (x + 65) j) : FS x c tp rd h' g' := by
  have eI := e.I F.s0 rfl p0
  have eA := e.A F.s0 rfl p0
  refine ⟨e.s F.s0 (by decide), e.s F.s1 (by decide), e.s F.s2 (by decide), by rw [eA]; exact F.a8, by rw [eA]; exact F.a10, by rw [eI, eg 72 (by omega)]; exact F.lc, by rw [eI, eg 73 (by omega)]; exact F.cc, by rw [eI, eg 63 (by omega)]; exact F.bc, by rw [eI, eg 85 (by omega)]; exact F.mc, by rw [eI, eg 84 (by omega)]; exact F.oc, by rw [eI, eg 86 (by omega)]; exact F.kc, by rw [eI, eg 68 (by omega)]; exact F.tc, by rw [eI, eg 75 (by omega)]; exact F.rc, fun k k0 k1 => ?_, fun k k0 k1 => ?_, fun k k0 k1 => by rw [eg 68 (by omega)] at k1; rw [e61]; exact F.tb k k0 k1⟩
  · rw [eg 68 (by omega)] at k1
    rw [e.I F.s1 rfl p1, e61]
    exact F.tp_ k k0 k1
  · rw [eg 75 (by omega)] at k1
    rw [e.I F.s2 rfl p2, e65]
    exact F.rd_ k k0 k1
theorem FX.ev (F : FX c x n pe ro pa lb tp rd en op ob T Lf h g) (e : ev h h') : FX c x n pe ro pa lb tp rd en op ob T Lf h' g := F.upS (P := fun _ => False) e.x (fun _ _ => False) (fun _ _ _ _ _ _ => ⟨rfl, rfl⟩) (fun _ q => q.elim) (fun _ _ q => q.elim) (e.A F.fs.s0 rfl) (by rw [e.A F.s13 rfl]) rfl rfl (F.fs.ex (P := fun _ => False) e.x id id id (fun _ _ => rfl) (fun _ => rfl) (fun _ => rfl))
theorem eT.R {R : Nat → Int → Prop} (e : eT x g g') : eqR x R g g' := fun o j h1 h2 h3 _ => e.2.2.2.2 (x + o) j (fun t => by
  rcases t with t | ⟨o', q1, q2⟩
  · omega
  · have : o' = o := by omega
    rw [this] at q1
    exact h3 q1)
/-- the reference's terms are not read -/
theorem FX.eT (F : FX c x n pe ro pa lb tp rd en op ob T Lf h g) (e : eT x g g') : FX c x n pe ro pa lb tp rd en op ob T Lf h g' := by
  have r : eqR x (fun _ _ => False) g g' := e.R
  exact F.upS (P := fun _ => False) evx.refl (fun _ _ => False) r (fun _ q => q.elim) (fun _ _ q => q.elim) rfl rfl (e.xI (by decide) (by decide) (by decide)) (e.xI (by decide) (by decide) (by decide)) (F.fs.ex (P := fun _ => False) evx.refl id id id (fun j w => e.xI (by omega) (by omega) (by omega)) (fun j => (r 61 j (by decide) (by decide) (by decide) id).1) (fun j => (r 65 j (by decide) (by decide) (by decide) id).1))
/-- the reference's cells, by their sorts -/
theorem okP_R {k : Nat} (q : isR k) : okP k = false := by
  unfold isR at q
  rcases q with q | q | q
  · rw [q]; rfl
  · rw [q]; rfl
  · unfold okP
    have e1 : Nat.ble 106 k = true := Nat.ble_eq_true_of_le q.1
    have e2 : Nat.ble k 170 = true := Nat.ble_eq_true_of_le q.2
    rw [e1, e2]
    simp
/-- the reference's own call: the class's cells are as they were -/
theorem FX.wz (F : FX c x n pe ro pa lb tp rd en op ob T Lf h g) (W : wz x h h') (S : rS h x) : FX c x n pe ro pa lb tp rd en op ob T Lf h' g := by
  have e : evx (fun a => x ≤ a ∧ a ≤ x + 65) h h' := by
    refine ⟨fun a _ => ⟨by rw [W.2.1], by rw [W.2.2.1]⟩, fun a q => (W.2.2.2.2 a (fun w => ?_)).2, fun a _ q => ⟨(W.2.2.2.2 a q).2, fun _ => (W.2.2.2.2 a q).1, fun _ => by rw [W.2.2.2.1]⟩⟩
    have := S.isR w
    rw [q] at this
    unfold isR at this
    omega
  have nr : ∀ {a k : Nat}, cq_s h a = k → ¬ isR k → ¬ (x ≤ a ∧ a ≤ x + 65) := fun q w z => w (by rw [← q]; exact S.isR z)
  refine F.upS e (fun _ _ => False) (fun _ _ _ _ _ _ => ⟨rfl, rfl⟩) (fun a q => okP_R (S.isR q)) (fun _ _ q => q.elim) (by rw [W.2.2.2.1]) (by rw [W.2.2.2.1]) rfl rfl (F.fs.ex e (nr F.fs.s0 (by unfold isR; omega)) (nr F.fs.s1 (by unfold isR; omega)) (nr F.fs.s2 (by unfold isR; omega)) (fun _ _ => rfl) (fun _ => rfl) (fun _ => rfl))
/-- the class's own call: the reference's cells are as they were -/
theorem FX.fr (F : FX c x n pe ro pa lb tp rd en op ob T Lf h g) (W : FR g g') (S : rS g x) : FX c x n pe ro pa lb tp rd en op ob T Lf h g' := by
  have q : ∀ o, o ≤ 65 → cq_I g' (x + o) = cq_I g (x + o) ∧ cq_J g' (x + o) = cq_J g (x + o) := fun o w => by
    have := (W.2 (x + o) (S.isR ⟨by omega, by omega⟩)).2
    exact ⟨this.2.2.1, this.2.2.2.1⟩
  have q0 : cq_I g' x = cq_I g x := (q 0 (by omega)).1
  refine F.upS (P := fun _ => False) evx.refl (fun _ _ => False) (fun o j _ h2 _ _ => ⟨by rw [(q o h2).1], by rw [(q o h2).2]⟩) (fun _ q => q.elim) (fun _ _ q => q.elim) rfl rfl (by rw [q0]) (by rw [q0]) (F.fs.ex (P := fun _ => False) evx.refl id id id (fun j w => by rw [q0]) (fun j => by rw [(q 61 (by decide)).1]) (fun j => by rw [(q 65 (by decide)).1]))
end
