/-! turns and terms: calls that make no turn -/
/-- the rows that SESSIONS and letters stand in are as they were, or a row of SESSIONS is empty -/
def zRw (x : Nat) (g g' : cx_Q) : Prop := (∀ o j, o = 29 ∨ o = 40 ∨ o = 41 ∨ o = 48 ∨ o = 50 ∨ o = 51 ∨ o = 52 ∨ o = 53 ∨ o = 55 ∨ o = 57 → cq_I g' (x + o) j = cq_I g (x + o) j) ∧ ∀ j, cq_I g' (x + 30) j = cq_I g (x + 30) j ∨ cq_I g' (x + 30) j = 0
section
variable {c x nt : Nat} {n : Int} {T Lf : Int → Nat} {dom sd : Nat → Prop} {rt ct : Nat → Int} {dp : Nat → Nat} {kd kd' : Int → Nat} {m m' : Nat} {h g h' g' : cx_Q} {E E0 : Nat → Option Int} {pe : Int → Nat} {ro : Int → Int → Nat} {pa lb tp rd en op ob : Nat}
/-- turns come behind noTurn -/
theorem TB.ntl (B : TB c x nt dom sd rt ct dp kd m h g) (C0 : CT c E0 h [] h) : ∀ (k a : Nat), dom a → dp a ≤ k → nt < a := by
  intro k
  induction k with
  | zero =>
    intro a da l
    obtain ⟨_, _, b, r, _, _, _, y⟩ := B.t1 a da
    rcases y with ⟨_, y, _⟩ | ⟨_, y, _⟩ <;> omega
  | succ k ih =>
    intro a da l
    obtain ⟨sa, _, b, r, e0, _, _, y⟩ := B.t1 a da
    rcases C0.2.2.2.2.2.2.1 a sa List.not_mem_nil with w | ⟨b', w1, w2, _⟩
    · rw [w] at e0; cases e0
    · rw [w1] at e0
      cases e0
      rcases y with ⟨y, _⟩ | ⟨y1, y2, _⟩
      · omega
      · have := ih b y1 (by omega)
        omega
/-- a turn stands behind the one ahead of it -/
theorem CT.bl (C0 : CT c E0 h [] h) {a b : Nat} (sa : cq_s h a = 8) (e : cq_A h a 0 = some b) : b < a := by
  rcases C0.2.2.2.2.2.2.1 a sa List.not_mem_nil with w | ⟨b', w1, w2, _⟩
  · rw [w] at e; cases e
  · rw [w1] at e
    cases e
    exact w2
/-- frames of SESSIONS where no call opened a letter -/
theorem CT.fs {s0 : Int} (C : CT c E h [] h') (he : ∀ d, cq_s h d = 7 ∨ cq_s h d = 174 ∨ cq_s h d = 1 → E d = none) {a : Nat} (Q : zR x nt dom sd rt ct h g a s0) : cq_A h' a = cq_A h a ∧ cq_A h' (a + 1) 3 = cq_A h (a + 1) 3 ∧ cq_A h' (a + 5) = cq_A h (a + 5) := by
  obtain ⟨_, _, ⟨_, k2, k3, _⟩, m1, _⟩ := Q
  have c16 := C.2.2.2.2.2.2.2.2.2.2.2.2.2.2.2.1
  have c18 := C.2.2.2.2.2.2.2.2.2.2.2.2.2.2.2.2.2.1
  exact ⟨funext fun j => c18 a j 7 m1 (Or.inl rfl) (he a (Or.inl m1)), c18 (a + 1) 3 1 k2 (Or.inr (Or.inr ⟨rfl, rfl⟩)) (he _ (Or.inr (Or.inr k2))), funext fun j => c16 (a + 5) j k3 (he _ (Or.inr (Or.inl k3)))⟩
theorem TX.gen (X : TX c x nt n T Lf dom sd rt ct dp kd m h g) (F : FX c x n pe ro pa lb tp rd en op ob T Lf h g) (C0 : CT c E0 h [] h) (C : CT c E h [] h') (he : ∀ d, cq_s h d = 7 ∨ cq_s h d = 174 ∨ cq_s h d = 1 → E d = none) (B' : TB c x nt dom sd rt ct dp kd' m' h' g') (N : zN x h h' g g') (kz : kd' 0 = 0) (R : zRw x g g') (r72 : cq_I g' x 72 = cq_I g x 72) (r64 : ∀ l, cq_I g' (x + 64) l = cq_I g (x + 64) l) (n0 : ∀ u, 0 ≤ u → u < n → cq_I g' (x + 11) u = 0 → cq_I g' (x + 16) u = 0 ∧ cq_I g' (x + 23) u = 0 ∧ ∀ v, 0 ≤ v → v < n → cq_I g' (x + 30) (6 * u + v) = 0) (n1 : ∀ u, 0 ≤ u → u < n → cq_I g' (x + 11) u ≠ 0 → zS x g' (cq_J g' (x + 14) u) (cq_I g' (x + 15) u) ∧ kd' (cq_I g' (x + 15) u) = 2) (n2 : ∀ u k, 0 ≤ u → u < n → 1 ≤ k → k ≤ cq_I g' (x + 16) u → zS x g' (cq_J g' (x + 18) (21 * u + k)) (cq_I g' (x + 19) (21 * u + k)) ∧ kd' (cq_I g' (x + 19) (21 * u + k)) = 3) (n3 : ∀ u k, 0 ≤ u → u < n → 1 ≤ k → k ≤ cq_I g' (x + 23) u → zS x g' (cq_J g' (x + 25) (61 * u + k)) (cq_I g' (x + 26) (61 * u + k)) ∧ kd' (cq_I g' (x + 26) (61 * u + k)) = 4) : TX c x nt n T Lf dom sd rt ct dp kd' m' h' g' := by
  refine ⟨B', kz, n0, n1, n2, n3, fun u v i u0 u1 v0 v1 i0 i1 => ?_, fun l l0 l1 => ?_⟩
  · have i1' : i < cq_I g (x + 30) (6 * u + v) := by
      rcases R.2 (6 * u + v) with y | y
      · omega
      · omega
    rw [R.1 29 _ (Or.inl rfl)]
    have Q := X.q1 u v i u0 u1 v0 v1 i0 i1'
    obtain ⟨f1, f2, f3⟩ := C.fs he Q
    exact Q.fr X.b C0 C zE.refl N f1 f2 f3 (fun o w => R.1 o _ (by omega)) (fun o r w _ _ => R.1 o _ (by omega)) (by omega)
  · rw [r72] at l1
    exact (X.l1 l l0 l1).fr X.b C zE.refl N.1 (F.fl l l0 l1).2.s0 (r64 l)
/-- numbers of the DIRECTORY that were there -/
theorem TX.old1 (X : TX c x nt n T Lf dom sd rt ct dp kd m h g) (F : FX c x n pe ro pa lb tp rd en op ob T Lf h g) (N : zN x h h' g g') (hk : ∀ t, kd t ≠ 0 → kd' t = kd t) {u : Int} (u0 : 0 ≤ u) (u1 : u < n) (i : cq_I g (x + 11) u ≠ 0) (eJ : cq_J g' (x + 14) u = cq_J g (x + 14) u) (eI : cq_I g' (x + 15) u = cq_I g (x + 15) u) : zS x g' (cq_J g' (x + 14) u) (cq_I g' (x + 15) u) ∧ kd' (cq_I g' (x + 15) u) = 2 := by
  obtain ⟨y1, y2⟩ := X.n1 u u0 u1 i
  obtain ⟨d, _, d2, _, d3, _⟩ := (F.fu u u0 u1).n1 i
  rw [eJ, eI]
  exact ⟨N.w ⟨d, d2, d3⟩ y1, by rw [hk _ (by rw [y2]; decide)]; exact y2⟩
theorem TX.old2 (X : TX c x nt n T Lf dom sd rt ct dp kd m h g) (F : FX c x n pe ro pa lb tp rd en op ob T Lf h g) (N : zN x h h' g g') (hk : ∀ t, kd t ≠ 0 → kd' t = kd t) {u k : Int} (u0 : 0 ≤ u) (u1 : u < n) (k0 : 1 ≤ k) (k1 : k ≤ cq_I g (x + 16) u) (eJ : cq_J g' (x + 18) (21 * u + k) = cq_J g (x + 18) (21 * u + k)) (eI : cq_I g' (x + 19) (21 * u + k) = cq_I g (x + 19) (21 * u + k)) : zS x g' (cq_J g' (x + 18) (21 * u + k)) (cq_I g' (x + 19) (21 * u + k)) ∧ kd' (cq_I g' (x + 19) (21 * u + k)) = 3 := by
  obtain ⟨y1, y2⟩ := X.n2 u k u0 u1 k0 k1
  obtain ⟨d, _, d2, _, d3⟩ := (F.fu u u0 u1).lk k k0 k1
  rw [eJ, eI]
  exact ⟨N.w ⟨d, d2, d3⟩ y1, by rw [hk _ (by rw [y2]; decide)]; exact y2⟩
theorem TX.old3 (X : TX c x nt n T Lf dom sd rt ct dp kd m h g) (F : FX c x n pe ro pa lb tp rd en op ob T Lf h g) (N : zN x h h' g g') (hk : ∀ t, kd t ≠ 0 → kd' t = kd t) {u k : Int} (u0 : 0 ≤ u) (u1 : u < n) (k0 : 1 ≤ k) (k1 : k ≤ cq_I g (x + 23) u) (eJ : cq_J g' (x + 25) (61 * u + k) = cq_J g (x + 25) (61 * u + k)) (eI : cq_I g' (x + 26) (61 * u + k) = cq_I g (x + 26) (61 * u + k)) : zS x g' (cq_J g' (x + 25) (61 * u + k)) (cq_I g' (x + 26) (61 * u + k)) ∧ kd' (cq_I g' (x + 26) (61 * u + k)) = 4 := by
  obtain ⟨y1, y2⟩ := X.n3 u k u0 u1 k0 k1
  obtain ⟨d, _, d2, _, d3⟩ := (F.fu u u0 u1).ok k k0 k1
  rw [eJ, eI]
  exact ⟨N.w ⟨d, d2, d3⟩ y1, by rw [hk _ (by rw [y2]; decide)]; exact y2⟩
/-- nothing is drawn -/
theorem zN_0 (C : CT c E h [] h') (e : exT x g g') (e10 : cq_I g' x 10 = cq_I g x 10) (U : ∀ w w', cq_s h' w = 6 → cq_s h' w' = 6 → cq_J h' w 1 = cq_J h' w' 1 → w = w') : zN x h h' g g' ∧ zO x g g' := by
  refine ⟨⟨e, fun w s => ⟨(C.1 w (by rw [s]; decide)).1.trans s, (C.2.1 w 1 s).1⟩, U, fun k k0 k1 => by omega⟩, fun k k0 k1 => by omega, fun k k' k0 k1 => by omega⟩
/-- a call that leaves terms, SESSIONS and letters -/
theorem TX.quiet (X : TX c x nt n T Lf dom sd rt ct dp kd m h g) (F : FX c x n pe ro pa lb tp rd en op ob T Lf h g) (C0 : CT c E0 h [] h) (C : CT c E h [] h') (hC : E c = none) (hc : cq_s h c = 9) (he : ∀ d, cq_s h d = 7 ∨ cq_s h d = 174 ∨ cq_s h d = 1 → E d = none) (W : TW x g') (U : ∀ w w', cq_s h' w = 6 → cq_s h' w' = 6 → cq_J h' w 1 = cq_J h' w' 1 → w = w') (hm : m ≤ m') (e : exT x g g') (e10 : cq_I g' x 10 = cq_I g x 10) (R : zRw x g g') (r72 : cq_I g' x 72 = cq_I g x 72) (rI : ∀ o j, o = 11 ∨ o = 15 ∨ o = 16 ∨ o = 19 ∨ o = 23 ∨ o = 26 ∨ o = 64 → cq_I g' (x + o) j = cq_I g (x + o) j) (rJ : ∀ o j, o = 14 ∨ o = 18 ∨ o = 25 → cq_J g' (x + o) j = cq_J g (x + o) j) : TX c x nt n T Lf dom sd rt ct dp kd m' h' g' := by
  obtain ⟨N, O⟩ := zN_0 C e e10 U
  have hk : ∀ t, kd t ≠ 0 → kd t = kd t := fun _ _ => rfl
  have B' := X.b.ext C0 C hC hc W N O hk (fun t z => Or.inl z) (fun t z => by have := X.b.k2 t z; have := e.1.1; omega) hm
  refine X.gen F C0 C he B' N X.kz R r72 (fun l => rI 64 l (by omega)) (fun u u0 u1 q => ?_) (fun u u0 u1 q => ?_) (fun u k u0 u1 k0 k1 => ?_) (fun u k u0 u1 k0 k1 => ?_)
  · rw [rI 11 u (by omega)] at q
    rw [rI 16 u (by omega), rI 23 u (by omega)]
    obtain ⟨y1, y2, y3⟩ := X.n0 u u0 u1 q
    refine ⟨y1, y2, fun v v0 v1 => ?_⟩
    have := y3 v v0 v1
    rcases R.2 (6 * u + v) with y | y <;> omega
  · rw [rI 11 u (by omega)] at q
    exact X.old1 F N hk u0 u1 q (rJ 14 u (by omega)) (rI 15 u (by omega))
  · rw [rI 16 u (by omega)] at k1
    exact X.old2 F N hk u0 u1 k0 k1 (rJ 18 _ (by omega)) (rI 19 _ (by omega))
  · rw [rI 23 u (by omega)] at k1
    exact X.old3 F N hk u0 u1 k0 k1 (rJ 25 _ (by omega)) (rI 26 _ (by omega))
end
