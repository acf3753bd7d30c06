/-! turns and terms: a LOOK -/
/-- only what was got is other -/
def zC (x : Nat) (h h' g g' : cx_Q) : Prop := (cq_s h' = cq_s h ∧ cq_z h' = cq_z h ∧ cq_J h' = cq_J h ∧ cq_A h' = cq_A h) ∧ (∀ j, j ≠ 86 → cq_I g' x j = cq_I g x j) ∧ (∀ o j, 1 ≤ o → o ≠ 7 → cq_I g' (x + o) j = cq_I g (x + o) j) ∧ ∀ o j, 1 ≤ o → cq_J g' (x + o) j = cq_J g (x + o) j
section
variable {x : Nat} {h h' g g' : cx_Q}
theorem zC.symm (e : zC x h h' g g') : zC x h' h g' g := ⟨⟨e.1.1.symm, e.1.2.1.symm, e.1.2.2.1.symm, e.1.2.2.2.symm⟩, fun j w => (e.2.1 j w).symm, fun o j w1 w2 => (e.2.2.1 o j w1 w2).symm, fun o j w => (e.2.2.2 o j w).symm⟩
theorem zC.t (e : zC x h h' g g') {t s a b c d : Int} (p : tmT x g t s a b c d) : tmT x g' t s a b c d := by
  unfold tmT
  rw [e.2.1 2 (by decide), e.2.2.1 2 t (by decide) (by decide), e.2.2.1 3 t (by decide) (by decide), e.2.2.1 4 t (by decide) (by decide), e.2.2.1 5 t (by decide) (by decide), e.2.2.1 6 t (by decide) (by decide)]
  exact p
theorem zC.n (e : zC x h h' g g') {c : Int} : ∀ {n : Nat} {t : Int}, nx x g c n t → nx x g' c n t
  | 0, _, p => p
  | _ + 1, _, ⟨a, p1, p2⟩ => ⟨a, zC.n e p1, e.t p2⟩
theorem zC.k (e : zC x h h' g g') {c : Int} {n : Nat} {t : Int} (p : kx x g c n t) : kx x g' c n t := by
  obtain ⟨a, p1, p2⟩ := p
  exact ⟨a, e.n p1, e.t p2⟩
theorem zC.s (e : zC x h h' g g') {w : Int64} {t : Int} (p : zS x g w t) : zS x g' w t := by
  have e10 := e.2.1 10 (by decide)
  rcases p with ⟨k, p1, p2, p3, p4⟩ | ⟨p1, p2⟩
  · exact Or.inl ⟨k, p1, by rw [e10]; exact p2, by rw [e.2.2.2 9 k (by decide)]; exact p3, by rw [e.2.2.1 10 k (by decide) (by decide)]; exact p4⟩
  · exact Or.inr ⟨p1, fun k k0 k1 => by rw [e10] at k1; rw [e.2.2.2 9 k (by decide)]; exact p2 k k0 k1⟩
theorem zC.v (e : zC x h h' g g') {o : Option Nat} {t : Int} (p : zV x h g o t) : zV x h' g' o t := by
  rcases p with p | ⟨w, p1, p2, p3⟩
  · exact Or.inl p
  · exact Or.inr ⟨w, p1, by rw [e.1.1]; exact p2, by rw [e.1.2.2.1]; exact e.s p3⟩
theorem zC.p (e : zC x h h' g g') {kd : Int → Nat} {o1 o2 : Option Nat} {k : Int} (p : zP x h g kd o1 o2 k) : zP x h' g' kd o1 o2 k := by
  obtain ⟨t1, t2, p1, p2, p3⟩ := p
  exact ⟨t1, t2, e.v p1, e.t p2, p3.imp e.v id⟩
theorem zC.f (e : zC x h h' g g') {kd : Int → Nat} {r : Nat} {t : Int} (p : zF x h g kd r t) : zF x h' g' kd r t := by
  obtain ⟨ta, tb, tc, td, p1, p2, p3, p4, p5⟩ := p
  unfold zF
  rw [e.1.2.1, e.1.2.2.2]
  exact ⟨ta, tb, tc, td, e.p p1, e.p p2, e.p p3, p4.imp id (fun y => ⟨y.1, e.p y.2⟩), e.t p5⟩
theorem zC.q (e : zC x h h' g g') {kd : Int → Nat} {r : Nat} {b tR tC : Int} (p : zQ x h g kd r b tR tC) : zQ x h' g' kd r b tR tC := by
  obtain ⟨p1, k, p2, p3, p4⟩ := p
  unfold zQ
  rw [e.1.2.1, e.1.2.2.2]
  exact ⟨p1, k, e.p p2, e.t p3, e.t p4⟩
theorem zC.kk (e : zC x h h' g g') {kd : Int → Nat} {o : Option Nat} {n : Nat} (p : zK x h g kd o n) : zK x h' g' kd o n := by
  obtain ⟨w, t, p1, p2, p3, p4⟩ := p
  exact ⟨w, t, p1, by rw [e.1.1]; exact p2, by rw [e.1.2.2.1]; exact e.s p3, p4⟩
theorem zC.b (e : zC x h h' g g') {kd : Int → Nat} {r : Nat} (p : zB x h g kd r) : zB x h' g' kd r := by
  obtain ⟨⟨p1, p2, p3⟩, p4, p5⟩ := p
  unfold zB
  rw [e.1.2.1, e.1.2.2.2]
  exact ⟨⟨e.kk p1, e.kk p2, e.kk p3⟩, p4, fun z => ⟨(p5 z).1, e.kk (p5 z).2⟩⟩
end
/-- a SESSION of a user -/
def zI (x : Nat) (n u : Int) (g : cx_Q) (s : Int) : Prop := ∃ v i, 0 ≤ v ∧ v < n ∧ 0 ≤ i ∧ i < cq_I g (x + 30) (6 * u + v) ∧ s = cq_I g (x + 29) (4 * (6 * u + v) + i)
/-- the class's marks of a LOOK -/
def zMw (x : Nat) (n : Int) (pe T : Int → Nat) (u : Int) (h g : cx_Q) (w : Nat) : Prop := cq_A h (pe u) 3 = some w ∨ (∃ k, 1 ≤ k ∧ cq_I g (x + 16) u - 1 ≤ k ∧ k ≤ cq_I g (x + 16) u ∧ cq_A h (pe u + 1) k = some w) ∨ (∃ k, 1 ≤ k ∧ k ≤ cq_I g (x + 23) u ∧ cq_I g (x + 28) (61 * u + k) ≠ 0 ∧ cq_A h (pe u + 2) k = some w) ∨ ∃ s, zI x n u g s ∧ cq_A h (T s) 12 = some w
def zM (x : Nat) (n : Int) (pe T : Int → Nat) (u : Int) (h g : cx_Q) (m : Nat × Int × Bool × Int) : Prop := (∃ w, m = (w, 3, false, 0) ∧ zMw x n pe T u h g w) ∨ ∃ s, zI x n u g s ∧ ((∃ S, cq_A h (T s) 7 = some S ∧ m = (S, 4, false, 0)) ∨ (∃ S, cq_A h (T s) 9 = some S ∧ m = (S, 5, true, cq_I g (x + 40) s)) ∨ (∃ R, cq_A h (T s) 11 = some R ∧ m = (R, 5, true, cq_I g (x + 41) s)) ∨ ∃ r R b, 0 ≤ r ∧ r < cq_I g (x + 53) s ∧ cq_A h (T s + 5) r = some R ∧ cq_A h R 6 = some b ∧ 0 ≤ cq_I g (x + 55) (20 * s + r) ∧ cq_I g (x + 55) (20 * s + r) < 80 ∧ m = (b, cq_I g (x + 55) (20 * s + r), false, 0))
section
variable {c x nt : Nat} {n : Int} {T Lf : Int → Nat} {dom sd : Nat → Prop} {rt ct : Nat → Int} {dp : Nat → Nat} {kd : Int → Nat} {m : Nat} {h g h' g' : cx_Q} {E E0 : Nat → Option Int} {pe : Int → Nat} {ro : Int → Int → Nat} {pa lb tp rd en op ob : Nat}
theorem TX.zi (X : TX c x nt n T Lf dom sd rt ct dp kd m h g) {u s : Int} (hu : 0 ≤ u ∧ u < n) (q : zI x n u g s) : zR x nt dom sd rt ct h g (T s) s := by
  obtain ⟨v, i, v0, v1, i0, i1, e⟩ := q
  rw [e]
  exact X.q1 u v i hu.1 hu.2 v0 v1 i0 i1
theorem S5_M (F : FX c x n pe ro pa lb tp rd en op ob T Lf h g) (X : TX c x nt n T Lf dom sd rt ct dp kd m h g) {u : Int} (hu : 0 ≤ u ∧ u < n) (mk : Nat × Int × Bool × Int) : S5 h n (pe u) mk ↔ zM x n pe T u h g mk := by
  have fu := F.fu u hu.1 hu.2
  constructor
  · intro q
    rcases q with ((q | q) | q) | q
    · obtain ⟨w, q1, q2⟩ := q
      exact Or.inl ⟨w, q2, Or.inl q1⟩
    · obtain ⟨i, i1, i2, i3, b, q1, w, q2, q3⟩ := q
      rw [fu.a8] at q1
      cases q1
      rw [fu.ln] at i2 i3
      exact Or.inl ⟨w, q3, Or.inr (Or.inl ⟨i, i1, i3, by omega, q2⟩)⟩
    · obtain ⟨i, i1, i2, b, d, q1, q2, q3, w, q4, q5⟩ := q
      rw [fu.a9] at q1
      rw [fu.a10] at q2
      cases q1
      cases q2
      rw [fu.on] at i2
      exact Or.inl ⟨w, q5, Or.inr (Or.inr (Or.inl ⟨i, i1, by omega, (fu.ou i i1 (by omega)).mp q3, q4⟩))⟩
    · obtain ⟨v, v0, v1, b, r, q1, q2, i, i0, i1, a, q4, q5⟩ := q
      rw [(F.r13 u hu.1 hu.2).1] at q1
      cases q1
      rw [F.ra u v hu.1 hu.2 v0 v1] at q2
      cases q2
      have fo := F.fo u v hu.1 hu.2 v0 v1
      rw [fo.rm] at i1
      rw [fo.at_ i i0 i1] at q4
      cases q4
      have sr := fo.ss i i0 i1
      have zr := X.q1 u v i hu.1 hu.2 v0 v1 i0 i1
      have zi : zI x n u g (cq_I g (x + 29) (4 * (6 * u + v) + i)) := ⟨v, i, v0, v1, i0, i1, rfl⟩
      rcases q5 with (((q | q) | q) | q) | q
      · obtain ⟨w, q1, q2⟩ := q
        exact Or.inl ⟨w, q2, Or.inr (Or.inr (Or.inr ⟨_, zi, q1⟩))⟩
      · exact Or.inr ⟨_, zi, Or.inl q⟩
      · rw [sr.ns] at q
        exact Or.inr ⟨_, zi, Or.inr (Or.inl q)⟩
      · rw [sr.nr] at q
        exact Or.inr ⟨_, zi, Or.inr (Or.inr (Or.inl q))⟩
      · obtain ⟨k, q1, b1, b3, q2, q3, j, j0, j1, R, b, q4, q5, q6, q7, q8⟩ := q
        rw [sr.a19] at q1
        cases q1
        rw [sr.k1] at q2
        cases q2
        rw [zr.2.2.1.1] at q3
        cases q3
        rw [sr.km] at j1
        rw [(sr.kk j j0 j1).2.1] at q6 q7 q8
        exact Or.inr ⟨_, zi, Or.inr (Or.inr (Or.inr ⟨j, R, b, j0, j1, q4, q5, q6, q7, q8⟩))⟩
  · intro q
    have ses : ∀ s, zI x n u g s → S8 h (T s) mk → S5 h n (pe u) mk := fun s zi q8 => by
      obtain ⟨v, i, v0, v1, i0, i1, e⟩ := zi
      have fo := F.fo u v hu.1 hu.2 v0 v1
      refine Or.inr ⟨v, v0, v1, _, _, (F.r13 u hu.1 hu.2).1, F.ra u v hu.1 hu.2 v0 v1, i, i0, by rw [fo.rm]; exact i1, _, fo.at_ i i0 i1, ?_⟩
      rw [← e]
      exact q8
    rcases q with ⟨w, q1, q2⟩ | ⟨s, zi, q⟩
    · rcases q2 with q2 | q2 | q2 | q2
      · exact Or.inl (Or.inl (Or.inl ⟨w, q2, q1⟩))
      · obtain ⟨k, k1, k2, k3, k4⟩ := q2
        exact Or.inl (Or.inl (Or.inr ⟨k, k1, by rw [fu.ln]; omega, by rw [fu.ln]; exact k2, _, fu.a8, w, k4, q1⟩))
      · obtain ⟨k, k1, k2, k3, k4⟩ := q2
        exact Or.inl (Or.inr ⟨k, k1, by rw [fu.on]; omega, _, _, fu.a9, fu.a10, (fu.ou k k1 k2).mpr k3, w, k4, q1⟩)
      · obtain ⟨s, zi, k4⟩ := q2
        exact ses s zi (Or.inl (Or.inl (Or.inl (Or.inl ⟨w, k4, q1⟩))))
    · have sr : SR x (T s) s h g := by
        obtain ⟨v, i, v0, v1, i0, i1, e⟩ := zi
        rw [e]
        exact (F.fo u v hu.1 hu.2 v0 v1).ss i i0 i1
      have zr := X.zi hu zi
      refine ses s zi ?_
      rcases q with q | q | q | q
      · exact Or.inl (Or.inl (Or.inl (Or.inr q)))
      · exact Or.inl (Or.inl (Or.inr (by rw [sr.ns]; exact q)))
      · exact Or.inl (Or.inr (by rw [sr.nr]; exact q))
      · obtain ⟨j, R, b, j0, j1, q4, q5, q6, q7, q8⟩ := q
        have kk := (sr.kk j j0 j1).2.1
        exact Or.inr ⟨_, sr.a19, _, _, sr.k1, zr.2.2.1.1, j, j0, by rw [sr.km]; exact j1, R, b, q4, q5, by rw [kk]; exact q6, by rw [kk]; exact q7, by rw [kk]; exact q8⟩
/-- turns with one chain are one -/
theorem TB.ct_inj (B : TB c x nt dom sd rt ct dp kd m h g) {a R : Nat} (sa : sd a) (dR : dom R) (nR : cq_A h R 0 ≠ some nt) (e : ct R = ct a) : R = a := by
  obtain ⟨b, r, _, _, _, _, _, k, _, y1, y2⟩ := B.sp sa
  obtain ⟨_, _, b', r', z3, z4, _, z6⟩ := B.t1 R dR
  rcases z6 with ⟨z, _⟩ | ⟨_, _, _, k', _, z7, z8⟩
  · rw [z3, z] at nR
    exact absurd rfl nR
  · rw [e] at z8
    obtain ⟨_, w1, w2, _⟩ := tm_fun z8 y2
    rw [w1, w2] at z7
    exact B.t2 a R sa dR (tm_inj B.tw z7 y1 (by decide))
theorem TB.ct5 (B : TB c x nt dom sd rt ct dp kd m h g) {R : Nat} (dR : dom R) (nR : cq_A h R 0 ≠ some nt) : cq_I g (x + 2) (ct R) = 5 := by
  obtain ⟨_, _, b', r', z3, z4, _, z6⟩ := B.t1 R dR
  rcases z6 with ⟨z, _⟩ | ⟨_, _, _, k', _, z7, z8⟩
  · rw [z3, z] at nR
    exact absurd rfl nR
  · exact z8.2.1
/-- the kind of a SESSION's own SECRET -/
theorem TX.own5 (X : TX c x nt n T Lf dom sd rt ct dp kd m h g) {s : Int} (Q : zR x nt dom sd rt ct h g (T s) s) : kd (cq_I g (x + 52) s) = 5 := by
  obtain ⟨⟨S, r, w, p1, p2, p3, p4, p5, p6, p7, p8, p9, p10⟩, _⟩ := Q
  obtain ⟨_, r', b, y1, y2, _⟩ := X.b.t3 S p3
  rw [p7] at y1
  cases y1
  rw [p8] at y2
  obtain ⟨w', t, z1, z2, z3, z4⟩ := y2
  cases z1
  rw [X.b.sfun p10 z3]
  exact z4
end
