/-! turns and terms: both go on -/
section
variable {x : Nat} {g g' h h' : cx_Q}
theorem tm_bk (e : exT x g g') {t s a b c d : Int} (p : tmT x g' t s a b c d) (l : t < cq_I g x 2) : tmT x g t s a b c d := by
  obtain ⟨⟨p1, _⟩, p2, p3, p4, p5, p6⟩ := p
  have m := e.2.1
  exact ⟨⟨p1, l⟩, (m t 2 l (by decide) (by decide)).symm.trans p2, (m t 3 l (by decide) (by decide)).symm.trans p3, (m t 4 l (by decide) (by decide)).symm.trans p4, (m t 5 l (by decide) (by decide)).symm.trans p5, (m t 6 l (by decide) (by decide)).symm.trans p6⟩
theorem tm_lt (W : TW x g) {t s a b c d : Int} (p : tmT x g t s a b c d) : a < t ∧ b < t ∧ c < t ∧ d < t := by
  have := W.2.1 t p.1.1 p.1.2
  rw [p.2.2.1, p.2.2.2.1, p.2.2.2.2.1, p.2.2.2.2.2] at this
  exact this
theorem nx_bk (e : exT x g g') (W : TW x g') {c : Int} : ∀ {n : Nat} {t : Int}, nx x g' c n t → t < cq_I g x 2 → nx x g c n t
  | 0, _, p, _ => p
  | n + 1, t, ⟨a, p1, p2⟩, l => ⟨a, nx_bk e W p1 (by have := (tm_lt W p2).1; omega), tm_bk e p2 l⟩
theorem kx_bk (e : exT x g g') (W : TW x g') {c : Int} {n : Nat} {t : Int} (p : kx x g' c n t) (l : t < cq_I g x 2) : kx x g c n t := by
  obtain ⟨a, p1, p2⟩ := p
  exact ⟨a, nx_bk e W p1 (by have := (tm_lt W p2).1; omega), tm_bk e p2 l⟩
theorem nx_ge (W : TW x g) {c : Int} : ∀ {n : Nat} {t : Int}, nx x g c n t → c ≤ t
  | 0, t, p => by
    have e : t = c := p
    omega
  | n + 1, t, ⟨a, p1, p2⟩ => by
    have := nx_ge W p1
    have := (tm_lt W p2).1
    omega
theorem kx_ge (W : TW x g) {c : Int} {n : Nat} {t : Int} (p : kx x g c n t) : c ≤ t := by
  obtain ⟨a, p1, p2⟩ := p
  have := nx_ge W p1
  have := (tm_lt W p2).1
  omega
theorem zG_ex (e : exT x g g') {t : Int} (l : t < cq_I g x 2) : zG x g' t ↔ zG x g t := by
  unfold zG
  rw [e.2.1 t 7 l (by decide) (by decide)]
/-- what was got is an old one -/
theorem zG_lt (e : exT x g g') {t : Int} (l : t < cq_I g' x 2) (q : zG x g' t) : t < cq_I g x 2 := Classical.byContradiction fun z => q (e.2.2.1 t (by omega) l)
theorem zS_ext (e : exT x g g') {w : Int64} {t : Int} (n : ∀ k, cq_I g x 10 ≤ k → k < cq_I g' x 10 → cq_J g' (x + 9) k ≠ w) (p : zS x g w t) : zS x g' w t := by
  have le := e.1.2
  rcases p with ⟨k, p1, p2, p3, p4⟩ | ⟨p1, p2⟩
  · have := e.2.2.2 k p2
    exact Or.inl ⟨k, p1, by omega, this.2.trans p3, this.1.trans p4⟩
  · refine Or.inr ⟨p1, fun k k0 k1 => ?_⟩
    by_cases z : k < cq_I g x 10
    · rw [(e.2.2.2 k z).2]
      exact p2 k k0 z
    · exact n k (by omega) k1
/-- new numbers are none of old SECRETS -/
def zN (x : Nat) (h h' g g' : cx_Q) : Prop := exT x g g' ∧ (∀ w, cq_s h w = 6 → cq_s h' w = 6 ∧ cq_J h' w 1 = cq_J h w 1) ∧ (∀ w w', cq_s h' w = 6 → cq_s h' w' = 6 → cq_J h' w 1 = cq_J h' w' 1 → w = w') ∧ ∀ k, cq_I g x 10 ≤ k → k < cq_I g' x 10 → ∃ w, cq_s h w ≠ 6 ∧ cq_s h' w = 6 ∧ cq_J h' w 1 = cq_J g' (x + 9) k
theorem zN.n (N : zN x h h' g g') {w : Nat} (s : cq_s h w = 6) : ∀ k, cq_I g x 10 ≤ k → k < cq_I g' x 10 → cq_J g' (x + 9) k ≠ cq_J h w 1 := fun k k0 k1 z => by
  obtain ⟨e, o, u, n⟩ := N
  obtain ⟨w', n1, n2, n3⟩ := n k k0 k1
  have := u w w' (o w s).1 n2 (by rw [(o w s).2, n3, z])
  rw [this] at s
  exact n1 s
theorem zN.s (N : zN x h h' g g') {w : Nat} {t : Int} (s : cq_s h w = 6) (p : zS x g (cq_J h w 1) t) : zS x g' (cq_J h' w 1) t := by
  rw [(N.2.1 w s).2]
  exact zS_ext N.1 (N.n s) p
theorem zN.v (N : zN x h h' g g') {o : Option Nat} {t : Int} (p : zV x h g o t) : zV x h' g' o t := by
  rcases p with p | ⟨w, p1, p2, p3⟩
  · exact Or.inl p
  · exact Or.inr ⟨w, p1, (N.2.1 w p2).1, N.s p2 p3⟩
theorem zN.k (N : zN x h h' g g') {kd kd' : Int → Nat} (hk : ∀ t, kd t ≠ 0 → kd' t = kd t) {o : Option Nat} {n : Nat} (n0 : n ≠ 0) (p : zK x h g kd o n) : zK x h' g' kd' o n := by
  obtain ⟨w, t, p1, p2, p3, p4⟩ := p
  exact ⟨w, t, p1, (N.2.1 w p2).1, N.s p2 p3, by rw [hk t (by rw [p4]; exact n0)]; exact p4⟩
theorem zN.p (N : zN x h h' g g') {kd kd' : Int → Nat} (hk : ∀ t, kd t ≠ 0 → kd' t = kd t) {o1 o2 : Option Nat} {k : Int} (p : zP x h g kd o1 o2 k) : zP x h' g' kd' o1 o2 k := by
  obtain ⟨t1, t2, p1, p2, p3⟩ := p
  refine ⟨t1, t2, N.v p1, p2.ex N.1, ?_⟩
  rcases p3 with p3 | ⟨p3, p4, p5⟩
  · exact Or.inl (N.v p3)
  · exact Or.inr ⟨p3, p4, p5.imp id (fun z => by rw [hk t2 (by rw [z]; decide)]; exact z)⟩
theorem zN.f (N : zN x h h' g g') {kd kd' : Int → Nat} (hk : ∀ t, kd t ≠ 0 → kd' t = kd t) {r : Nat} {t : Int} (eA : cq_A h' r = cq_A h r) (ez : cq_z h' r = cq_z h r) (p : zF x h g kd r t) : zF x h' g' kd' r t := by
  obtain ⟨ta, tb, tc, td, p1, p2, p3, p4, p5⟩ := p
  unfold zF
  rw [eA, ez]
  refine ⟨ta, tb, tc, td, N.p hk p1, N.p hk p2, N.p hk p3, ?_, p5.ex N.1⟩
  rcases p4 with p4 | p4
  · exact Or.inl p4
  · exact Or.inr ⟨p4.1, N.p hk p4.2⟩
theorem zN.q (N : zN x h h' g g') {kd kd' : Int → Nat} (hk : ∀ t, kd t ≠ 0 → kd' t = kd t) {r : Nat} {b tR tC : Int} (eA : cq_A h' r = cq_A h r) (ez : cq_z h' r = cq_z h r) (p : zQ x h g kd r b tR tC) : zQ x h' g' kd' r b tR tC := by
  obtain ⟨p1, k, p2, p3, p4⟩ := p
  unfold zQ
  rw [eA, ez]
  exact ⟨p1, k, N.p hk p2, p3.ex N.1, p4.ex N.1⟩
theorem zN.b (N : zN x h h' g g') {kd kd' : Int → Nat} (hk : ∀ t, kd t ≠ 0 → kd' t = kd t) {r : Nat} (eA : cq_A h' r = cq_A h r) (ez : cq_z h' r = cq_z h r) (p : zB x h g kd r) : zB x h' g' kd' r := by
  obtain ⟨⟨p1, p2, p3⟩, p4, p5⟩ := p
  unfold zB
  rw [eA, ez]
  exact ⟨⟨N.k hk (by decide) p1, N.k hk (by decide) p2, N.k hk (by decide) p3⟩, p4, fun z => ⟨(p5 z).1, N.k hk (by decide) (p5 z).2⟩⟩
end
section
variable {c x nt : Nat} {dom sd : Nat → Prop} {rt ct : Nat → Int} {dp : Nat → Nat} {kd kd' : Int → Nat} {m m' : Nat} {h g h' g' : cx_Q} {E E0 : Nat → Option Int}
/-- new draws: their terms are new, and not two the same -/
def zO (x : Nat) (g g' : cx_Q) : Prop := (∀ k, cq_I g x 10 ≤ k → k < cq_I g' x 10 → tmT x g' (cq_I g' (x + 10) k) 1 0 0 0 0 ∧ cq_I g x 2 ≤ cq_I g' (x + 10) k) ∧ ∀ k k', cq_I g x 10 ≤ k → k < cq_I g' x 10 → cq_I g x 10 ≤ k' → k' < cq_I g' x 10 → (cq_I g' (x + 10) k = cq_I g' (x + 10) k' ∨ cq_J g' (x + 9) k = cq_J g' (x + 9) k') → k = k'
theorem TB.ext (B : TB c x nt dom sd rt ct dp kd m h g) (C0 : CT c E0 h [] h) (C : CT c E h [] h') (hC : E c = none) (hc : cq_s h c = 9) (W : TW x g') (N : zN x h h' g g') (O : zO x g g') (hk : ∀ t, kd t ≠ 0 → kd' t = kd t) (hk1 : ∀ t, kd' t = 1 → kd t = 1 ∨ (cq_I g x 2 ≤ t ∧ tmT x g' t 1 0 0 0 0)) (hk2 : ∀ t, kd' t ≠ 0 → t < cq_I g' x 2) (hm : m ≤ m') : TB c x nt dom sd rt ct dp kd' m' h' g' := by
  have e := N.1
  have e10 := e.1.2
  have e2 := e.1.1
  have c1 := C.1
  have c2 := C.2.1
  have c3 := C.2.2.1
  have c4 := C.2.2.2.1
  have c5 := C.2.2.2.2.1
  have c6 := C.2.2.2.2.2.1
  have c15 := C.2.2.2.2.2.2.2.2.2.2.2.2.2.2.1
  have c18 := C.2.2.2.2.2.2.2.2.2.2.2.2.2.2.2.2.2.1
  have f7 := C0.2.2.2.2.2.2.1
  have f14 := C0.2.2.2.2.2.2.2.2.2.2.2.2.2.1
  have s_ : ∀ {d k : Nat}, cq_s h d = k → k ≠ 99 → cq_s h' d = k := fun {d k} y z => (c1 d (by rw [y]; exact z)).1.trans y
  have A101 : ∀ {r : Nat}, cq_s h r = 101 → cq_A h' r = cq_A h r ∧ cq_z h' r = cq_z h r := fun {r} y => ⟨funext fun j => c4 r j y, (c1 r (by rw [y]; decide)).2⟩
  have A8 : ∀ {a : Nat} {j : Int}, cq_s h a = 8 → j ≠ 2 → cq_A h' a j = cq_A h a j := fun {a j} y z => (c3 a j y).1 z
  have I8 : ∀ {a : Nat} (j : Int), cq_s h a = 8 → cq_I h' a j = cq_I h a j := fun {a} j y => (c3 a j y).2 hC
  have oJ : ∀ k, 0 ≤ k → k < cq_I g x 10 → cq_I g' (x + 10) k = cq_I g (x + 10) k ∧ cq_J g' (x + 9) k = cq_J g (x + 9) k := fun k _ k1 => e.2.2.2 k k1
  have o4' : ∀ k, 0 ≤ k → k < cq_I g' x 10 → ∃ w, cq_s h' w = 6 ∧ cq_J h' w 1 = cq_J g' (x + 9) k := fun k k0 k1 => by
    by_cases z : k < cq_I g x 10
    · obtain ⟨w, w1, w2⟩ := B.o4 k k0 z
      exact ⟨w, (N.2.1 w w1).1, by rw [(N.2.1 w w1).2, w2, (oJ k k0 z).2]⟩
    · obtain ⟨w, _, w2, w3⟩ := N.2.2.2 k (by omega) k1
      exact ⟨w, w2, w3⟩
  have old_new : ∀ k k', 0 ≤ k → k < cq_I g x 10 → cq_I g x 10 ≤ k' → k' < cq_I g' x 10 → cq_J g' (x + 9) k ≠ cq_J g' (x + 9) k' := fun k k' k0 k1 l0 l1 z => by
    obtain ⟨w, w1, w2⟩ := B.o4 k k0 k1
    exact N.n w1 k' l0 l1 (by rw [w2, ← z, (oJ k k0 k1).2])
  have o3' : ∀ k k', 0 ≤ k → k < cq_I g' x 10 → 0 ≤ k' → k' < cq_I g' x 10 → cq_J g' (x + 9) k = cq_J g' (x + 9) k' → k = k' := fun k k' k0 k1 l0 l1 z => by
    by_cases z1 : k < cq_I g x 10
    · by_cases z2 : k' < cq_I g x 10
      · rw [(oJ k k0 z1).2, (oJ k' l0 z2).2] at z
        exact B.o3 k k' k0 z1 l0 z2 z
      · exact absurd z (old_new k k' k0 z1 (by omega) l1)
    · by_cases z2 : k' < cq_I g x 10
      · exact absurd z.symm (old_new k' k l0 z2 (by omega) k1)
      · exact O.2 k k' (by omega) k1 (by omega) l1 (Or.inr z)
  have sf : ∀ {w : Int64} {t t' : Int}, zS x g' w t → zS x g' w t' → t = t' := fun {w t t'} p q => by
    rcases p with ⟨k, p1, p2, p3, p4⟩ | ⟨p1, p2⟩
    · rcases q with ⟨k', q1, q2, q3, q4⟩ | ⟨q1, q2⟩
      · rw [← p4, ← q4, o3' k k' p1 p2 q1 q2 (p3.trans q3.symm)]
      · exact absurd p3 (q2 k p1 p2)
    · rcases q with ⟨k', q1, q2, q3, q4⟩ | ⟨q1, q2⟩
      · exact absurd q3 (p2 k' q1 q2)
      · rw [p1, q1]
  have rt_lt : ∀ {a : Nat}, dom a → rt a < cq_I g x 2 := fun {a} da => by
    obtain ⟨_, _, b, r, _, _, _, y⟩ := B.t1 a da
    rcases y with ⟨_, _, _, _, _, _, _, _, _, _, y⟩ | ⟨_, _, _, _, _, y, _⟩
    · exact y.1.2
    · exact y.1.2
  have ct_lt : ∀ {a : Nat}, sd a → cq_s h a = 8 ∧ cq_s h (a + 1) = 183 := fun {a} sa => by
    obtain ⟨da, r, b, _, _, e0, _⟩ := B.t3 a sa
    have s8 := (B.t1 a da).1
    refine ⟨s8, ?_⟩
    rcases f7 a s8 List.not_mem_nil with y | ⟨_, _, _, _, _, y, _⟩
    · rw [y] at e0; cases e0
    · exact y
  refine ⟨W, fun k k0 k1 => ?_, fun k k' k0 k1 l0 l1 z => ?_, o3', o4', N.2.2.1, fun w t sw p => ?_, fun t z => ?_, hk2, fun t t0 t1 z => ?_, ⟨?_, ?_, ?_, ?_⟩, fun a da => ?_, B.t2, fun a sa => ?_, fun a da => ?_, fun a j sa hj => ?_, fun a j sa hj => ?_, fun a sa nd nn => ?_, fun a a' r r' s1 s2 e1 e2 e3 => ?_, fun a da => Nat.le_trans (B.d1 a da) hm⟩
  · by_cases z : k < cq_I g x 10
    · rw [(oJ k k0 z).1]
      exact (B.o1 k k0 z).ex e
    · exact (O.1 k (by omega) k1).1
  · by_cases z1 : k < cq_I g x 10
    · by_cases z2 : k' < cq_I g x 10
      · rw [(oJ k k0 z1).1, (oJ k' l0 z2).1] at z
        exact B.o2 k k' k0 z1 l0 z2 z
      · have y1 := (B.o1 k k0 z1).1.2
        have y2 := (O.1 k' (by omega) l1).2
        rw [(oJ k k0 z1).1] at z
        omega
    · by_cases z2 : k' < cq_I g x 10
      · have y1 := (B.o1 k' l0 z2).1.2
        have y2 := (O.1 k (by omega) k1).2
        rw [(oJ k' l0 z2).1] at z
        omega
      · exact O.2 k k' (by omega) k1 (by omega) l1 (Or.inl z)
  · by_cases s6 : cq_s h w = 6
    · obtain ⟨t0, p0⟩ := zS_ex (x := x) (g := g) (w := cq_J h w 1)
      have et : t = t0 := sf p (N.s s6 p0)
      rw [(c2 w 3 s6).2.2 hC, et, B.s1 w t0 s6 p0]
      rcases B.srg p0 with y | y
      · rw [y]
        exact ⟨fun q => absurd q.1 (by decide), fun q => absurd q.1 (by decide)⟩
      · rw [zG_ex e y.1.2]
    · have s99 : cq_s h w = 99 := Classical.byContradiction fun y => by
        have := (c1 w y).1
        rw [sw] at this
        exact s6 this.symm
      rw [c15 w s99 sw List.not_mem_nil hC]
      refine ⟨fun q => absurd rfl q, fun q => ?_⟩
      exfalso
      rcases p with ⟨k, p1, p2, p3, p4⟩ | ⟨p1, p2⟩
      · by_cases z : k < cq_I g x 10
        · obtain ⟨w0, w1, w2⟩ := B.o4 k p1 z
          have := N.2.2.1 w w0 sw (N.2.1 w0 w1).1 (by rw [← p3, (N.2.1 w0 w1).2, w2, (oJ k p1 z).2])
          rw [this] at s6
          exact s6 w1
        · obtain ⟨y1, y2⟩ := O.1 k (by omega) p2
          rw [p4] at y1 y2
          have := zG_lt e y1.1.2 q.2
          omega
      · rw [p1] at q
        exact absurd q.1 (by decide)
  · rcases hk1 t z with y | ⟨y1, y2⟩
    · obtain ⟨z1, z2⟩ := B.k1 t y
      exact ⟨z1.ex e, fun q => z2 ((zG_ex e z1.1.2).mp q)⟩
    · exact ⟨y2, fun q => by have := zG_lt e y2.1.2 q; omega⟩
  · have l := zG_lt e t1 z
    have y := B.g1 t t0 l ((zG_ex e l).mp z)
    rw [e.2.1 t 2 l (by decide) (by decide)]
    exact y
  · rw [c18 c 14 9 hc (Or.inr (Or.inl ⟨rfl, rfl⟩)) hC]
    exact B.t0.1
  · exact s_ B.t0.2.1 (by decide)
  · rw [A8 B.t0.2.1 (by decide)]
    exact B.t0.2.2.1
  · rw [I8 4 B.t0.2.1]
    exact B.t0.2.2.2
  · obtain ⟨y1, y2, b, r, y3, y4, y5, y6⟩ := B.t1 a da
    refine ⟨s_ y1 (by decide), y2, b, r, by rw [A8 y1 (by decide)]; exact y3, by rw [A8 y1 (by decide)]; exact y4, s_ y5 (by decide), ?_⟩
    rcases y6 with ⟨z1, z2, z3⟩ | ⟨z1, z2, z3⟩
    · exact Or.inl ⟨z1, z2, N.f hk (A101 y5).1 (A101 y5).2 z3⟩
    · exact Or.inr ⟨z1, z2, N.q hk (A101 y5).1 (A101 y5).2 z3⟩
  · obtain ⟨da, r, b, y1, y2, y3, y4, y5⟩ := B.t3 a sa
    have s8 := (B.t1 a da).1
    have sb := (B.t1 b y4).1
    have sr := f14 a r s8 List.not_mem_nil y1
    refine ⟨da, r, b, by rw [A8 s8 (by decide)]; exact y1, by rw [(A101 sr).1]; exact N.k hk (by decide) y2, by rw [A8 s8 (by decide)]; exact y3, y4, fun rb z1 z2 => ?_⟩
    rw [A8 sb (by decide)] at z1 z2
    have srb := f14 b rb sb List.not_mem_nil z2
    exact N.b hk (A101 srb).1 (A101 srb).2 (y5 rb z1 z2)
  · rw [I8 4 (B.t1 a da).1, B.t4 a da, zG_ex e (rt_lt da)]
  · rw [I8 5 (ct_lt sa).1, B.t5 a j sa hj]
    refine ⟨fun z => ?_, fun z => ?_⟩
    · obtain ⟨i, t, z1, z2, z3⟩ := z
      have l : t < cq_I g x 2 := by
        cases i with
        | zero =>
          have et : t = ct a := z2
          obtain ⟨da, r, b, _, _, e0, db, _⟩ := B.t3 a sa
          obtain ⟨_, _, b', r', y3, _, _, y6⟩ := B.t1 a da
          rw [e0] at y3
          cases y3
          rcases y6 with ⟨y, _⟩ | ⟨_, _, _, k, _, _, y⟩
          · exact absurd y (B.t1 b db).2.1
          · rw [et]; exact y.1.2
        | succ i =>
          obtain ⟨t', _, q⟩ := z2
          exact q.1.2
      exact ⟨i, t, z1, nx_ex e z2, (zG_ex e l).mpr z3⟩
    · obtain ⟨i, t, z1, z2, z3⟩ := z
      have l' : t < cq_I g' x 2 := by
        cases i with
        | zero =>
          have et : t = ct a := z2
          obtain ⟨da, r, b, _, _, e0, db, _⟩ := B.t3 a sa
          obtain ⟨_, _, b', r', y3, _, _, y6⟩ := B.t1 a da
          rw [e0] at y3
          cases y3
          rcases y6 with ⟨y, _⟩ | ⟨_, _, _, k, _, _, y⟩
          · exact absurd y (B.t1 b db).2.1
          · rw [et]; have := y.1.2; omega
        | succ i =>
          obtain ⟨t', _, q⟩ := z2
          exact q.1.2
      have l := zG_lt e l' z3
      exact ⟨i, t, z1, nx_bk e W z2 l, (zG_ex e l).mp z3⟩
  · rw [c5 (a + 1) j (ct_lt sa).2 hC, B.t6 a j sa hj]
    refine ⟨fun z => ?_, fun z => ?_⟩
    · obtain ⟨t, z2, z3⟩ := z
      have l : t < cq_I g x 2 := by
        obtain ⟨t', _, q⟩ := z2
        exact q.1.2
      exact ⟨t, kx_ex e z2, (zG_ex e l).mpr z3⟩
    · obtain ⟨t, z2, z3⟩ := z
      have l' : t < cq_I g' x 2 := by
        obtain ⟨t', _, q⟩ := z2
        exact q.1.2
      have l := zG_lt e l' z3
      exact ⟨t, kx_bk e W z2 l, (zG_ex e l).mp z3⟩
  · by_cases s8 : cq_s h a = 8
    · obtain ⟨y1, y2, y3⟩ := B.t7 a s8 nd nn
      refine ⟨by rw [I8 4 s8]; exact y1, by rw [I8 5 s8]; exact y2, fun z j => ?_⟩
      rw [A8 s8 (by decide)] at z
      rcases f7 a s8 List.not_mem_nil with y | ⟨_, _, _, _, _, y, _⟩
      · exact absurd y z
      · rw [c5 (a + 1) j y hC]
        exact y3 z j
    · have s99 : cq_s h a = 99 := Classical.byContradiction fun y => by
        have := (c1 a y).1
        rw [sa] at this
        exact s8 this.symm
      obtain ⟨y1, y2, y3⟩ := c6 a s99 sa List.not_mem_nil hC
      exact ⟨y1, y2, fun z => (y3 z).2⟩
  · have d1 := (B.t1 a (B.t3 a s1).1).1
    have d2 := (B.t1 a' (B.t3 a' s2).1).1
    rw [A8 d1 (by decide)] at e1
    rw [A8 d2 (by decide)] at e2
    rw [(A101 (f14 a r d1 List.not_mem_nil e1)).1, (A101 (f14 a' r' d2 List.not_mem_nil e2)).1] at e3
    exact B.t8 a a' r r' s1 s2 e1 e2 e3
end
