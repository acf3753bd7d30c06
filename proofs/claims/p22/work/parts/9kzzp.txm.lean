/-! turns and terms: a LOOK marks the same on both sides -/
section
variable {c x nt : Nat} {n : Int} {T Lf : Int → Nat} {dom sd : Nat → Prop} {rt ct : Nat → Int} {dp : Nat → Nat} {kd : Int → Nat} {m : Nat} {h g h' g' : cx_Q} {E E0 : Nat → Option Int} {pe : Int → Nat} {ro : Int → Int → Nat} {pa lb tp rd en op ob : Nat}
theorem TX.k1_ (X : TX c x nt n T Lf dom sd rt ct dp kd m h g) {v : Int64} {t : Int} (p : zS x g v t) (k0 : kd t ≠ 0) : tmT x g t 1 0 0 0 0 := by
  rcases X.b.srg p with y | y
  · rw [y, X.kz] at k0
    exact absurd rfl k0
  · exact y
/-- what the reference marks -/
theorem TX.lk_d (F : FX c x n pe ro pa lb tp rd en op ob T Lf h g) (X : TX c x nt n T Lf dom sd rt ct dp kd m h g) {u t : Int} (hu : 0 ≤ u ∧ u < n) (q : lkM x g u t) : (kd t ≠ 1 ∧ tmT x g t 1 0 0 0 0 ∧ ∃ w, cq_s h w = 6 ∧ zS x g (cq_J h w 1) t ∧ zMw x n pe T u h g w) ∨ ∃ s, zI x n u g s ∧ ((∃ S, cq_A h (T s) 7 = some S ∧ sd S ∧ t = rt S) ∨ (∃ S, cq_A h (T s) 9 = some S ∧ sd S ∧ nx x g (ct S) (cq_I g (x + 40) s).toNat t) ∨ (∃ R, cq_A h (T s) 11 = some R ∧ dom R ∧ cq_A h R 0 ≠ some nt ∧ nx x g (ct R) (cq_I g (x + 41) s).toNat t) ∨ ∃ r R, 0 ≤ r ∧ r < cq_I g (x + 53) s ∧ cq_A h (T s + 5) r = some R ∧ dom R ∧ cq_A h R 0 ≠ some nt ∧ 0 ≤ cq_I g (x + 55) (20 * s + r) ∧ kx x g (ct R) (cq_I g (x + 55) (20 * s + r)).toNat t) := by
  have fu := F.fu u hu.1 hu.2
  obtain ⟨iu, q⟩ := q
  rcases q with q | q | q | q
  · obtain ⟨z1, z2⟩ := X.n1 u hu.1 hu.2 iu
    obtain ⟨d, d1, d2, _, d3, _⟩ := fu.n1 iu
    rw [← q] at z1 z2
    exact Or.inl ⟨by rw [z2]; decide, X.k1_ z1 (by rw [z2]; decide), d, d2, by rw [d3]; exact z1, Or.inl d1⟩
  · obtain ⟨k, k1, k2, k3, q⟩ := q
    obtain ⟨z1, z2⟩ := X.n2 u k hu.1 hu.2 k1 k3
    obtain ⟨d, d1, d2, _, d3⟩ := fu.lk k k1 k3
    rw [← q] at z1 z2
    exact Or.inl ⟨by rw [z2]; decide, X.k1_ z1 (by rw [z2]; decide), d, d2, by rw [d3]; exact z1, Or.inr (Or.inl ⟨k, k1, k2, k3, d1⟩)⟩
  · obtain ⟨k, k1, k2, k3, q⟩ := q
    obtain ⟨z1, z2⟩ := X.n3 u k hu.1 hu.2 k1 k2
    obtain ⟨d, d1, d2, _, d3⟩ := fu.ok k k1 k2
    rw [← q] at z1 z2
    exact Or.inl ⟨by rw [z2]; decide, X.k1_ z1 (by rw [z2]; decide), d, d2, by rw [d3]; exact z1, Or.inr (Or.inr (Or.inl ⟨k, k1, k2, k3, d1⟩))⟩
  · obtain ⟨v, i, v0, v1, i0, i1, q⟩ := q
    rw [F.nn] at v1
    have zi : zI x n u g (cq_I g (x + 29) (4 * (6 * u + v) + i)) := ⟨v, i, v0, v1, i0, i1, rfl⟩
    have sr := (F.fo u v hu.1 hu.2 v0 v1).ss i i0 i1
    have zr := X.zi hu zi
    have k5 := X.own5 zr
    generalize cq_I g (x + 29) (4 * (6 * u + v) + i) = s at q zi sr zr k5
    obtain ⟨⟨S, r, w, p1, p2, p3, p4, p5, p6, p7, p8, p9, p10⟩, q2, ⟨_, _, _, q3⟩, _⟩ := zr
    rcases q with q | q | q | q | q
    · exact Or.inr ⟨s, zi, Or.inl ⟨S, p1, p3, by rw [q]; exact p4⟩⟩
    · rw [← q] at p10 k5
      exact Or.inl ⟨by rw [k5]; decide, X.k1_ p10 (by rw [k5]; decide), w, p9, p10, Or.inr (Or.inr (Or.inr ⟨s, zi, p6⟩))⟩
    · exact Or.inr ⟨s, zi, Or.inr (Or.inl ⟨S, p2, p3, by rw [q.2]; exact p5⟩)⟩
    · have nn : cq_A h (T s) 11 ≠ none := fun z => q.1 (sr.hr.mp z)
      obtain ⟨R, eR⟩ := Option.ne_none_iff_exists'.mp nn
      obtain ⟨y1, y2, y3⟩ := q2 R eR
      exact Or.inr ⟨s, zi, Or.inr (Or.inr (Or.inl ⟨R, eR, y1, y2, by rw [q.2]; exact y3⟩))⟩
    · obtain ⟨k, k0, k1, q⟩ := q
      obtain ⟨R, y1, y2, y3, y4, y5⟩ := q3 k k0 k1
      exact Or.inr ⟨s, zi, Or.inr (Or.inr (Or.inr ⟨k, R, k0, k1, y1, y2, y3, y4, by rw [q]; exact y5⟩))⟩
/-- a SESSION's terms are marked -/
theorem TX.lk_s (F : FX c x n pe ro pa lb tp rd en op ob T Lf h g) (X : TX c x nt n T Lf dom sd rt ct dp kd m h g) {u t s : Int} (hu : 0 ≤ u ∧ u < n) (zi : zI x n u g s) (q : lkS x g s t) : lkM x g u t := by
  obtain ⟨v, i, v0, v1, i0, i1, e⟩ := zi
  refine ⟨fun z => ?_, Or.inr (Or.inr (Or.inr ⟨v, i, v0, by rw [F.nn]; exact v1, i0, i1, by rw [← e]; exact q⟩))⟩
  have := (X.n0 u hu.1 hu.2 z).2.2 v v0 v1
  omega
theorem TX.lk_w (F : FX c x n pe ro pa lb tp rd en op ob T Lf h g) (X : TX c x nt n T Lf dom sd rt ct dp kd m h g) {u t : Int} {w : Nat} (hu : 0 ≤ u ∧ u < n) (p : zS x g (cq_J h w 1) t) (q : zMw x n pe T u h g w) : cq_s h w = 6 ∧ 0 < t ∧ lkM x g u t := by
  have fu := F.fu u hu.1 hu.2
  have B := X.b
  have pos : ∀ {t : Int} {v : Int64}, zS x g v t → kd t ≠ 0 → 0 < t := fun {t v} y z => by
    have := (X.k1_ y z).1.1
    omega
  have iu : cq_I g (x + 16) u ≠ 0 ∨ cq_I g (x + 23) u ≠ 0 → cq_I g (x + 11) u ≠ 0 := fun y z => by
    have := X.n0 u hu.1 hu.2 z
    omega
  rcases q with q | q | q | q
  · have i1 : cq_I g (x + 11) u ≠ 0 := fun z => by
      rw [fu.n0 z] at q; cases q
    obtain ⟨d, d1, d2, _, d3, _⟩ := fu.n1 i1
    rw [q] at d1
    cases d1
    obtain ⟨z1, z2⟩ := X.n1 u hu.1 hu.2 i1
    rw [d3] at p
    have e := B.sfun p z1
    rw [e]
    exact ⟨d2, pos z1 (by rw [z2]; decide), i1, Or.inl rfl⟩
  · obtain ⟨k, k1, k2, k3, k4⟩ := q
    obtain ⟨d, d1, d2, _, d3⟩ := fu.lk k k1 k3
    rw [k4] at d1
    cases d1
    obtain ⟨z1, z2⟩ := X.n2 u k hu.1 hu.2 k1 k3
    rw [d3] at p
    have e := B.sfun p z1
    rw [e]
    exact ⟨d2, pos z1 (by rw [z2]; decide), iu (Or.inl (by omega)), Or.inr (Or.inl ⟨k, k1, k2, k3, rfl⟩)⟩
  · obtain ⟨k, k1, k2, k3, k4⟩ := q
    obtain ⟨d, d1, d2, _, d3⟩ := fu.ok k k1 k2
    rw [k4] at d1
    cases d1
    obtain ⟨z1, z2⟩ := X.n3 u k hu.1 hu.2 k1 k2
    rw [d3] at p
    have e := B.sfun p z1
    rw [e]
    exact ⟨d2, pos z1 (by rw [z2]; decide), iu (Or.inr (by omega)), Or.inr (Or.inr (Or.inl ⟨k, k1, k2, k3, rfl⟩))⟩
  · obtain ⟨s, zi, k4⟩ := q
    have zr := X.zi hu zi
    have k5 := X.own5 zr
    obtain ⟨⟨S, r, w', p1, p2, p3, p4, p5, p6, p7, p8, p9, p10⟩, _⟩ := zr
    rw [k4] at p6
    cases p6
    have e := B.sfun p p10
    rw [e]
    exact ⟨p9, pos p10 (by rw [k5]; decide), X.lk_s F hu zi (Or.inr (Or.inl rfl))⟩
/-- SECRETS -/
theorem TX.lk_sec (F : FX c x n pe ro pa lb tp rd en op ob T Lf h g) (X : TX c x nt n T Lf dom sd rt ct dp kd m h g) {u t : Int} {w : Nat} (hu : 0 ≤ u ∧ u < n) (sw : cq_s h w = 6) (p : zS x g (cq_J h w 1) t) : zMw x n pe T u h g w ↔ 0 < t ∧ lkM x g u t := by
  have B := X.b
  refine ⟨fun q => (X.lk_w F hu p q).2, fun q => ?_⟩
  have st : cq_I g (x + 2) t = 1 := by
    rcases B.srg p with y | y
    · rw [y] at q
      exact absurd q.1 (by decide)
    · exact y.2.1
  rcases X.lk_d F hu q.2 with ⟨_, _, w', y1, y2, y3⟩ | ⟨s, zi, y⟩
  · have : w' = w := B.u1 w' w y1 sw (B.sinj y2 p (by omega))
    rw [← this]
    exact y3
  · exfalso
    rcases y with ⟨S, _, y1, y2⟩ | ⟨S, _, y1, y2⟩ | ⟨R, _, y1, y2, y3⟩ | ⟨r, R, _, _, _, y1, y2, _, a, y3, y4⟩
    · rw [y2, (B.rt4 y1).1] at st
      exact absurd st (by decide)
    · have := nx_sort (B.rt4 y1).2 y2
      omega
    · have := nx_sort (B.ct5 y1 y2) y3
      omega
    · have := y4.2.1
      omega
/-- ROOTS -/
theorem TX.lk_root (F : FX c x n pe ro pa lb tp rd en op ob T Lf h g) (X : TX c x nt n T Lf dom sd rt ct dp kd m h g) {u : Int} {a : Nat} (hu : 0 ≤ u ∧ u < n) (da : dom a) : lkM x g u (rt a) ↔ ∃ s, zI x n u g s ∧ cq_A h (T s) 7 = some a := by
  have B := X.b
  have st : cq_I g (x + 2) (rt a) = 3 ∨ cq_I g (x + 2) (rt a) = 4 := by
    obtain ⟨_, _, _, _, _, _, _, y⟩ := B.t1 a da
    rcases y with ⟨_, _, _, _, _, _, _, _, _, _, y⟩ | ⟨_, _, _, _, _, y, _⟩
    · exact Or.inl y.2.1
    · exact Or.inr y.2.1
  refine ⟨fun q => ?_, fun q => ?_⟩
  · rcases X.lk_d F hu q with ⟨_, y, _⟩ | ⟨s, zi, y⟩
    · have := y.2.1
      omega
    · rcases y with ⟨S, y0, y1, y2⟩ | ⟨S, _, y1, y2⟩ | ⟨R, _, y1, y2, y3⟩ | ⟨r, R, _, _, _, y1, y2, _, b, y3, y4⟩
      · exact ⟨s, zi, by rw [B.t2 S a y1 da y2]; exact y0⟩
      · have := nx_sort (B.rt4 y1).2 y2
        omega
      · have := nx_sort (B.ct5 y1 y2) y3
        omega
      · have := y4.2.1
        omega
  · obtain ⟨s, zi, e⟩ := q
    obtain ⟨⟨S, r, w, p1, p2, p3, p4, _⟩, _⟩ := X.zi hu zi
    rw [e] at p1
    cases p1
    rw [← p4]
    exact X.lk_s F hu zi (Or.inl rfl)
/-- chains -/
theorem TX.lk_ch (F : FX c x n pe ro pa lb tp rd en op ob T Lf h g) (X : TX c x nt n T Lf dom sd rt ct dp kd m h g) {u t : Int} {a i : Nat} (hu : 0 ≤ u ∧ u < n) (sa : sd a) (p : nx x g (ct a) i t) : lkM x g u t ↔ ∃ s, zI x n u g s ∧ ((cq_A h (T s) 9 = some a ∧ (cq_I g (x + 40) s).toNat = i) ∨ (cq_A h (T s) 11 = some a ∧ (cq_I g (x + 41) s).toNat = i)) := by
  have B := X.b
  have st := nx_sort (B.rt4 sa).2 p
  refine ⟨fun q => ?_, fun q => ?_⟩
  · rcases X.lk_d F hu q with ⟨_, y, _⟩ | ⟨s, zi, y⟩
    · have := y.2.1
      omega
    · refine ⟨s, zi, ?_⟩
      rcases y with ⟨S, y0, y1, y2⟩ | ⟨S, y0, y1, y2⟩ | ⟨R, y0, y1, y2, y3⟩ | ⟨r, R, _, _, _, y1, y2, _, b, y3, y4⟩
      · have := (B.rt4 y1).1
        rw [← y2] at this
        omega
      · obtain ⟨e1, e2⟩ := nx_inj (B.rt4 y1).2 (B.rt4 sa).2 y2 p
        obtain ⟨b, r, z1, z2, _, zd, z3⟩ := B.sp y1
        have : S = a := B.ct_inj sa (B.t3 S y1).1 (fun z => by
          rw [z1] at z
          exact (B.t1 b zd).2.1 (Option.some.inj z)) e2
        rw [this] at y0
        exact Or.inl ⟨y0, e1⟩
      · obtain ⟨e1, e2⟩ := nx_inj (B.ct5 y1 y2) (B.rt4 sa).2 y3 p
        rw [B.ct_inj sa y1 y2 e2] at y0
        exact Or.inr ⟨y0, e1⟩
      · have := y4.2.1
        omega
  · obtain ⟨s, zi, q⟩ := q
    have sr : SR x (T s) s h g := by
      obtain ⟨v, i, v0, v1, i0, i1, e⟩ := zi
      rw [e]
      exact (F.fo u v hu.1 hu.2 v0 v1).ss i i0 i1
    obtain ⟨⟨S, r, w, p1, p2, p3, p4, p5, _⟩, q2, _⟩ := X.zi hu zi
    rcases q with ⟨q, e⟩ | ⟨q, e⟩
    · rw [q] at p2
      cases p2
      rw [e] at p5
      rw [nx_fun B.tw p p5]
      exact X.lk_s F hu zi (Or.inr (Or.inr (Or.inl ⟨sr.hs, rfl⟩)))
    · obtain ⟨_, _, y⟩ := q2 a q
      rw [e] at y
      rw [nx_fun B.tw p y]
      refine X.lk_s F hu zi (Or.inr (Or.inr (Or.inr (Or.inl ⟨fun z => ?_, rfl⟩))))
      rw [sr.hr.mpr z] at q
      cases q
/-- letters' keys -/
theorem TX.lk_key (F : FX c x n pe ro pa lb tp rd en op ob T Lf h g) (X : TX c x nt n T Lf dom sd rt ct dp kd m h g) {u t : Int} {a j : Nat} (hu : 0 ≤ u ∧ u < n) (sa : sd a) (p : kx x g (ct a) j t) : lkM x g u t ↔ ∃ s r, zI x n u g s ∧ 0 ≤ r ∧ r < cq_I g (x + 53) s ∧ cq_A h (T s + 5) r = some a ∧ cq_I g (x + 55) (20 * s + r) = j := by
  have B := X.b
  have st : cq_I g (x + 2) t = 7 := by
    obtain ⟨_, _, y⟩ := p
    exact y.2.1
  refine ⟨fun q => ?_, fun q => ?_⟩
  · rcases X.lk_d F hu q with ⟨_, y, _⟩ | ⟨s, zi, y⟩
    · have := y.2.1
      omega
    · rcases y with ⟨S, y0, y1, y2⟩ | ⟨S, y0, y1, y2⟩ | ⟨R, y0, y1, y2, y3⟩ | ⟨r, R, r0, r1, y0, y1, y2, pl, y3⟩
      · have := (B.rt4 y1).1
        rw [← y2] at this
        omega
      · have := nx_sort (B.rt4 y1).2 y2
        omega
      · have := nx_sort (B.ct5 y1 y2) y3
        omega
      · obtain ⟨e1, e2⟩ := kx_inj (B.ct5 y1 y2) (B.rt4 sa).2 y3 p
        rw [B.ct_inj sa y1 y2 e2] at y0
        exact ⟨s, r, zi, r0, r1, y0, by omega⟩
  · obtain ⟨s, r, zi, r0, r1, q, e⟩ := q
    obtain ⟨_, _, ⟨_, _, _, q3⟩, _⟩ := X.zi hu zi
    obtain ⟨R, z1, z2, z3, z4, z5⟩ := q3 r r0 r1
    rw [q] at z1
    cases z1
    have e' : (cq_I g (x + 55) (20 * s + r)).toNat = j := by omega
    rw [e'] at z5
    rw [kx_fun B.tw p z5]
    exact X.lk_s F hu zi (Or.inr (Or.inr (Or.inr (Or.inr ⟨r, r0, r1, rfl⟩))))
end
