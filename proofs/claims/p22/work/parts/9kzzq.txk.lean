/-! turns and terms: they are kept by a LOOK -/
section
variable {c x nt : Nat} {n : Int} {T Lf : Int → Nat} {dom sd : Nat → Prop} {rt ct : Nat → Int} {dp : Nat → Nat} {kd : Int → Nat} {m : Nat} {h g h' g' : cx_Q} {E E0 : Nat → Option Int} {pe : Int → Nat} {ro : Int → Int → Nat} {pa lb tp rd en op ob : Nat}
/-- the class's marks, read off the memory -/
theorem TX.marks (F : FX c x n pe ro pa lb tp rd en op ob T Lf h g) (X : TX c x nt n T Lf dom sd rt ct dp kd m h g) (C0 : CT c E0 h [] h) {u : Int} (hu : 0 ≤ u ∧ u < n) {h1 : cx_Q} (lm : LM (S5 h n (pe u)) h h1) : (∀ w, cq_s h w = 6 → (cq_I h1 w 3 ≠ 0 ↔ cq_I h w 3 ≠ 0 ∨ zMw x n pe T u h g w)) ∧ (∀ a, cq_s h a = 8 → (cq_I h1 a 4 ≠ 0 ↔ cq_I h a 4 ≠ 0 ∨ ∃ s, zI x n u g s ∧ cq_A h (T s) 7 = some a)) ∧ (∀ a k, cq_s h a = 8 → (cq_I h1 a 5 ≤ k ↔ cq_I h a 5 ≤ k ∨ ∃ s, zI x n u g s ∧ ((cq_A h (T s) 9 = some a ∧ cq_I g (x + 40) s ≤ k) ∨ (cq_A h (T s) 11 = some a ∧ cq_I g (x + 41) s ≤ k)))) ∧ ∀ a j, cq_s h a = 183 → (cq_I h1 a j ≠ 0 ↔ cq_I h a j ≠ 0 ∨ ∃ s r R, zI x n u g s ∧ 0 ≤ r ∧ r < cq_I g (x + 53) s ∧ cq_A h (T s + 5) r = some R ∧ cq_A h R 6 = some a ∧ cq_I g (x + 55) (20 * s + r) = j ∧ 0 ≤ j ∧ j < 80) := by
  have B := X.b
  have f7 := C0.2.2.2.2.2.2.1
  obtain ⟨l, el, wl⟩ := lm
  have wl' : ∀ mk, mk ∈ l ↔ zM x n pe T u h g mk := fun mk => (wl mk).trans (S5_M F X hu mk)
  have w6 : ∀ {w : Nat}, zMw x n pe T u h g w → cq_s h w = 6 := fun {w} q => by
    obtain ⟨t, p⟩ := zS_ex (x := x) (g := g) (w := cq_J h w 1)
    exact (X.lk_w F hu p q).1
  have s8 : ∀ {s : Int} {R : Nat}, zI x n u g s → (cq_A h (T s) 7 = some R ∨ cq_A h (T s) 9 = some R ∨ cq_A h (T s) 11 = some R) → cq_s h R = 8 := fun {s R} zi q => by
    obtain ⟨⟨S, r, w, p1, p2, p3, _⟩, q2, _⟩ := X.zi hu zi
    rcases q with q | q | q
    · rw [q] at p1
      cases p1
      exact (B.t1 _ (B.t3 _ p3).1).1
    · rw [q] at p2
      cases p2
      exact (B.t1 _ (B.t3 _ p3).1).1
    · exact (B.t1 _ (q2 R q).1).1
  have s183 : ∀ {s r : Int} {R b : Nat}, zI x n u g s → 0 ≤ r → r < cq_I g (x + 53) s → cq_A h (T s + 5) r = some R → cq_A h R 6 = some b → cq_s h b = 183 := fun {s r R b} zi r0 r1 q e => by
    obtain ⟨_, _, ⟨_, _, _, q3⟩, _⟩ := X.zi hu zi
    obtain ⟨R', z1, z2, _⟩ := q3 r r0 r1
    rw [q] at z1
    cases z1
    obtain ⟨sR, _, b', _, z3, _⟩ := B.t1 R z2
    rcases f7 R sR List.not_mem_nil with y | ⟨b2, y1, _, _, y2, y3, _⟩
    · rw [y] at z3; cases z3
    · rw [y2] at e
      cases e
      exact y3
  rw [el]
  refine ⟨fun w sw => ?_, fun a sa => ?_, fun a k sa => ?_, fun a j sa => ?_⟩
  · refine (gvL_f (a := w) (j := 3) (fun mk q e1 e2 => ?_)).trans (or_congr Iff.rfl ⟨fun q => ?_, fun q => ⟨(w, 3, false, 0), (wl' _).mpr (Or.inl ⟨w, rfl, q⟩), rfl, rfl⟩⟩)
    · rcases (wl' mk).mp q with ⟨w', y, _⟩ | ⟨s, zi, ⟨S, y, y2⟩ | ⟨S, y, y2⟩ | ⟨S, y, y2⟩ | ⟨r, R, b, _, _, _, _, _, _, y2⟩⟩
      · rw [y]
      · rw [y2]
      · rw [y2] at e2
        exact absurd e2 (by simp)
      · rw [y2] at e2
        exact absurd e2 (by simp)
      · rw [y2]
    · obtain ⟨mk, q1, e1, e2⟩ := q
      rcases (wl' mk).mp q1 with ⟨w', y, y3⟩ | ⟨s, zi, ⟨S, y, y2⟩ | ⟨S, y, y2⟩ | ⟨S, y, y2⟩ | ⟨r, R, b, r0, r1, z1, z2, _, _, y2⟩⟩
      · rw [y] at e1
        rw [← (show w' = w from e1)]
        exact y3
      · rw [y2] at e2
        exact absurd e2 (by simp)
      · rw [y2] at e2
        exact absurd e2 (by simp)
      · rw [y2] at e2
        exact absurd e2 (by simp)
      · rw [y2] at e1
        have e1' : b = w := e1
        have := s183 zi r0 r1 z1 z2
        rw [e1', sw] at this
        exact absurd this (by decide)
  · refine (gvL_f (a := a) (j := 4) (fun mk q e1 e2 => ?_)).trans (or_congr Iff.rfl ⟨fun q => ?_, fun q => ?_⟩)
    · rcases (wl' mk).mp q with ⟨w', y, _⟩ | ⟨s, zi, ⟨S, y, y2⟩ | ⟨S, y, y2⟩ | ⟨S, y, y2⟩ | ⟨r, R, b, _, _, _, _, _, _, y2⟩⟩
      · rw [y]
      · rw [y2]
      · rw [y2] at e2
        exact absurd e2 (by simp)
      · rw [y2] at e2
        exact absurd e2 (by simp)
      · rw [y2]
    · obtain ⟨mk, q1, e1, e2⟩ := q
      rcases (wl' mk).mp q1 with ⟨w', y, y3⟩ | ⟨s, zi, ⟨S, y, y2⟩ | ⟨S, y, y2⟩ | ⟨S, y, y2⟩ | ⟨r, R, b, r0, r1, z1, z2, _, _, y2⟩⟩
      · rw [y] at e2
        exact absurd e2 (by simp)
      · rw [y2] at e1
        have e1' : S = a := e1
        rw [e1'] at y
        exact ⟨s, zi, y⟩
      · rw [y2] at e2
        exact absurd e2 (by simp)
      · rw [y2] at e2
        exact absurd e2 (by simp)
      · rw [y2] at e1
        have e1' : b = a := e1
        have := s183 zi r0 r1 z1 z2
        rw [e1', sa] at this
        exact absurd this (by decide)
    · obtain ⟨s, zi, y⟩ := q
      exact ⟨(a, 4, false, 0), (wl' _).mpr (Or.inr ⟨s, zi, Or.inl ⟨a, y, rfl⟩⟩), rfl, rfl⟩
  · refine (gvL_m (a := a) (j := 5) (k := k) (fun mk q e1 e2 => ?_)).trans (or_congr Iff.rfl ⟨fun q => ?_, fun q => ?_⟩)
    · rcases (wl' mk).mp q with ⟨w', y, _⟩ | ⟨s, zi, ⟨S, y, y2⟩ | ⟨S, y, y2⟩ | ⟨S, y, y2⟩ | ⟨r, R, b, r0, r1, z1, z2, _, _, y2⟩⟩
      · rw [y] at e2
        exact absurd e2 (by simp)
      · rw [y2] at e2
        exact absurd e2 (by simp)
      · rw [y2]
      · rw [y2]
      · rw [y2] at e1
        have e1' : b = a := e1
        have := s183 zi r0 r1 z1 z2
        rw [e1', sa] at this
        exact absurd this (by decide)
    · obtain ⟨mk, q1, e1, e2, e3⟩ := q
      rcases (wl' mk).mp q1 with ⟨w', y, y3⟩ | ⟨s, zi, ⟨S, y, y2⟩ | ⟨S, y, y2⟩ | ⟨S, y, y2⟩ | ⟨r, R, b, r0, r1, z1, z2, _, _, y2⟩⟩
      · rw [y] at e2
        exact absurd e2 (by simp)
      · rw [y2] at e2
        exact absurd e2 (by simp)
      · rw [y2] at e1 e3
        have e1' : S = a := e1
        rw [e1'] at y
        exact ⟨s, zi, Or.inl ⟨y, e3⟩⟩
      · rw [y2] at e1 e3
        have e1' : S = a := e1
        rw [e1'] at y
        exact ⟨s, zi, Or.inr ⟨y, e3⟩⟩
      · rw [y2] at e1
        have e1' : b = a := e1
        have := s183 zi r0 r1 z1 z2
        rw [e1', sa] at this
        exact absurd this (by decide)
    · obtain ⟨s, zi, ⟨y, y1⟩ | ⟨y, y1⟩⟩ := q
      · exact ⟨(a, 5, true, cq_I g (x + 40) s), (wl' _).mpr (Or.inr ⟨s, zi, Or.inr (Or.inl ⟨a, y, rfl⟩)⟩), rfl, rfl, y1⟩
      · exact ⟨(a, 5, true, cq_I g (x + 41) s), (wl' _).mpr (Or.inr ⟨s, zi, Or.inr (Or.inr (Or.inl ⟨a, y, rfl⟩))⟩), rfl, rfl, y1⟩
  · refine (gvL_f (a := a) (j := j) (fun mk q e1 e2 => ?_)).trans (or_congr Iff.rfl ⟨fun q => ?_, fun q => ?_⟩)
    · rcases (wl' mk).mp q with ⟨w', y, _⟩ | ⟨s, zi, ⟨S, y, y2⟩ | ⟨S, y, y2⟩ | ⟨S, y, y2⟩ | ⟨r, R, b, _, _, _, _, _, _, y2⟩⟩
      · rw [y]
      · rw [y2]
      · rw [y2] at e1
        have e1' : S = a := e1
        have := s8 zi (Or.inr (Or.inl y))
        rw [e1', sa] at this
        exact absurd this (by decide)
      · rw [y2] at e1
        have e1' : S = a := e1
        have := s8 zi (Or.inr (Or.inr y))
        rw [e1', sa] at this
        exact absurd this (by decide)
      · rw [y2]
    · obtain ⟨mk, q1, e1, e2⟩ := q
      rcases (wl' mk).mp q1 with ⟨w', y, y3⟩ | ⟨s, zi, ⟨S, y, y2⟩ | ⟨S, y, y2⟩ | ⟨S, y, y2⟩ | ⟨r, R, b, r0, r1, z1, z2, z3, z4, y2⟩⟩
      · rw [y] at e1
        have e1' : w' = a := e1
        have := w6 y3
        rw [e1', sa] at this
        exact absurd this (by decide)
      · rw [y2] at e1
        have e1' : S = a := e1
        have := s8 zi (Or.inl y)
        rw [e1', sa] at this
        exact absurd this (by decide)
      · rw [y2] at e1
        have e1' : S = a := e1
        have := s8 zi (Or.inr (Or.inl y))
        rw [e1', sa] at this
        exact absurd this (by decide)
      · rw [y2] at e1
        have e1' : S = a := e1
        have := s8 zi (Or.inr (Or.inr y))
        rw [e1', sa] at this
        exact absurd this (by decide)
      · rw [y2] at e1 e2
        have e1' : b = a := e1
        have e2' : cq_I g (x + 55) (20 * s + r) = j := e2
        rw [e1'] at z2
        exact ⟨s, r, R, zi, r0, r1, z1, z2, e2', by omega, by omega⟩
    · obtain ⟨s, r, R, zi, r0, r1, z1, z2, e2, j0, j1⟩ := q
      exact ⟨(a, cq_I g (x + 55) (20 * s + r), false, 0), (wl' _).mpr (Or.inr ⟨s, zi, Or.inr (Or.inr (Or.inr ⟨r, R, a, r0, r1, z1, z2, by omega, by omega, rfl⟩))⟩), rfl, e2⟩
theorem TX.look (F : FX c x n pe ro pa lb tp rd en op ob T Lf h g) (X : TX c x nt n T Lf dom sd rt ct dp kd m h g) (C0 : CT c E0 h [] h) (C : CT c E h [] h') (hc : cq_s h c = 9) {u : Int} (hu : 0 ≤ u ∧ u < n) {h1 : cx_Q} {v w86 : Int} (lm : LM (S5 h n (pe u)) h h1) (eh : h' = cq_sI h1 c 7 v) (lk : lkI x (cq_sI g x 86 w86) g' (lkM x g u)) (W : TW x g') : TX c x nt n T Lf dom sd rt ct dp kd m h' g' := by
  have B := X.b
  have f7 := C0.2.2.2.2.2.2.1
  have e : zC x h h' g g' := by
    refine ⟨⟨?_, ?_, ?_, ?_⟩, fun j w => ?_, fun o j w1 w2 => ?_, fun o j w => ?_⟩
    · rw [eh]; exact lm.s
    · rw [eh]; exact lm.z
    · rw [eh]; exact lm.J
    · rw [eh]; exact lm.A
    · rw [lk.2.1 x j (by omega), mm_sI, if_neg (fun z => w z.2)]
    · rw [lk.2.1 (x + o) j (by omega), mm_sI, if_neg (fun z => by omega)]
    · rw [lk.2.2.1]
      rfl
  obtain ⟨⟨es, ez, eJ, eA⟩, gx, gI, gJ⟩ := e
  have e : zC x h h' g g' := ⟨⟨es, ez, eJ, eA⟩, gx, gI, gJ⟩
  have gG : ∀ t, zG x g' t ↔ zG x g t ∨ lkM x g u t := fun t => by
    unfold zG
    by_cases q : lkM x g u t
    · rw [lk.2.2.2.1 t q]
      exact ⟨fun _ => Or.inr q, fun _ => by decide⟩
    · rw [lk.2.2.2.2 t q, mm_sI, if_neg (fun z => by omega)]
      exact ⟨Or.inl, fun z => z.elim id (fun y => absurd y q)⟩
  obtain ⟨M6, M4, M5, M183⟩ := X.marks F C0 hu lm
  have Ic : ∀ {d k : Nat} (j : Int), cq_s h d = k → k ≠ 9 → cq_I h' d j = cq_I h1 d j := fun {d k} j q w => by rw [eh, mm_sI, if_neg (fun z => w (by rw [← q, z.1]; exact hc))]
  have e10 := gx 10 (by decide)
  have e2 := gx 2 (by decide)
  have r183 : ∀ {a b : Nat}, cq_s h a = 8 → cq_A h a 0 = some b → cq_s h (a + 1) = 183 := fun {a b} sa q => by
    rcases f7 a sa List.not_mem_nil with y | ⟨_, _, _, _, _, y, _⟩
    · rw [y] at q; cases q
    · exact y
  have r6 : ∀ {R a : Nat}, dom R → cq_A h R 6 = some (a + 1) → R = a := fun {R a} dR q => by
    obtain ⟨sR, _, b', _, z3, _⟩ := B.t1 R dR
    rcases f7 R sR List.not_mem_nil with y | ⟨b2, y1, _, _, y2, y3, _⟩
    · rw [y] at z3; cases z3
    · rw [y2] at q
      have := Option.some.inj q
      omega
  have B' : TB c x nt dom sd rt ct dp kd m h' g' := by
    refine ⟨W, fun k k0 k1 => ?_, fun k k' k0 k1 l0 l1 z => ?_, fun k k' k0 k1 l0 l1 z => ?_, fun k k0 k1 => ?_, ?_, fun w t sw p => ?_, fun t z => ?_, fun t z => by rw [e2]; exact B.k2 t z, fun t t0 t1 z => ?_, ⟨by rw [eA]; exact B.t0.1, by rw [es]; exact B.t0.2.1, by rw [eA]; exact B.t0.2.2.1, ?_⟩, fun a da => ?_, B.t2, fun a sa => ?_, fun a da => ?_, fun a j sa hj => ?_, fun a j sa hj => ?_, fun a sa nd nn => ?_, ?_, B.d1⟩
    · rw [e10] at k1
      rw [gI 10 k (by decide) (by decide)]
      exact e.t (B.o1 k k0 k1)
    · rw [e10] at k1 l1
      rw [gI 10 k (by decide) (by decide), gI 10 k' (by decide) (by decide)] at z
      exact B.o2 k k' k0 k1 l0 l1 z
    · rw [e10] at k1 l1
      rw [gJ 9 k (by decide), gJ 9 k' (by decide)] at z
      exact B.o3 k k' k0 k1 l0 l1 z
    · rw [e10] at k1
      rw [es, eJ, gJ 9 k (by decide)]
      exact B.o4 k k0 k1
    · rw [es, eJ]
      exact B.u1
    · rw [es] at sw
      rw [eJ] at p
      have p' := e.symm.s p
      rw [Ic 3 sw (by decide), M6 w sw, B.s1 w t sw p', X.lk_sec F hu sw p', gG t]
      exact ⟨fun q => q.elim (fun y => ⟨y.1, Or.inl y.2⟩) (fun y => ⟨y.1, Or.inr y.2⟩), fun q => q.2.imp (fun y => ⟨q.1, y⟩) (fun y => ⟨q.1, y⟩)⟩
    · obtain ⟨y1, y2⟩ := B.k1 t z
      refine ⟨e.t y1, fun q => ?_⟩
      rcases (gG t).mp q with y | y
      · exact y2 y
      · rcases X.lk_d F hu y with ⟨y3, _⟩ | ⟨s, zi, ⟨S, _, z1, z2⟩ | ⟨S, _, z1, z2⟩ | ⟨R, _, z1, z2, z3⟩ | ⟨r, R, _, _, _, z1, z2, _, b, z3, z4⟩⟩
        · exact y3 z
        · have := y1.2.1
          rw [z2, (B.rt4 z1).1] at this
          exact absurd this (by decide)
        · have := nx_sort (B.rt4 z1).2 z2
          have := y1.2.1
          omega
        · have := nx_sort (B.ct5 z1 z2) z3
          have := y1.2.1
          omega
        · have := z4.2.1
          have := y1.2.1
          omega
    · rw [e2] at t1
      rw [gI 2 t (by decide) (by decide)]
      rcases (gG t).mp z with y | y
      · exact B.g1 t t0 t1 y
      · rcases X.lk_d F hu y with ⟨_, y3, _⟩ | ⟨s, zi, ⟨S, _, z1, z2⟩ | ⟨S, _, z1, z2⟩ | ⟨R, _, z1, z2, z3⟩ | ⟨r, R, _, _, _, z1, z2, _, b, z3, z4⟩⟩
        · have := y3.2.1
          exact ⟨by omega, by omega, fun q => by omega⟩
        · have := (B.rt4 z1).1
          rw [← z2] at this
          exact ⟨by omega, by omega, fun _ => ⟨S, z1, z2.symm⟩⟩
        · have := nx_sort (B.rt4 z1).2 z2
          exact ⟨by omega, by omega, fun q => by omega⟩
        · have := nx_sort (B.ct5 z1 z2) z3
          exact ⟨by omega, by omega, fun q => by omega⟩
        · have := z4.2.1
          exact ⟨by omega, by omega, fun q => by omega⟩
    · rw [Ic 4 B.t0.2.1 (by decide), M4 nt B.t0.2.1]
      exact Or.inl B.t0.2.2.2
    · obtain ⟨y1, y2, b, r, y3, y4, y5, y6⟩ := B.t1 a da
      refine ⟨by rw [es]; exact y1, y2, b, r, by rw [eA]; exact y3, by rw [eA]; exact y4, by rw [es]; exact y5, ?_⟩
      exact y6.imp (fun z => ⟨z.1, z.2.1, e.f z.2.2⟩) (fun z => ⟨z.1, z.2.1, e.q z.2.2⟩)
    · obtain ⟨da, r, b, y1, y2, y3, y4, y5⟩ := B.t3 a sa
      refine ⟨da, r, b, by rw [eA]; exact y1, by rw [eA]; exact e.kk y2, by rw [eA]; exact y3, y4, fun rb z1 z2 => ?_⟩
      rw [eA] at z1 z2
      exact e.b (y5 rb z1 z2)
    · have s8 := (B.t1 a da).1
      rw [Ic 4 s8 (by decide), M4 a s8, B.t4 a da, gG, X.lk_root F hu da]
    · have s8 := (B.t1 a (B.t3 a sa).1).1
      rw [Ic 5 s8 (by decide), M5 a j s8, B.t5 a j sa hj]
      refine ⟨fun q => ?_, fun q => ?_⟩
      · rcases q with ⟨i, t, q1, q2, q3⟩ | ⟨s, zi, q⟩
        · exact ⟨i, t, q1, e.n q2, (gG t).mpr (Or.inl q3)⟩
        · have zr := X.zi hu zi
          obtain ⟨⟨S, r, w, p1, p2, p3, p4, p5, _⟩, qr, _, _, n0, _⟩ := zr
          rcases q with ⟨q1, q2⟩ | ⟨q1, q2⟩
          · have q1' := q1
            rw [q1'] at p2
            cases p2
            exact ⟨_, _, by omega, e.n p5, (gG _).mpr (Or.inr ((X.lk_ch F hu sa p5).mpr ⟨s, zi, Or.inl ⟨q1, rfl⟩⟩))⟩
          · obtain ⟨_, _, y⟩ := qr a q1
            exact ⟨_, _, by omega, e.n y, (gG _).mpr (Or.inr ((X.lk_ch F hu sa y).mpr ⟨s, zi, Or.inr ⟨q1, rfl⟩⟩))⟩
      · obtain ⟨i, t, q1, q2, q3⟩ := q
        have q2' := e.symm.n q2
        rcases (gG t).mp q3 with y | y
        · exact Or.inl ⟨i, t, q1, q2', y⟩
        · obtain ⟨s, zi, y⟩ := (X.lk_ch F hu sa q2').mp y
          refine Or.inr ⟨s, zi, ?_⟩
          rcases y with ⟨y1, y2⟩ | ⟨y1, y2⟩
          · exact Or.inl ⟨y1, by omega⟩
          · exact Or.inr ⟨y1, by omega⟩
    · have da := (B.t3 a sa).1
      have s8 := (B.t1 a da).1
      obtain ⟨b, r, z0, _, _, _, _⟩ := B.sp sa
      have s183 := r183 s8 z0
      rw [Ic _ s183 (by decide), M183 (a + 1) j s183, B.t6 a j sa hj]
      refine ⟨fun q => ?_, fun q => ?_⟩
      · rcases q with ⟨t, q1, q2⟩ | ⟨s, r, R, zi, r0, r1, q1, q2, q3, _⟩
        · exact ⟨t, e.k q1, (gG t).mpr (Or.inl q2)⟩
        · obtain ⟨_, _, ⟨_, _, _, qk⟩, _⟩ := X.zi hu zi
          obtain ⟨R', z1, z2, z3, z4, z5⟩ := qk r r0 r1
          rw [q1] at z1
          cases z1
          have eR := r6 z2 q2
          rw [eR] at q1 z5
          have ej : (cq_I g (x + 55) (20 * s + r)).toNat = j := by omega
          rw [ej] at z5
          exact ⟨_, e.k z5, (gG _).mpr (Or.inr ((X.lk_key F hu sa z5).mpr ⟨s, r, zi, r0, r1, q1, q3⟩))⟩
      · obtain ⟨t, q1, q2⟩ := q
        have q1' := e.symm.k q1
        rcases (gG t).mp q2 with y | y
        · exact Or.inl ⟨t, q1', y⟩
        · obtain ⟨s, r, zi, r0, r1, y1, y2⟩ := (X.lk_key F hu sa q1').mp y
          refine Or.inr ⟨s, r, a, zi, r0, r1, y1, ?_, y2, by omega, by omega⟩
          rcases f7 a s8 List.not_mem_nil with w | ⟨_, _, _, _, w, _⟩
          · rw [w] at z0; cases z0
          · exact w
    · rw [es] at sa
      obtain ⟨y1, y2, y3⟩ := B.t7 a sa nd nn
      have no : ∀ s, zI x n u g s → cq_A h (T s) 7 ≠ some a ∧ cq_A h (T s) 9 ≠ some a ∧ cq_A h (T s) 11 ≠ some a := fun s zi => by
        obtain ⟨⟨S, r, w, p1, p2, p3, _⟩, q2, _⟩ := X.zi hu zi
        refine ⟨fun z => ?_, fun z => ?_, fun z => nd (q2 a z).1⟩
        · rw [z] at p1
          cases p1
          exact nd (B.t3 _ p3).1
        · rw [z] at p2
          cases p2
          exact nd (B.t3 _ p3).1
      refine ⟨?_, ?_, fun z j => ?_⟩
      · rw [Ic 4 sa (by decide)]
        refine Classical.byContradiction fun q => ?_
        rcases (M4 a sa).mp q with w | ⟨s, zi, w⟩
        · exact w y1
        · exact (no s zi).1 w
      · rw [Ic 5 sa (by decide)]
        have k1 := M5 a (cq_I h1 a 5) sa
        have k2 := M5 a (cq_I h a 5) sa
        have a1 : cq_I h a 5 ≤ cq_I h1 a 5 := by
          rcases k1.mp (Int.le_refl _) with w | ⟨s, zi, w | w⟩
          · exact w
          · exact absurd w.1 (no s zi).2.1
          · exact absurd w.1 (no s zi).2.2
        have a2 : cq_I h1 a 5 ≤ cq_I h a 5 := k2.mpr (Or.inl (Int.le_refl _))
        omega
      · rw [eA] at z
        obtain ⟨b, z0⟩ := Option.ne_none_iff_exists'.mp z
        have s183 := r183 sa z0
        rw [Ic j s183 (by decide)]
        refine Classical.byContradiction fun q => ?_
        rcases (M183 (a + 1) j s183).mp q with w | ⟨s, r, R, zi, r0, r1, w1, w2, _⟩
        · exact w (y3 z j)
        · obtain ⟨_, _, ⟨_, _, _, qk⟩, _⟩ := X.zi hu zi
          obtain ⟨R', z1, z2, _⟩ := qk r r0 r1
          rw [w1] at z1
          cases z1
          exact nd (by rw [← r6 z2 w2]; exact z2)
    · rw [eA]
      exact B.t8
  refine ⟨B', X.kz, fun u' u0 u1 q => ?_, fun u' u0 u1 q => ?_, fun u' k u0 u1 k0 k1 => ?_, fun u' k u0 u1 k0 k1 => ?_, fun u' v' i u0 u1 v0 v1 i0 i1 => ?_, fun l l0 l1 => ?_⟩
  · rw [gI 11 u' (by decide) (by decide)] at q
    rw [gI 16 u' (by decide) (by decide), gI 23 u' (by decide) (by decide)]
    obtain ⟨y1, y2, y3⟩ := X.n0 u' u0 u1 q
    exact ⟨y1, y2, fun v' v0 v1 => by rw [gI 30 _ (by decide) (by decide)]; exact y3 v' v0 v1⟩
  · rw [gI 11 u' (by decide) (by decide)] at q
    rw [gJ 14 u' (by decide), gI 15 u' (by decide) (by decide)]
    exact ⟨e.s (X.n1 u' u0 u1 q).1, (X.n1 u' u0 u1 q).2⟩
  · rw [gI 16 u' (by decide) (by decide)] at k1
    rw [gJ 18 _ (by decide), gI 19 _ (by decide) (by decide)]
    exact ⟨e.s (X.n2 u' k u0 u1 k0 k1).1, (X.n2 u' k u0 u1 k0 k1).2⟩
  · rw [gI 23 u' (by decide) (by decide)] at k1
    rw [gJ 25 _ (by decide), gI 26 _ (by decide) (by decide)]
    exact ⟨e.s (X.n3 u' k u0 u1 k0 k1).1, (X.n3 u' k u0 u1 k0 k1).2⟩
  · rw [gI 30 _ (by decide) (by decide)] at i1
    rw [gI 29 _ (by decide) (by decide)]
    obtain ⟨⟨S, r, w, p1, p2, p3, p4, p5, p6, p7, p8, p9, p10⟩, q2, ⟨k1, k2, k3, k4⟩, m1, m2, m3⟩ := X.q1 u' v' i u0 u1 v0 v1 i0 i1
    unfold zR
    rw [es, eJ, eA]
    refine ⟨⟨S, r, w, p1, p2, p3, by rw [gI 48 _ (by decide) (by decide)]; exact p4, by rw [gI 40 _ (by decide) (by decide), gI 50 _ (by decide) (by decide)]; exact e.n p5, p6, p7, p8, p9, by rw [gI 52 _ (by decide) (by decide)]; exact e.s p10⟩, fun R z => ?_, ⟨k1, k2, k3, fun j j0 j1 => ?_⟩, m1, by rw [gI 40 _ (by decide) (by decide)]; exact m2, by rw [gI 40 _ (by decide) (by decide), gx 72 (by decide)]; exact m3⟩
    · obtain ⟨z1, z2, z3⟩ := q2 R z
      exact ⟨z1, z2, by rw [gI 41 _ (by decide) (by decide), gI 51 _ (by decide) (by decide)]; exact e.n z3⟩
    · rw [gI 53 _ (by decide) (by decide)] at j1
      obtain ⟨R, z1, z2, z3, z4, z5⟩ := k4 j j0 j1
      exact ⟨R, z1, z2, z3, by rw [gI 55 _ (by decide) (by decide)]; exact z4, by rw [gI 55 _ (by decide) (by decide), gI 57 _ (by decide) (by decide)]; exact e.k z5⟩
  · rw [gx 72 (by decide)] at l1
    obtain ⟨S, p1, p2, p3, p4, p5⟩ := X.l1 l l0 l1
    have c19 := C.2.2.2.2.2.2.2.2.2.2.2.2.2.2.2.2.2.2 (Lf l) (F.fl l l0 l1).2.s0
    exact ⟨S, by rw [c19.1]; exact p1, p2, by rw [c19.2]; exact p3, by rw [c19.2]; exact p4, by rw [c19.2, gI 64 _ (by decide) (by decide)]; exact e.k p5⟩
end
