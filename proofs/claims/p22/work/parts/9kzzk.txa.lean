/-! turns and terms: a turn more -/
section
variable {c x nt : Nat} {dom sd : Nat → Prop} {rt ct : Nat → Int} {dp : Nat → Nat} {kd kd' : Int → Nat} {m m' : Nat} {h g h' g' : cx_Q} {E E0 : Nat → Option Int}
/-- the terms of a SENDING turn -/
theorem TB.sp (B : TB c x nt dom sd rt ct dp kd m h g) {a : Nat} (sa : sd a) : ∃ b r, cq_A h a 0 = some b ∧ cq_A h a 1 = some r ∧ cq_s h r = 101 ∧ dom b ∧ zQ x h g kd r (rt b) (rt a) (ct a) := by
  obtain ⟨da, r, b, e1, _, e0, db, _⟩ := B.t3 a sa
  obtain ⟨_, _, b', r', y3, y4, y5, y6⟩ := B.t1 a da
  rw [e0] at y3
  rw [e1] at y4
  cases y3
  cases y4
  rcases y6 with ⟨y, _⟩ | ⟨_, _, y⟩
  · exact absurd y (B.t1 b db).2.1
  · exact ⟨b, r, e0, e1, y5, db, y⟩
theorem TB.rt4 (B : TB c x nt dom sd rt ct dp kd m h g) {a : Nat} (sa : sd a) : cq_I g (x + 2) (rt a) = 4 ∧ cq_I g (x + 2) (ct a) = 5 := by
  obtain ⟨b, r, _, _, _, _, _, k, _, y1, y2⟩ := B.sp sa
  exact ⟨y1.2.1, y2.2.1⟩
theorem TB.addF (B : TB c x nt dom sd rt ct dp kd m h g) {f r : Nat} {tF : Int} (sf : cq_s h f = 8) (nf : ¬ dom f) (fn : f ≠ nt) (e0 : cq_A h f 0 = some nt) (e1 : cq_A h f 1 = some r) (sr : cq_s h r = 101) (z : zF x h g kd r tF) {rt' : Nat → Int} {dp' : Nat → Nat} (er : ∀ {a : Nat}, dom a → rt' a = rt a) (erf : rt' f = tF) (ed : ∀ {a : Nat}, dom a → dp' a = dp a) (edf : dp' f = 1) (hm : 1 ≤ m) : TB c x nt (fun a => dom a ∨ a = f) sd rt' ct dp' kd m h g := by
  have tm : ∃ ta tb tc td, tmT x g tF 3 ta tb tc td := by
    obtain ⟨ta, tb, tc, td, _, _, _, _, y⟩ := z
    exact ⟨ta, tb, tc, td, y⟩
  obtain ⟨ta, tb, tc, td, tm⟩ := tm
  refine ⟨B.tw, B.o1, B.o2, B.o3, B.o4, B.u1, B.s1, B.k1, B.k2, fun t t0 t1 y => ?_, B.t0, fun a da => ?_, fun a b sa db y => ?_, fun a sa => ?_, fun a da => ?_, B.t5, B.t6, fun a sa nd nn => B.t7 a sa (fun y => nd (Or.inl y)) nn, B.t8, fun a da => ?_⟩
  · obtain ⟨y1, y2, y3⟩ := B.g1 t t0 t1 y
    refine ⟨y1, y2, fun y4 => ?_⟩
    obtain ⟨a, y5, y6⟩ := y3 y4
    exact ⟨a, y5, (er (B.t3 a y5).1).trans y6⟩
  · rcases da with da | da
    · obtain ⟨y1, y2, b, r', y3, y4, y5, y6⟩ := B.t1 a da
      refine ⟨y1, y2, b, r', y3, y4, y5, ?_⟩
      rcases y6 with ⟨z1, z2, z3⟩ | ⟨z1, z2, z3⟩
      · exact Or.inl ⟨z1, (ed da).trans z2, by rw [er da]; exact z3⟩
      · exact Or.inr ⟨Or.inl z1, by rw [ed da, ed z1]; exact z2, by rw [er da, er z1]; exact z3⟩
    · rw [da]
      exact ⟨sf, fn, nt, r, e0, e1, sr, Or.inl ⟨rfl, edf, by rw [erf]; exact z⟩⟩
  · rw [er (B.t3 a sa).1] at y
    rcases db with db | db
    · rw [er db] at y
      exact B.t2 a b sa db y
    · rw [db, erf] at y
      have := (B.rt4 sa).1
      rw [← y, tm.2.1] at this
      exact absurd this (by decide)
  · obtain ⟨da, r', b, y1, y2, y3, y4, y5⟩ := B.t3 a sa
    exact ⟨Or.inl da, r', b, y1, y2, y3, Or.inl y4, y5⟩
  · rcases da with da | da
    · rw [er da]
      exact B.t4 a da
    · rw [da, erf, (B.t7 f sf nf fn).1]
      exact ⟨fun q => absurd rfl q, fun q => absurd tm.2.1 (B.g1 tF tm.1.1 tm.1.2 q).2.1⟩
  · rcases da with da | da
    · rw [ed da]
      exact B.d1 a da
    · rw [da, edf]
      exact hm
theorem TB.addQ (B : TB c x nt dom sd rt ct dp kd m h g) {q b r : Nat} {tR tC : Int} (sq : cq_s h q = 8) (nq : ¬ dom q) (qn : q ≠ nt) (e0 : cq_A h q 0 = some b) (db : dom b) (e1 : cq_A h q 1 = some r) (sr : cq_s h r = 101) (z : zQ x h g kd r (rt b) tR tC) (uq : ∀ a, sd a → rt a ≠ tR) {rt' ct' : Nat → Int} {dp' : Nat → Nat} (er : ∀ {a : Nat}, dom a → rt' a = rt a) (erf : rt' q = tR) (ec : ∀ {a : Nat}, dom a → ct' a = ct a) (ecf : ct' q = tC) (ed : ∀ {a : Nat}, dom a → dp' a = dp a) (edf : dp' q = dp b + 1) (hm : dp b + 1 ≤ m) : TB c x nt (fun a => dom a ∨ a = q) sd rt' ct' dp' kd m h g := by
  have tm : ∃ k, tmT x g tR 4 (rt b) k 0 0 := by
    obtain ⟨_, k, _, y, _⟩ := z
    exact ⟨k, y⟩
  obtain ⟨k, tm⟩ := tm
  refine ⟨B.tw, B.o1, B.o2, B.o3, B.o4, B.u1, B.s1, B.k1, B.k2, fun t t0 t1 y => ?_, B.t0, fun a da => ?_, fun a b' sa db' y => ?_, fun a sa => ?_, fun a da => ?_, fun a j sa hj => ?_, fun a j sa hj => ?_, fun a sa nd nn => B.t7 a sa (fun y => nd (Or.inl y)) nn, B.t8, fun a da => ?_⟩
  · obtain ⟨y1, y2, y3⟩ := B.g1 t t0 t1 y
    refine ⟨y1, y2, fun y4 => ?_⟩
    obtain ⟨a, y5, y6⟩ := y3 y4
    exact ⟨a, y5, (er (B.t3 a y5).1).trans y6⟩
  · rcases da with da | da
    · obtain ⟨y1, y2, b', r', y3, y4, y5, y6⟩ := B.t1 a da
      refine ⟨y1, y2, b', r', y3, y4, y5, ?_⟩
      rcases y6 with ⟨z1, z2, z3⟩ | ⟨z1, z2, z3⟩
      · exact Or.inl ⟨z1, (ed da).trans z2, by rw [er da]; exact z3⟩
      · exact Or.inr ⟨Or.inl z1, by rw [ed da, ed z1]; exact z2, by rw [er da, er z1, ec da]; exact z3⟩
    · rw [da]
      exact ⟨sq, qn, b, r, e0, e1, sr, Or.inr ⟨Or.inl db, by rw [edf, ed db], by rw [erf, ecf, er db]; exact z⟩⟩
  · rw [er (B.t3 a sa).1] at y
    rcases db' with db' | db'
    · rw [er db'] at y
      exact B.t2 a b' sa db' y
    · rw [db', erf] at y
      exact absurd y.symm (uq a sa)
  · obtain ⟨da, r', b', y1, y2, y3, y4, y5⟩ := B.t3 a sa
    exact ⟨Or.inl da, r', b', y1, y2, y3, Or.inl y4, y5⟩
  · rcases da with da | da
    · rw [er da]
      exact B.t4 a da
    · rw [da, erf, (B.t7 q sq nq qn).1]
      refine ⟨fun w => absurd rfl w, fun w => ?_⟩
      obtain ⟨a', w1, w2⟩ := (B.g1 tR tm.1.1 tm.1.2 w).2.2 tm.2.1
      exact absurd w2 (uq a' w1)
  · rw [ec (B.t3 a sa).1]
    exact B.t5 a j sa hj
  · rw [ec (B.t3 a sa).1]
    exact B.t6 a j sa hj
  · rcases da with da | da
    · rw [ed da]
      exact B.d1 a da
    · rw [da, edf]
      exact hm
/-- a turn that is SENDING -/
theorem TB.mkS (B : TB c x nt dom sd rt ct dp kd m h g) {s b r : Nat} (ds : dom s) (e0 : cq_A h s 0 = some b) (db : dom b) (e1 : cq_A h s 1 = some r) (ow : zK x h g kd (cq_A h r 0) 5) (un : ∀ a r', sd a → cq_A h a 1 = some r' → cq_A h r' 0 ≠ cq_A h r 0) (fi : ∀ rb, cq_A h b 0 = some nt → cq_A h b 1 = some rb → zB x h g kd rb) (fr : ∀ a, dom a → rt a = rt s → a = s) (i5 : cq_I h s 5 = 1000000) (i6 : ∀ j, cq_I h (s + 1) j = 0) (ng : ∀ i t, nx x g (ct s) i t → ¬ zG x g t) (nk : ∀ i t, kx x g (ct s) i t → ¬ zG x g t) : TB c x nt dom (fun a => sd a ∨ a = s) rt ct dp kd m h g := by
  refine ⟨B.tw, B.o1, B.o2, B.o3, B.o4, B.u1, B.s1, B.k1, B.k2, fun t t0 t1 y => ?_, B.t0, B.t1, fun a b' sa db' y => ?_, fun a sa => ?_, B.t4, fun a j sa hj => ?_, fun a j sa hj => ?_, B.t7, fun a a' r1 r2 s1 s2 y1 y2 y3 => ?_, B.d1⟩
  · obtain ⟨y1, y2, y3⟩ := B.g1 t t0 t1 y
    refine ⟨y1, y2, fun y4 => ?_⟩
    obtain ⟨a, y5, y6⟩ := y3 y4
    exact ⟨a, Or.inl y5, y6⟩
  · rcases sa with sa | sa
    · exact B.t2 a b' sa db' y
    · rw [sa] at y ⊢
      exact fr b' db' y
  · rcases sa with sa | sa
    · exact B.t3 a sa
    · rw [sa]
      exact ⟨ds, r, b, e1, ow, e0, db, fi⟩
  · rcases sa with sa | sa
    · exact B.t5 a j sa hj
    · rw [sa, i5]
      refine ⟨fun q => by omega, fun q => ?_⟩
      obtain ⟨i, t, _, q2, q3⟩ := q
      exact absurd q3 (ng i t q2)
  · rcases sa with sa | sa
    · exact B.t6 a j sa hj
    · rw [sa, i6]
      refine ⟨fun q => absurd rfl q, fun q => ?_⟩
      obtain ⟨t, q2, q3⟩ := q
      exact absurd q3 (nk j t q2)
  · rcases s1 with s1 | s1
    · rcases s2 with s2 | s2
      · exact B.t8 a a' r1 r2 s1 s2 y1 y2 y3
      · rw [s2, e1] at y2
        cases y2
        exact absurd y3 (un a r1 s1 y1)
    · rcases s2 with s2 | s2
      · rw [s1, e1] at y1
        cases y1
        exact absurd y3.symm (un a' r2 s2 y2)
      · rw [s1, s2]
end
/-! what turnOf found, or made: its terms -/
section
variable {c x nt : Nat} {dom sd : Nat → Prop} {rt ct : Nat → Int} {dp : Nat → Nat} {kd kd' : Int → Nat} {m m' : Nat} {h g h' g' : cx_Q} {E E0 : Nat → Option Int}
/-- pairs that are both drawn have one COMMON -/
theorem TB.p_eq (B : TB c x nt dom sd rt ct dp kd m h g) {o1 o2 : Option Nat} {k : Int} (n2 : o2 ≠ none) (p : zP x h g kd o1 o2 k) : ∃ t1 t2, zV x h g o1 t1 ∧ zV x h g o2 t2 ∧ cmT x g k t1 t2 := by
  obtain ⟨t1, t2, p1, p2, p3⟩ := p
  rcases p3 with p3 | p3
  · exact ⟨t1, t2, p1, p3, p2⟩
  · exact absurd p3.1 n2
theorem TB.p_one (B : TB c x nt dom sd rt ct dp kd m h g) {o1 o2 : Option Nat} {k : Int} (n2 : o2 ≠ none) (p : zP x h g kd o1 o2 k) {t1 t2 k' : Int} (v1 : zV x h g o1 t1) (v2 : zV x h g o2 t2) (q : cmT x g k' t1 t2) : k = k' := by
  obtain ⟨s1, s2, p1, p2, p3⟩ := B.p_eq n2 p
  rw [B.vfun p1 v1, B.vfun p2 v2] at p3
  exact cm_inj B.tw p3 q
theorem TB.p_two (B : TB c x nt dom sd rt ct dp kd m h g) {o1 o2 : Option Nat} {k : Int} (n1 : o1 ≠ none) (n2 : o2 ≠ none) (p : zP x h g kd o2 o1 k) {t1 t2 k' : Int} (v1 : zV x h g o1 t1) (v2 : zV x h g o2 t2) (q : cmT x g k' t1 t2) : k = k' := by
  obtain ⟨s1, s2, p1, p2, p3⟩ := B.p_eq n1 p
  rw [B.vfun p1 v2, B.vfun p2 v1] at p3
  exact cm_inj B.tw p3 (cm_sym q)
/-- a turn that was found has the terms that the reference works out -/
theorem TB.q_eq (B : TB c x nt dom sd rt ct dp kd m h g) {q b r : Nat} {o1 o2 : Option Nat} {t1 t2 k tR tC : Int} (dq : dom q) (db : dom b) (e0 : cq_A h q 0 = some b) (e1 : cq_A h q 1 = some r) (n1 : o1 ≠ none) (n2 : o2 ≠ none) (mt : (cq_A h r 0 = o1 ∧ cq_A h r 1 = o2) ∨ (cq_A h r 0 = o2 ∧ cq_A h r 1 = o1)) (v1 : zV x h g o1 t1) (v2 : zV x h g o2 t2) (ck : cmT x g k t1 t2) (hR : tmT x g tR 4 (rt b) k 0 0) (hC : tmT x g tC 5 (rt b) k 0 0) : rt q = tR ∧ ct q = tC := by
  obtain ⟨_, _, b', r', y3, y4, _, y6⟩ := B.t1 q dq
  rw [e0] at y3
  rw [e1] at y4
  cases y3
  cases y4
  rcases y6 with ⟨y, _⟩ | ⟨_, _, _, k', y1, y2, y3⟩
  · exact absurd y (B.t1 b db).2.1
  · have ek : k' = k := by
      rcases mt with ⟨w1, w2⟩ | ⟨w1, w2⟩
      · rw [w1, w2] at y1
        exact B.p_one n2 y1 v1 v2 ck
      · rw [w1, w2] at y1
        exact B.p_two n1 n2 y1 v1 v2 ck
    rw [ek] at y2 y3
    exact ⟨tm_inj B.tw y2 hR (by decide), tm_inj B.tw y3 hC (by decide)⟩
/-- pairs by kinds: what both sides of a COMMON are -/
theorem kd_ne {kd : Int → Nat} {t t' : Int} {n n' : Nat} (p : kd t = n) (q : kd t' = n') (ne : n ≠ n') : t ≠ t' := fun e => ne (by rw [← p, e]; exact q)
theorem TB.zKv (B : TB c x nt dom sd rt ct dp kd m h g) {o : Option Nat} {n : Nat} (p : zK x h g kd o n) : ∃ t, zV x h g o t ∧ kd t = n := by
  obtain ⟨w, t, p1, p2, p3, p4⟩ := p
  exact ⟨t, Or.inr ⟨w, p1, p2, p3⟩, p4⟩
theorem TB.k0 (B : TB c x nt dom sd rt ct dp kd m h g) {o : Option Nat} {t : Int} (p : zV x h g o t) {n : Nat} (q : zK x h g kd o n) (kz : kd 0 = 0) (n0 : n ≠ 0) : kd t = n ∧ t ≠ 0 := by
  obtain ⟨t', p1, p2⟩ := B.zKv q
  rw [B.vfun p p1]
  exact ⟨p2, fun e => n0 (by rw [← p2, e, kz])⟩
end
