/-! turns and terms: a first turn that is met, found or made -/
/-- the pairs of a first ROOT, either way round -/
def FPm (h : cx_Q) (r : Nat) (o0 o1 o2 o3 o4 : Option Nat) : Prop := ((cq_A h r 0 = o0 ∧ cq_A h r 1 = o3) ∨ (cq_A h r 0 = o3 ∧ cq_A h r 1 = o0)) ∧ ((cq_A h r 2 = o2 ∧ cq_A h r 3 = o1) ∨ (cq_A h r 2 = o1 ∧ cq_A h r 3 = o2)) ∧ ((cq_A h r 4 = o2 ∧ cq_A h r 5 = o3) ∨ (cq_A h r 4 = o3 ∧ cq_A h r 5 = o2)) ∧ ((o4 = none ∧ cq_z h r = 6) ∨ (o4 ≠ none ∧ cq_z h r = 8 ∧ ((cq_A h r 6 = o2 ∧ cq_A h r 7 = o4) ∨ (cq_A h r 6 = o4 ∧ cq_A h r 7 = o2))))
theorem FPr.m {h : cx_Q} {r : Nat} {o0 o1 o2 o3 o4 : Option Nat} (F : FPr h r o0 o1 o2 o3 o4) : FPm h r o0 o1 o2 o3 o4 := by
  obtain ⟨_, f1, f2, f3, f4⟩ := F
  exact ⟨Or.inl f1, Or.inl f2, Or.inl f3, f4.imp id (fun y => ⟨y.1, y.2.1, Or.inl y.2.2⟩)⟩
theorem FPr.mt {h : cx_Q} {r p : Nat} {o0 o1 o2 o3 o4 : Option Nat} (F : FPr h p o0 o1 o2 o3 o4) (M : mtR h r p) : FPm h r o0 o1 o2 o3 o4 ∧ o0 ≠ none ∧ o2 ≠ none ∧ o3 ≠ none ∧ o1 ≠ none := by
  obtain ⟨_, f1, f2, f3, f4⟩ := F
  have z6 : 6 ≤ cq_z h r := by
    rw [← M.1]
    rcases f4 with y | y
    · rw [y.2]; decide
    · rw [y.2.1]; decide
  have m0 := M.2 0 (by decide) (by omega)
  have m1 := M.2 1 (by decide) (by omega)
  have m2 := M.2 2 (by decide) (by omega)
  simp only [Int.mul_zero, Int.zero_add, Int.mul_one, Int.reduceAdd, Int.reduceMul] at m0 m1 m2
  rw [f1.1, f1.2] at m0
  rw [f2.1, f2.2] at m1
  rw [f3.1, f3.2] at m2
  refine ⟨⟨m0.2, m1.2, m2.2, ?_⟩, ?_, ?_, ?_, ?_⟩
  · rcases f4 with y | y
    · exact Or.inl ⟨y.1, by rw [← M.1]; exact y.2⟩
    · have m3 := M.2 3 (by decide) (by rw [← M.1, y.2.1]; decide)
      simp only [Int.reduceAdd, Int.reduceMul] at m3
      rw [y.2.2.1, y.2.2.2] at m3
      exact Or.inr ⟨y.1, by rw [← M.1]; exact y.2.1, m3.2⟩
  · rcases m0.2 with y | y
    · rw [← y.1]; exact m0.1.1
    · rw [← y.2]; exact m0.1.2
  · rcases m1.2 with y | y
    · rw [← y.1]; exact m1.1.1
    · rw [← y.2]; exact m1.1.2
  · rcases m0.2 with y | y
    · rw [← y.2]; exact m0.1.2
    · rw [← y.1]; exact m0.1.1
  · rcases m1.2 with y | y
    · rw [← y.2]; exact m1.1.2
    · rw [← y.1]; exact m1.1.1
section
variable {c x nt : Nat} {dom sd : Nat → Prop} {rt ct : Nat → Int} {dp : Nat → Nat} {kd : Int → Nat} {m : Nat} {h g h' g' : cx_Q} {E : Nat → Option Int} {h0 : cx_Q}
theorem zP_w {a b o1 o2 : Option Nat} {k t1 t2 : Int} (mt : (a = o1 ∧ b = o2) ∨ (a = o2 ∧ b = o1)) (v1 : zV x h g o1 t1) (v2 : zV x h g o2 t2) (ck : cmT x g k t1 t2) : zP x h g kd a b k := by
  rcases mt with ⟨w1, w2⟩ | ⟨w1, w2⟩
  · rw [w1, w2]
    exact ⟨t1, t2, v1, ck, Or.inl v2⟩
  · rw [w1, w2]
    exact ⟨t2, t1, v2, cm_sym ck, Or.inl v1⟩
/-- its COMMON is told by the pair, where both are drawn -/
theorem TB.p_w (B : TB c x nt dom sd rt ct dp kd m h g) {a b o1 o2 : Option Nat} {k k' t1 t2 : Int} (n1 : o1 ≠ none) (n2 : o2 ≠ none) (mt : (a = o1 ∧ b = o2) ∨ (a = o2 ∧ b = o1)) (p : zP x h g kd a b k') (v1 : zV x h g o1 t1) (v2 : zV x h g o2 t2) (ck : cmT x g k t1 t2) : k' = k := by
  rcases mt with ⟨w1, w2⟩ | ⟨w1, w2⟩
  · rw [w1, w2] at p
    exact B.p_one n2 p v1 v2 ck
  · rw [w1, w2] at p
    exact B.p_two n1 n2 p v1 v2 ck
theorem TB.getF (B : TB c x nt dom sd rt ct dp kd m h g) {f r : Nat} {o0 o1 o2 o3 o4 : Option Nat} {wi iu ei lt ot ta tb tc td tF : Int} (lt_ : nt < f) (sf : cq_s h f = 8) (e0 : cq_A h f 0 = some nt) (e1 : cq_A h f 1 = some r) (sr : cq_s h r = 101) (fm : FPm h r o0 o1 o2 o3 o4) (dn : dom f → o0 ≠ none ∧ o2 ≠ none ∧ o3 ≠ none ∧ o1 ≠ none) (v0 : zV x h g o0 wi) (v1 : zV x h g o1 iu) (v2 : zV x h g o2 ei) (v3 : zV x h g o3 lt) (v4 : o4 ≠ none → zV x h g o4 ot) (ca : cmT x g ta lt wi) (cb : cmT x g tb iu ei) (cc : cmT x g tc lt ei) (cd : (o4 = none ∧ td = 0) ∨ (o4 ≠ none ∧ cmT x g td ot ei)) (hF : tmT x g tF 3 ta tb tc td) (hm : 1 ≤ m) : ∃ dom' rt' dp', TB c x nt dom' sd rt' ct dp' kd m h g ∧ zE dom sd rt ct dom' sd rt' ct ∧ (∀ a, dom' a → dom a ∨ a = f) ∧ dom' f ∧ rt' f = tF ∧ dp' f = 1 := by
  obtain ⟨m0, m1, m2, m3⟩ := fm
  have zf : zF x h g kd r tF := by
    refine ⟨ta, tb, tc, td, zP_w m0 v0 v3 (cm_sym ca), zP_w m1 v2 v1 (cm_sym cb), zP_w m2 v2 v3 (cm_sym cc), ?_, hF⟩
    rcases cd with ⟨y1, y2⟩ | ⟨y1, y2⟩
    · rcases m3 with w | w
      · exact Or.inl ⟨w.2, y2⟩
      · exact absurd y1 w.1
    · rcases m3 with w | w
      · exact absurd w.1 y1
      · exact Or.inr ⟨w.2.1, zP_w w.2.2 v2 (v4 y1) (cm_sym y2)⟩
  by_cases df : dom f
  · obtain ⟨d0, d2, d3, d1⟩ := dn df
    obtain ⟨_, _, b', r', y3, y4, _, y6⟩ := B.t1 f df
    rw [e0] at y3
    rw [e1] at y4
    cases y3
    cases y4
    rcases y6 with ⟨_, y, ta', tb', tc', td', p1, p2, p3, p4, p5⟩ | ⟨y, _⟩
    · have q1 := B.p_w d0 d3 m0 p1 v0 v3 (cm_sym ca)
      have q2 := B.p_w d2 d1 m1 p2 v2 v1 (cm_sym cb)
      have q3 := B.p_w d2 d3 m2 p3 v2 v3 (cm_sym cc)
      have q4 : td' = td := by
        rcases cd with ⟨y1, y2⟩ | ⟨y1, y2⟩
        · rcases p4 with w | w
          · rw [w.2, y2]
          · rcases m3 with z | z
            · have := w.1
              rw [z.2] at this
              exact absurd this (by decide)
            · exact absurd y1 z.1
        · rcases m3 with z | z
          · exact absurd z.1 y1
          · rcases p4 with w | w
            · have := w.1
              rw [z.2.1] at this
              exact absurd this (by decide)
            · exact B.p_w d2 y1 z.2.2 w.2 v2 (v4 y1) (cm_sym y2)
      rw [q1, q2, q3, q4] at p5
      exact ⟨dom, rt, dp, B, zE.refl, fun _ w => Or.inl w, df, tm_inj B.tw p5 hF (by decide), y⟩
    · exact absurd rfl (B.t1 nt y).2.1
  · have ne : ∀ {a : Nat}, dom a → a ≠ f := fun {a} da e => df (by rw [← e]; exact da)
    have B' := B.addF (rt' := fun a => if a = f then tF else rt a) (dp' := fun a => if a = f then 1 else dp a) sf df (by omega) e0 e1 sr zf (fun w => if_neg (ne w)) (if_pos rfl) (fun w => if_neg (ne w)) (if_pos rfl) hm
    exact ⟨_, _, _, B', ⟨fun a w => ⟨Or.inl w, if_neg (ne w), rfl⟩, fun _ w => w⟩, fun _ w => w, Or.inr rfl, if_pos rfl, if_pos rfl⟩
/-- no other SENDING turn has the ROOT of a turn behind a first one -/
theorem TB.uqF (B : TB c x nt dom sd rt ct dp kd m h g) (C : CT c E h0 [] h) {f rf q r d di : Nat} {o0 o2 o4 oq : Option Nat} {wi iu ei lt ot ta tb tc td k tR t2 : Int} (df : dom f) (f0 : cq_A h f 0 = some nt) (f1 : cq_A h f 1 = some rf) (fm : FPm h rf o0 (some di) o2 (some d) o4) (v0 : zV x h g o0 wi) (v1 : zV x h g (some di) iu) (v2 : zV x h g o2 ei) (v3 : zV x h g (some d) lt) (v4 : o4 ≠ none → zV x h g o4 ot) (kI : kd iu = 2) (kL : kd lt = 3) (kO : o4 ≠ none → kd ot = 4) (kz : kd 0 = 0) (ca : cmT x g ta lt wi) (cb : cmT x g tb iu ei) (cc : cmT x g tc lt ei) (cd : (o4 = none ∧ td = 0) ∨ (o4 ≠ none ∧ cmT x g td ot ei)) (hF : tmT x g (rt f) 3 ta tb tc td) (e0 : cq_A h q 0 = some f) (sq : cq_s h q = 8) (e1 : cq_A h q 1 = some r) (zr : cq_z h r = 2) (mt : ∀ w', oq = some w' → (cq_A h r 0 = some d ∧ cq_A h r 1 = oq) ∨ (cq_A h r 0 = oq ∧ cq_A h r 1 = some d)) (vq : zV x h g oq t2) (ck : cmT x g k lt t2) (hR : tmT x g tR 4 (rt f) k 0 0) : ∀ a, sd a → rt a = tR → a = q := by
  intro a sa ea
  have f10 := C.2.2.2.2.2.2.2.2.2.1
  obtain ⟨ba, ra, y1, y2, y3, y4, y5, ka, y6, y7, y8⟩ := B.sp sa
  rw [ea] at y7
  obtain ⟨_, z1, z2, _⟩ := tm_fun y7 hR
  rw [z2] at y6
  have sa8 := (B.t1 a (B.t3 a sa).1).1
  obtain ⟨_, ra', ba', z3, z4, z5, _, zb⟩ := B.t3 a sa
  rw [y2] at z3
  cases z3
  rw [y1] at z5
  cases z5
  -- its first turn
  obtain ⟨sb8, _, b', rb, b0, b1, srb, b2⟩ := B.t1 ba y4
  rcases b2 with ⟨b2, _, pa⟩ | ⟨_, _, _, _, _, b2, _⟩
  rotate_left
  · have := b2.2.1
    rw [z1, hF.2.1] at this
    exact absurd this (by decide)
  rw [b2] at b0
  obtain ⟨⟨zb1, zb2, zb3⟩, ⟨zb4, zb5⟩, zb6⟩ := zb rb b0 b1
  obtain ⟨ta', tb', tc', td', pa, pb, pc, pd, pF⟩ := pa
  rw [z1] at pF
  obtain ⟨_, ea1, ea2, ea3, ea4⟩ := tm_fun pF hF
  rw [ea1] at pa
  rw [ea2] at pb
  rw [ea3] at pc
  rw [ea4] at pd
  have nn : ∀ {o : Option Nat} {n : Nat}, zK x h g kd o n → o ≠ none := fun {o n} y z => by
    obtain ⟨w, _, y1, _⟩ := y
    rw [z] at y1; cases y1
  obtain ⟨s1, s2, pb1, pb2, pb3⟩ := B.p_eq (nn zb3) pb
  have k1 := B.k0 pb1 zb2 kz (by decide)
  have k2 := B.k0 pb2 zb3 kz (by decide)
  have e2 : iu = s2 ∧ ei = s1 := by
    rcases cm_fun cb pb3 with ⟨w1, _⟩ | w
    · exact absurd w1 (kd_ne kI k1.1 (by decide))
    · exact w
  have A3 : cq_A h rb 3 = some di := B.vinj (by rw [e2.1]; exact pb2) v1 (by rw [e2.1]; exact k2.2)
  have A2 : cq_A h rb 2 = o2 := B.vinj (by rw [e2.2]; exact pb1) v2 (by rw [e2.2]; exact k1.2)
  have l0 : lt ≠ 0 := fun e => by rw [e, kz] at kL; exact absurd kL (by decide)
  have A1 : cq_A h rb 1 = some d := by
    rw [zb4, zb5] at pc
    obtain ⟨u1, u2, pc1, pc2, pc3⟩ := pc
    have eu := B.vfun pc1 pb1
    rw [eu] at pc2 pc3
    rcases cm_fun cc pc2 with ⟨w1, _⟩ | ⟨w1, _⟩
    · exact absurd w1 (kd_ne kL k1.1 (by decide))
    · rcases pc3 with pc3 | ⟨_, _, pc3 | pc3⟩
      · exact B.vinj (by rw [w1]; exact pc3) v3 l0
      · exact absurd (w1.trans pc3) (kd_ne kL k1.1 (by decide))
      · rw [← w1, kL] at pc3
        exact absurd pc3 (by decide)
  have A0 : cq_A h rb 0 = o0 := by
    obtain ⟨u1, u2, pa1, pa2, pa3⟩ := B.p_eq (by rw [A1]; exact Option.some_ne_none _) pa
    have k3 := B.k0 pa1 zb1 kz (by decide)
    rcases cm_fun ca pa3 with ⟨w1, _⟩ | ⟨w1, w2⟩
    · exact absurd w1 (kd_ne kL k3.1 (by decide))
    · exact B.vinj (by rw [w2]; exact pa1) v0 (by rw [w2]; exact k3.2)
  have A7 : (o4 = none ∧ cq_z h rb = 6) ∨ (o4 ≠ none ∧ cq_z h rb = 8 ∧ cq_A h rb 6 = o2 ∧ cq_A h rb 7 = o4) := by
    rcases cd with ⟨w1, w2⟩ | ⟨w1, w2⟩
    · rcases pd with pd | pd
      · exact Or.inl ⟨w1, pd.1⟩
      · obtain ⟨_, _, _, pd, _⟩ := pd.2
        have := cm_pos pd
        omega
    · rcases pd with pd | pd
      · have := cm_pos w2
        omega
      · obtain ⟨y6', y7'⟩ := zb6 pd.1
        obtain ⟨u1, u2, pd1, pd2, pd3⟩ := B.p_eq (nn y7') pd.2
        rw [y6'] at pd1
        have eu := B.vfun pd1 pb1
        have k4 := B.k0 pd2 y7' kz (by decide)
        rw [eu] at pd3
        refine Or.inr ⟨w1, pd.1, by rw [y6', A2], ?_⟩
        rcases cm_fun w2 pd3 with ⟨w3, _⟩ | ⟨w3, _⟩
        · exact absurd w3 (kd_ne (kO w1) k1.1 (by decide))
        · exact B.vinj (by rw [w3]; exact pd2) (v4 w1) (by rw [w3]; exact k4.2)
  have n2 : o2 ≠ none := by rw [← A2]; exact nn zb2
  have n0 : o0 ≠ none := by rw [← A0]; exact nn zb1
  have ebf : ba = f := by
    obtain ⟨m0, m1, m2, m3⟩ := fm
    refine f10 ba f rb rf sb8 (B.t1 f df).1 List.not_mem_nil List.not_mem_nil (by rw [b0, f0]) (by rw [b0]; exact Option.some_ne_none _) b1 f1 ⟨?_, fun i i0 i1 => ?_⟩
    · rcases A7 with w | w
      · rcases m3 with z | z
        · rw [w.2, z.2]
        · exact absurd w.1 z.1
      · rcases m3 with z | z
        · exact absurd z.1 w.1
        · rw [w.2.1, z.2.1]
    · have sw : ∀ {a b o1 o2 : Option Nat}, (a = o1 ∧ b = o2) ∨ (a = o2 ∧ b = o1) → (o1 = a ∧ o2 = b) ∨ (o1 = b ∧ o2 = a) := fun {a b o1 o2} y => by
        rcases y with ⟨w1, w2⟩ | ⟨w1, w2⟩
        · exact Or.inl ⟨w1.symm, w2.symm⟩
        · exact Or.inr ⟨w2.symm, w1.symm⟩
      have i' : i = 0 ∨ i = 1 ∨ i = 2 ∨ i = 3 := by
        rcases A7 with w | w
        · rw [w.2] at i1; omega
        · rw [w.2.1] at i1; omega
      rcases i' with e | e | e | e
      · rw [e]
        simp only [Int.mul_zero, Int.zero_add]
        rw [A0, A1]
        exact ⟨⟨n0, Option.some_ne_none _⟩, sw m0⟩
      · rw [e]
        simp only [Int.mul_one, Int.reduceAdd]
        rw [A2, A3]
        exact ⟨⟨n2, Option.some_ne_none _⟩, sw m1⟩
      · rw [e]
        simp only [Int.reduceMul, Int.reduceAdd]
        rw [zb4, zb5, A2, A1]
        exact ⟨⟨n2, Option.some_ne_none _⟩, sw m2⟩
      · rcases A7 with w | w
        · rw [w.2] at i1; omega
        · rcases m3 with z | z
          · exact absurd z.1 w.1
          · rw [e]
            simp only [Int.reduceMul, Int.reduceAdd]
            rw [w.2.2.1, w.2.2.2]
            exact ⟨⟨n2, w.1⟩, sw z.2.2⟩
  rw [ebf] at y1
  -- and the turn behind it
  obtain ⟨s1', s2', p1, p2, p3⟩ := y6
  have ks := B.k0 p1 z4 kz (by decide)
  have ne : lt ≠ s1' := kd_ne kL ks.1 (by decide)
  rcases cm_fun ck p2 with ⟨w1, _⟩ | ⟨w1, w2⟩
  · exact absurd w1 ne
  · have v2' : zV x h g (cq_A h ra 1) s2' := by
      rcases p3 with p3 | ⟨_, _, p3 | p3⟩
      · exact p3
      · exact absurd (w1.trans p3) ne
      · rw [← w1, kL] at p3
        exact absurd p3 (by decide)
    rw [← w1] at v2'
    have e4 := B.vinj v2' v3 l0
    rw [← w2] at p1 ks
    have e5 := B.vinj p1 vq ks.2
    obtain ⟨wa, _, z5, _⟩ := z4
    rw [e5] at z5
    refine f10 a q ra r sa8 sq List.not_mem_nil List.not_mem_nil (by rw [y1, e0]) (by rw [y1]; exact Option.some_ne_none _) y2 e1 ⟨by rw [zr, y5], fun i i0 i1 => ?_⟩
    rw [y5] at i1
    have i' : i = 0 := by omega
    rw [i']
    simp only [Int.mul_zero, Int.zero_add]
    rw [e5, e4, z5]
    refine ⟨⟨Option.some_ne_none _, Option.some_ne_none _⟩, ?_⟩
    rcases mt wa z5 with ⟨w3, w4⟩ | ⟨w3, w4⟩
    · exact Or.inr ⟨by rw [w4, z5], by rw [w3]⟩
    · exact Or.inl ⟨by rw [w3, z5], by rw [w4]⟩
end
