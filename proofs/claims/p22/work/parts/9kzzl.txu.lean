/-! turns and terms: a turn that is met, found or made -/
/-- more turns have terms -/
def zE (dom sd : Nat → Prop) (rt ct : Nat → Int) (dom' sd' : Nat → Prop) (rt' ct' : Nat → Int) : Prop := (∀ a, dom a → dom' a ∧ rt' a = rt a ∧ ct' a = ct a) ∧ ∀ a, sd a → sd' a
theorem zE.refl {dom sd : Nat → Prop} {rt ct : Nat → Int} : zE dom sd rt ct dom sd rt ct := ⟨fun _ q => ⟨q, rfl, rfl⟩, fun _ q => q⟩
theorem zE.trans {dom sd d1 s1 d2 s2 : Nat → Prop} {rt ct r1 c1 r2 c2 : Nat → Int} (p : zE dom sd rt ct d1 s1 r1 c1) (q : zE d1 s1 r1 c1 d2 s2 r2 c2) : zE dom sd rt ct d2 s2 r2 c2 := ⟨fun a w => by
  obtain ⟨p1, p2, p3⟩ := p.1 a w
  obtain ⟨q1, q2, q3⟩ := q.1 a p1
  exact ⟨q1, q2.trans p2, q3.trans p3⟩, fun a w => q.2 a (p.2 a w)⟩
section
variable {c x nt : Nat} {dom sd : Nat → Prop} {rt ct : Nat → Int} {dp : Nat → Nat} {kd : Int → Nat} {m : Nat} {h g h' g' : cx_Q} {E : Nat → Option Int} {h0 : cx_Q}
/-- what secretOf told on both sides: among the opens that were there -/
theorem TB.so_v (B : TB c x nt dom sd rt ct dp kd m h g) (N : zN x h h' g g') {o : Option Nat} {v : Int64} {q : Int} (ho : (o = none ∧ ∀ w, cq_s h w = 6 → cq_J h w 1 ≠ v) ∨ ∃ w, o = some w ∧ cq_s h' w = 6 ∧ cq_J h' w 1 = v ∧ ∀ k, cq_I g x 10 ≤ k → k < cq_I g' x 10 → cq_J g' (x + 9) k ≠ v) (hq : sO x g' (cq_I g x 10) v q) : zV x h' g' o q := by
  have le := N.1.1.2
  rcases ho with ⟨h1, h2⟩ | ⟨w, h1, h2, h3, h4⟩
  · rcases hq with ⟨k, q1, q2, q3, q4⟩ | ⟨q1, q2⟩
    · exfalso
      obtain ⟨w, w1, w2⟩ := B.o4 k q1 q2
      refine h2 w w1 (by rw [w2, ← q3, (N.1.2.2.2 k q2).2])
    · exact Or.inl ⟨h1, q1⟩
  · refine Or.inr ⟨w, h1, h2, ?_⟩
    rw [h3]
    rcases hq with ⟨k, q1, q2, q3, q4⟩ | ⟨q1, q2⟩
    · exact Or.inl ⟨k, q1, by omega, q3, q4⟩
    · refine Or.inr ⟨q1, fun k k0 k1 => ?_⟩
      by_cases z : k < cq_I g x 10
      · exact q2 k k0 z
      · exact h4 k (by omega) k1
/-- the same, where draws came between: then the number may be of one of them -/
theorem TB.so_p (B : TB c x nt dom sd rt ct dp kd m h g) (N : zN x h h' g g') {o : Option Nat} {v : Int64} {q m' : Int} (hm : cq_I g x 10 ≤ m' ∧ m' ≤ cq_I g' x 10) (ho : (o = none ∧ ∀ w, cq_s h w = 6 → cq_J h w 1 ≠ v) ∨ ∃ w, o = some w ∧ cq_s h' w = 6 ∧ cq_J h' w 1 = v ∧ ∀ k, cq_I g x 10 ≤ k → k < cq_I g' x 10 → cq_J g' (x + 9) k ≠ v) (hq : sO x g' m' v q) : zV x h' g' o q ∨ (o = none ∧ ∃ k, cq_I g x 10 ≤ k ∧ k < m' ∧ cq_I g' (x + 10) k = q) := by
  rcases hq with ⟨k, q1, q2, q3, q4⟩ | ⟨q1, q2⟩
  · by_cases z : k < cq_I g x 10
    · exact Or.inl (B.so_v N ho (Or.inl ⟨k, q1, z, q3, q4⟩))
    · rcases ho with ho | ⟨w, h1, h2, h3, h4⟩
      · exact Or.inr ⟨ho.1, k, by omega, q2, q4⟩
      · exact absurd q3 (h4 k (by omega) (by omega))
  · exact Or.inl (B.so_v N ho (Or.inr ⟨q1, fun k k0 k1 => q2 k k0 (by omega)⟩))
/-- a turn of a pair that is met -/
theorem TB.getQ (B : TB c x nt dom sd rt ct dp kd m h g) {q b r : Nat} {o1 o2 : Option Nat} {t1 t2 k tR tC : Int} (n8 : nt < b) (lt : b < q) (sq : cq_s h q = 8) (e0 : cq_A h q 0 = some b) (db : dom b) (e1 : cq_A h q 1 = some r) (sr : cq_s h r = 101) (zr : cq_z h r = 2) (mt : (¬ dom q ∧ cq_A h r 0 = o1 ∧ cq_A h r 1 = o2) ∨ (o1 ≠ none ∧ o2 ≠ none ∧ ((cq_A h r 0 = o1 ∧ cq_A h r 1 = o2) ∨ (cq_A h r 0 = o2 ∧ cq_A h r 1 = o1)))) (v1 : zV x h g o1 t1) (v2 : zV x h g o2 t2) (ck : cmT x g k t1 t2) (hR : tmT x g tR 4 (rt b) k 0 0) (hC : tmT x g tC 5 (rt b) k 0 0) (uq : ∀ a, sd a → rt a = tR → a = q) (hm : dp b + 1 ≤ m) : ∃ dom' rt' ct' dp', TB c x nt dom' sd rt' ct' dp' kd m h g ∧ zE dom sd rt ct dom' sd rt' ct' ∧ (∀ a, dom' a → dom a ∨ a = q) ∧ dom' q ∧ rt' q = tR ∧ ct' q = tC ∧ dp' q = dp b + 1 := by
  have zq : zQ x h g kd r (rt b) tR tC := by
    refine ⟨zr, k, ?_, hR, hC⟩
    rcases mt with ⟨_, w1, w2⟩ | ⟨_, _, ⟨w1, w2⟩ | ⟨w1, w2⟩⟩
    · rw [w1, w2]
      exact ⟨t1, t2, v1, ck, Or.inl v2⟩
    · rw [w1, w2]
      exact ⟨t1, t2, v1, ck, Or.inl v2⟩
    · rw [w1, w2]
      exact ⟨t2, t1, v2, cm_sym ck, Or.inl v1⟩
  by_cases dq : dom q
  · rcases mt with mt | ⟨w1, w2, w3⟩
    · exact absurd dq mt.1
    · obtain ⟨y1, y2⟩ := B.q_eq dq db e0 e1 w1 w2 w3 v1 v2 ck hR hC
      refine ⟨dom, rt, ct, dp, B, zE.refl, fun _ w => Or.inl w, dq, y1, y2, ?_⟩
      obtain ⟨_, _, b', r', y3, y4, _, y6⟩ := B.t1 q dq
      rw [e0] at y3
      cases y3
      rcases y6 with ⟨y, _⟩ | ⟨_, y, _⟩
      · exact absurd y (B.t1 b db).2.1
      · exact y
  · have ne : ∀ {a : Nat}, dom a → a ≠ q := fun {a} da e => dq (by rw [← e]; exact da)
    have B' := B.addQ (rt' := fun a => if a = q then tR else rt a) (ct' := fun a => if a = q then tC else ct a) (dp' := fun a => if a = q then dp b + 1 else dp a) sq dq (by omega) e0 db e1 sr zq (fun a sa z => dq (by rw [← uq a sa z]; exact (B.t3 a sa).1)) (fun w => if_neg (ne w)) (if_pos rfl) (fun w => if_neg (ne w)) (if_pos rfl) (fun w => if_neg (ne w)) (if_pos rfl) hm
    exact ⟨_, _, _, _, B', ⟨fun a w => ⟨Or.inl w, if_neg (ne w), if_neg (ne w)⟩, fun _ w => w⟩, fun _ w => w, Or.inr rfl, if_pos rfl, if_pos rfl, if_pos rfl⟩
/-- no other SENDING turn has the ROOT of a turn behind one -/
theorem TB.uqS (B : TB c x nt dom sd rt ct dp kd m h g) (C : CT c E h0 [] h) {q b r w : Nat} {o2 : Option Nat} {t1 t2 k tR : Int} (sb : sd b) (e0 : cq_A h q 0 = some b) (sq : cq_s h q = 8) (e1 : cq_A h q 1 = some r) (zr : cq_z h r = 2) (mt : ∀ w', o2 = some w' → (cq_A h r 0 = some w ∧ cq_A h r 1 = o2) ∨ (cq_A h r 0 = o2 ∧ cq_A h r 1 = some w)) (ow : ∃ rb, cq_A h b 1 = some rb ∧ cq_A h rb 0 = some w) (v1 : zV x h g (some w) t1) (k1 : kd t1 = 5) (kz : kd 0 = 0) (v2 : zV x h g o2 t2) (ck : cmT x g k t1 t2) (hR : tmT x g tR 4 (rt b) k 0 0) : ∀ a, sd a → rt a = tR → a = q := by
  intro a sa ea
  have f7 := C.2.2.2.2.2.2.1
  have f10 := C.2.2.2.2.2.2.2.2.2.1
  obtain ⟨ba, ra, y1, y2, y3, y4, y5, ka, y6, y7, y8⟩ := B.sp sa
  rw [ea] at y7
  obtain ⟨_, z1, z2, _⟩ := tm_fun y7 hR
  have eb : ba = b := B.t2 b ba sb y4 z1
  rw [eb] at y1
  rw [z2] at y6
  have sa8 := (B.t1 a (B.t3 a sa).1).1
  have nab : a ≠ b := fun e => by
    rcases f7 a sa8 List.not_mem_nil with w1 | ⟨b', w1, w2, _⟩
    · rw [w1] at y1; cases y1
    · rw [w1] at y1
      cases y1
      omega
  obtain ⟨_, ra', ba', z3, z4, _⟩ := B.t3 a sa
  rw [y2] at z3
  cases z3
  obtain ⟨rb, ow1, ow2⟩ := ow
  have n0 : t1 ≠ 0 := fun e => by rw [e, kz] at k1; exact absurd k1 (by decide)
  obtain ⟨s1, s2, p1, p2, p3⟩ := y6
  have ks := B.k0 p1 z4 kz (by decide)
  have ne : t1 ≠ s1 := fun e => by
    rw [← e] at p1
    have := B.vinj p1 v1 n0
    exact nab (B.t8 a b ra rb sa sb y2 ow1 (by rw [this, ow2]))
  rcases cm_fun ck p2 with ⟨w1, _⟩ | ⟨w1, w2⟩
  · exact absurd w1 ne
  · have v2' : zV x h g (cq_A h ra 1) s2 := by
      rcases p3 with p3 | ⟨_, _, p3 | p3⟩
      · exact p3
      · exact absurd (w1.trans p3) ne
      · rw [← w1, k1] at p3
        exact absurd p3 (by decide)
    rw [← w1] at v2'
    have e4 := B.vinj v2' v1 n0
    rw [← w2] at p1 ks
    have e5 := B.vinj p1 v2 ks.2
    obtain ⟨wa, _, z5, _⟩ := z4
    rw [e5] at z5
    refine f10 a q ra r sa8 sq List.not_mem_nil List.not_mem_nil (by rw [y1, e0]) (by rw [y1]; exact Option.some_ne_none _) y2 e1 ⟨by rw [zr, y5], fun i i0 i1 => ?_⟩
    rw [y5] at i1
    have i' : i = 0 := by omega
    rw [i']
    simp only [Int.mul_zero, Int.zero_add]
    rw [e5, e4, z5]
    refine ⟨⟨Option.some_ne_none _, Option.some_ne_none _⟩, ?_⟩
    rcases mt wa z5 with ⟨w3, w4⟩ | ⟨w3, w4⟩
    · exact Or.inr ⟨by rw [w4, z5], by rw [w3]⟩
    · exact Or.inl ⟨by rw [w3, z5], by rw [w4]⟩
/-- a SENDING turn more: of a SECRET that was drawn just now -/
theorem TB.getS (B : TB c x nt dom sd rt ct dp kd m h g) {s b r t : Nat} {o2 : Option Nat} {T k tR tC lo : Int} (n8 : nt < b) (lt : b < s) (ss : cq_s h s = 8) (ns : ¬ dom s) (e0 : cq_A h s 0 = some b) (db : dom b) (e1 : cq_A h s 1 = some r) (sr : cq_s h r = 101) (zr : cq_z h r = 2) (a0 : cq_A h r 0 = some t) (a1 : cq_A h r 1 = o2) (st : cq_s h t = 6) (vT : zS x g (cq_J h t 1) T) (kT : kd T = 5) (p : zP x h g kd (some t) o2 k) (hR : tmT x g tR 4 (rt b) k 0 0) (hC : tmT x g tC 5 (rt b) k 0 0) (kz : kd 0 = 0) (hl : lo ≤ T) (hg : ∀ t, lo ≤ t → t < cq_I g x 2 → ¬ zG x g t) (od : ∀ a, dom a → a ≠ b → rt a < lo ∨ cq_I g (x + 2) (rt a) = 3) (ob : ∀ a r', sd a → cq_A h a 1 = some r' → cq_A h r' 0 ≠ some t) (fi : ∀ rb, cq_A h b 0 = some nt → cq_A h b 1 = some rb → zB x h g kd rb) (hm : dp b + 1 ≤ m) : ∃ dom' sd' rt' ct' dp', TB c x nt dom' sd' rt' ct' dp' kd m h g ∧ zE dom sd rt ct dom' sd' rt' ct' ∧ (∀ a, dom' a → dom a ∨ a = s) ∧ sd' s ∧ rt' s = tR ∧ ct' s = tC := by
  have W := B.tw
  have v1 : zV x h g (some t) T := Or.inr ⟨t, rfl, st, vT⟩
  have zq : zQ x h g kd r (rt b) tR tC := ⟨zr, k, by rw [a0, a1]; exact p, hR, hC⟩
  have kT' : T < k := by
    obtain ⟨t1, t2, p1, p2, _⟩ := p
    have e := B.vfun p1 v1
    have := tm_lt W p2
    rw [e] at this
    by_cases l : T < t2
    · rw [if_pos l] at this
      omega
    · rw [if_neg l, if_neg l] at this
      omega
  have lR := tm_lt W hR
  have lC := tm_lt W hC
  have fr : ∀ a, dom a → rt a ≠ tR := fun a da z => by
    by_cases e : a = b
    · rw [e] at z
      omega
    · rcases od a da e with y | y
      · omega
      · rw [z, hR.2.1] at y
        exact absurd y (by decide)
  have ne : ∀ {a : Nat}, dom a → a ≠ s := fun {a} da e => ns (by rw [← e]; exact da)
  obtain ⟨rt', hrt⟩ : ∃ f : Nat → Int, f = fun a => if a = s then tR else rt a := ⟨_, rfl⟩
  obtain ⟨ct', hct⟩ : ∃ f : Nat → Int, f = fun a => if a = s then tC else ct a := ⟨_, rfl⟩
  have er : ∀ {a : Nat}, dom a → rt' a = rt a := fun {a} w => by rw [hrt]; exact if_neg (ne w)
  have erf : rt' s = tR := by rw [hrt]; exact if_pos rfl
  have ec : ∀ {a : Nat}, dom a → ct' a = ct a := fun {a} w => by rw [hct]; exact if_neg (ne w)
  have ecf : ct' s = tC := by rw [hct]; exact if_pos rfl
  have B1 := B.addQ (rt' := rt') (ct' := ct') (dp' := fun a => if a = s then dp b + 1 else dp a) ss ns (by omega) e0 db e1 sr zq (fun a sa => fr a (B.t3 a sa).1) er erf ec ecf (fun w => if_neg (ne w)) (if_pos rfl) hm
  have t7 := B.t7 s ss ns (by omega)
  have rg : ∀ {i : Nat} {t : Int}, nx x g tC i t → t < cq_I g x 2 := fun {i t} q => by
    cases i with
    | zero =>
      have e : t = tC := q
      rw [e]
      exact hC.1.2
    | succ i =>
      obtain ⟨_, _, q⟩ := q
      exact q.1.2
  have ng : ∀ i t, nx x g tC i t → ¬ zG x g t := fun i t q => hg t (by have := nx_ge W q; omega) (rg q)
  have nk : ∀ i t, kx x g tC i t → ¬ zG x g t := fun i t q => hg t (by have := kx_ge W q; omega) (by obtain ⟨_, _, q⟩ := q; exact q.1.2)
  have B2 := B1.mkS (s := s) (b := b) (r := r) (Or.inr rfl) e0 (Or.inl db) e1 ⟨t, T, a0, st, vT, kT⟩ (fun a r' sa z => by rw [a0]; exact ob a r' sa z) fi (fun a da z => by
    rcases da with da | da
    · rw [er da, erf] at z
      exact absurd z (fr a da)
    · exact da) t7.2.1 (t7.2.2 (by rw [e0]; exact Option.some_ne_none _)) (by rw [ecf]; exact ng) (by rw [ecf]; exact nk)
  exact ⟨_, _, _, _, _, B2, ⟨fun a w => ⟨Or.inl w, er w, ec w⟩, fun _ w => Or.inl w⟩, fun _ w => w, Or.inr rfl, erf, ecf⟩
end
