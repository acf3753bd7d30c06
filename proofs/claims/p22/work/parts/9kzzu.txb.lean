/-! turns and terms: a SESSION is BEGUN -/
section
variable {c x nt : Nat} {n : Int} {T Lf T' : Int → Nat} {dom sd : Nat → Prop} {rt ct : Nat → Int} {dp : Nat → Nat} {kd kd' : Int → Nat} {m m' : Nat} {h g h' g' : cx_Q} {E E0 : Nat → Option Int} {pe : Int → Nat} {ro : Int → Int → Nat} {pa lb tp rd en op ob : Nat}
/-- what was told of a number, for so_v and so_p -/
theorem soT.p {v : Int64} {o : Option Nat} (N : zN x h h' g g') (p : soT h v o) : (o = none ∧ ∀ w, cq_s h w = 6 → cq_J h w 1 ≠ v) ∨ ∃ w, o = some w ∧ cq_s h' w = 6 ∧ cq_J h' w 1 = v ∧ ∀ k, cq_I g x 10 ≤ k → k < cq_I g' x 10 → cq_J g' (x + 9) k ≠ v := by
  rcases p with p | ⟨w, p1, p2, p3⟩
  · exact Or.inl p
  · exact Or.inr ⟨w, p1, (N.2.1 w p2).1, (N.2.1 w p2).2.trans p3, fun k k0 k1 => by rw [← p3]; exact N.n p2 k k0 k1⟩
theorem TX.bgB (X : TX c x nt n T Lf dom sd rt ct dp kd m h g) (F : FX c x n pe ro pa lb tp rd en op ob T Lf h g) (C0 : CT c E0 h [] h) (C : CT c E h [] h') (hC : E c = none) (hc : cq_s h c = 9) (W : TW x g') (U : ∀ w w', cq_s h' w = 6 → cq_s h' w' = 6 → cq_J h' w 1 = cq_J h' w' 1 → w = w') (Fr : zFr x n h g) (A : zAA x n g) (hm : m ≤ m') (hm2 : 2 ≤ m') {u v k sl : Int} (hu : 0 ≤ u ∧ u < n) (hv : 0 ≤ v ∧ v < n) (hU : cq_I g (x + 11) u ≠ 0) (hV : cq_I g (x + 11) v ≠ 0) (kk : 0 ≤ k ∧ k ≤ cq_I g (x + 23) v) (d12 : 0 ≤ cq_I g (x + 12) u ∧ cq_I g (x + 12) u < 140) (n2_ : 1 ≤ cq_I g x 2) (o10 : 0 ≤ cq_I g x 10) (bx : BX c pe T T' h h' u v k sl (cq_J g (x + 20) v) (cq_J g (x + 1) u) (cq_I g (x + 12) u)) {tF T_ tC tR : Int} (e : exT x g g') (dr1 : drT x g' (cq_I g x 2) (cq_I g x 10) (dO (cq_J g (x + 1) u) (cq_I g (x + 12) u))) (fi : fiT x g' (cq_I g x 10 + 1) (cq_I g (x + 15) u) (cq_I g x 2) (cq_I g (x + 15) v) (cq_J g (x + 20) v) (cq_I g (x + 26) (61 * v + k)) k tF) (dr2 : drT x g' T_ (cq_I g x 10 + 1) (dO (cq_J g (x + 1) u) (cq_I g (x + 12) u + 1))) (tn : tnT x g' (cq_I g x 10 + 1 + 1) T_ tF (cq_J g (x + 20) v) tC tR) (lT : cq_I g x 2 < T_) (e10 : cq_I g' x 10 = cq_I g x 10 + 2) : ∃ dom' sd' rt' ct' dp' kd' a s rs r, TB c x nt dom' sd' rt' ct' dp' kd' m' h' g' ∧ zE dom sd rt ct dom' sd' rt' ct' ∧ zN x h h' g g' ∧ (∀ t, kd t ≠ 0 → kd' t = kd t) ∧ kd' 0 = 0 ∧ (T' = fun q => if q = sl then a else T q) ∧ cq_s h' a = 7 ∧ (cq_A h' a 7 = some s ∧ cq_A h' a 9 = some s ∧ cq_A h' a 11 = none ∧ cq_A h' a 12 = some r) ∧ sd' s ∧ rt' s = tR ∧ ct' s = tC ∧ cq_A h' s 1 = some rs ∧ cq_A h' rs 0 = some r ∧ cq_s h' r = 6 ∧ zS x g' (cq_J h' r 1) T_ ∧ cq_s h' (a + 1) = 1 ∧ cq_A h' (a + 1) 3 = some (a + 5) := by
  have B := X.b
  obtain ⟨a, t, r, f, s, nt', idu, idv, o6, o7, b1, ⟨b2, b2'⟩, ⟨b3, b3', b3j⟩, ⟨b4, b4', b4j⟩, ⟨b5, b5u, b5v⟩, b6, ⟨b7, b7'⟩, ⟨b8, b8'⟩, ⟨b9, b9'⟩, ⟨c7, c9, c11, c12, c14⟩, b11, b12⟩ := bx
  have en : nt' = nt := by
    have := B.t0.1
    rw [b5] at this
    exact Option.some.inj this
  rw [en] at b8
  have C1 : CT c E h' [] h' := C.an
  have c1 := C.1
  have c3 := C.2.2.1
  have c4 := C.2.2.2.1
  have f14 := C0.2.2.2.2.2.2.2.2.2.2.2.2.2.1
  have kc : ∀ k, cq_I g x 10 ≤ k → k < cq_I g' x 10 → k = cq_I g x 10 ∨ k = cq_I g x 10 + 1 := fun k k0 k1 => by omega
  have nne : dO (cq_J g (x + 1) u) (cq_I g (x + 12) u) ≠ dO (cq_J g (x + 1) u) (cq_I g (x + 12) u + 1) := fun y => by
    have := (A u u _ _ hu.1 hu.2 hu.1 hu.2 d12.1 (by omega) (by omega) (by omega) y).2
    omega
  obtain ⟨N, O⟩ := zNO Fr A C U e (fun j j0 j1 => by
    rcases kc j j0 j1 with y | y
    · rw [y]
      exact ⟨u, cq_I g (x + 12) u, t, ⟨hu, Int.le_refl _, d12.1, by omega⟩, dr1.2.2.1, ⟨b3', b3j⟩, by rw [dr1.2.2.2]; exact dr1.1, by rw [dr1.2.2.2]; exact Int.le_refl _⟩
    · rw [y]
      exact ⟨u, cq_I g (x + 12) u + 1, r, ⟨hu, by omega, by omega, by omega⟩, dr2.2.2.1, ⟨b4', b4j⟩, by rw [dr2.2.2.2]; exact dr2.1, by rw [dr2.2.2.2]; omega⟩) (fun j j' j0 j1 l0 l1 z => by
    rcases kc j j0 j1 with y | y <;> rcases kc j' l0 l1 with y' | y'
    · rw [y, y']
    · rw [y, y', dr1.2.2.1, dr2.2.2.1, dr1.2.2.2, dr2.2.2.2] at z
      exact absurd z (fun w => w.elim (fun q => by omega) nne)
    · rw [y, y', dr1.2.2.1, dr2.2.2.1, dr1.2.2.2, dr2.2.2.2] at z
      exact absurd z (fun w => w.elim (fun q => by omega) (fun q => nne q.symm))
    · rw [y, y'])
  have lt2 := dr2.1.1.2
  -- kinds: e, and the pair
  obtain ⟨kd', hkd⟩ : ∃ f : Int → Nat, f = fun q => if q = cq_I g x 2 then 1 else if q = T_ then 5 else kd q := ⟨_, rfl⟩
  have kE : kd' (cq_I g x 2) = 1 := by rw [hkd]; exact if_pos rfl
  have kT : kd' T_ = 5 := by
    rw [hkd]
    show (if T_ = cq_I g x 2 then 1 else if T_ = T_ then 5 else kd T_) = 5
    rw [if_neg (by omega), if_pos rfl]
  have kO : ∀ q, q ≠ cq_I g x 2 → q ≠ T_ → kd' q = kd q := fun q y1 y2 => by
    rw [hkd]
    show (if q = cq_I g x 2 then 1 else if q = T_ then 5 else kd q) = kd q
    rw [if_neg y1, if_neg y2]
  have K : zKd kd kd' (cq_I g x 2) (cq_I g' x 2) := ⟨fun q z => kO q (by omega) (by omega), fun q z => by
    rw [kO q (by omega) (by omega)]
    exact Classical.byContradiction fun y => by have := B.k2 q y; omega⟩
  have hk := K.k B
  have kz : kd' 0 = 0 := by rw [kO 0 (by omega) (by omega)]; exact X.kz
  have B1 := B.ext C0 C hC hc W N O hk (fun q z => by
    by_cases y : q = cq_I g x 2
    · rw [y]
      exact Or.inr ⟨Int.le_refl _, dr1.1⟩
    · by_cases y' : q = T_
      · rw [y', kT] at z
        exact absurd z (by decide)
      · rw [kO q y y'] at z
        exact Or.inl z) K.tt hm
  -- terms of SECRETS
  have fuU := F.fu u hu.1 hu.2
  have fuV := F.fu v hv.1 hv.2
  obtain ⟨zU, zU2⟩ := X.n1 u hu.1 hu.2 hU
  obtain ⟨zV', zV2⟩ := X.n1 v hv.1 hv.2 hV
  obtain ⟨du, du1, du2, _, du3, _⟩ := fuU.n1 hU
  obtain ⟨dv, dv1, dv2, _, dv3, _⟩ := fuV.n1 hV
  have eu := Option.some.inj (b5u.symm.trans du1)
  have ev_ := Option.some.inj (b5v.symm.trans dv1)
  rw [← eu] at du2 du3
  rw [← ev_] at dv2 dv3
  rw [← du3] at zU
  rw [← dv3] at zV'
  have vU : zV x h' g' (some idu) (cq_I g (x + 15) u) := N.v (Or.inr ⟨idu, rfl, du2, zU⟩)
  have vV : zV x h' g' (some idv) (cq_I g (x + 15) v) := N.v (Or.inr ⟨idv, rfl, dv2, zV'⟩)
  have vE : zV x h' g' (some t) (cq_I g x 2) := Or.inr ⟨t, rfl, b3', by rw [b3j]; exact dr_zS o10 dr1⟩
  have zR_ : zS x g' (cq_J h' r 1) T_ := by rw [b4j]; exact dr_zS (by omega) dr2
  have vR : zV x h' g' (some r) T_ := Or.inr ⟨r, rfl, b4', zR_⟩
  have o6d : k ≠ 0 → ∃ d, o6 = some d ∧ cq_s h d = 6 ∧ zS x g (cq_J h d 1) (cq_I g (x + 26) (61 * v + k)) ∧ kd (cq_I g (x + 26) (61 * v + k)) = 4 := fun k0 => by
    obtain ⟨d, d1, d2, _, d3⟩ := fuV.ok k (by omega) kk.2
    obtain ⟨y1, y2⟩ := X.n3 v k hv.1 hv.2 (by omega) kk.2
    exact ⟨d, by rw [b7' k0]; exact d1, d2, by rw [d3]; exact y1, y2⟩
  have hso := b6.p N
  -- the first turn
  obtain ⟨q, ta, tb, tc, td, fi1, fi2, fi3, fi4, fi5, fi6⟩ := fi
  have q7 : zV x h' g' o7 q ∨ (o7 = none ∧ q = cq_I g x 2) := by
    rcases B.so_p N ⟨by omega, by omega⟩ hso fi1.2 with y | ⟨y1, k', y2, y3, y4⟩
    · exact Or.inl y
    · have : k' = cq_I g x 10 := by omega
      rw [this, dr1.2.2.2] at y4
      exact Or.inr ⟨y1, y4.symm⟩
  obtain ⟨sf, ef0, rf, ef1, srf, ef2⟩ := b8
  rcases ef2 with ⟨_, ef2⟩ | ⟨ef2, _⟩
  rotate_left
  · rw [b8'] at ef2
    exact absurd ef2 (by decide)
  obtain ⟨_, fa, fb, fc, fd⟩ := ef2
  have pa : zP x h' g' kd' (some idu) o7 ta := ⟨_, q, vU, fi2, q7.imp id (fun y => ⟨y.1, Option.some_ne_none _, Or.inr (by rw [y.2]; exact kE)⟩)⟩
  have pb : zP x h' g' kd' (some t) (some idv) tb := ⟨_, _, vE, fi3, Or.inl vV⟩
  have pc : zP x h' g' kd' (some t) o7 tc := ⟨_, q, vE, fi4, q7.imp id (fun y => ⟨y.1, Option.some_ne_none _, Or.inl y.2⟩)⟩
  have zf : zF x h' g' kd' rf tF := by
    refine ⟨ta, tb, tc, td, by rw [fa.1, fa.2]; exact pa, by rw [fb.1, fb.2]; exact pb, by rw [fc.1, fc.2]; exact pc, ?_, fi6⟩
    rcases fi5 with ⟨y1, y2⟩ | ⟨y1, y2⟩
    · have k0 : k = 0 := by omega
      rcases fd with fd | fd
      · exact Or.inl ⟨fd.2, y2⟩
      · exact absurd (b7.mpr k0) fd.1
    · have k0 : k ≠ 0 := by omega
      obtain ⟨d, d1, d2, d3, d4⟩ := o6d k0
      rcases fd with fd | fd
      · rw [fd.1] at d1; cases d1
      · refine Or.inr ⟨fd.2.1, ?_⟩
        rw [fd.2.2.1, fd.2.2.2, d1]
        exact ⟨_, _, vE, y2, Or.inl (N.v (Or.inr ⟨d, rfl, d2, d3⟩))⟩
  have n8 : ∀ {d : Nat}, dom d → cq_s h d = 8 := fun {d} y => (B.t1 d y).1
  have nf : ¬ dom f := fun y => by
    have := n8 y
    rw [b8'] at this
    exact absurd this (by decide)
  have ntf : nt < f := C1.bl sf ef0
  have nef : ∀ {d : Nat}, dom d → d ≠ f := fun {d} y z => nf (by rw [← z]; exact y)
  obtain ⟨rt2, hrt⟩ : ∃ w : Nat → Int, w = fun d => if d = f then tF else rt d := ⟨_, rfl⟩
  obtain ⟨dp2, hdp⟩ : ∃ w : Nat → Nat, w = fun d => if d = f then 1 else dp d := ⟨_, rfl⟩
  have er : ∀ {d : Nat}, dom d → rt2 d = rt d := fun {d} w => by rw [hrt]; exact if_neg (nef w)
  have erf : rt2 f = tF := by rw [hrt]; exact if_pos rfl
  have ed : ∀ {d : Nat}, dom d → dp2 d = dp d := fun {d} w => by rw [hdp]; exact if_neg (nef w)
  have edf : dp2 f = 1 := by rw [hdp]; exact if_pos rfl
  have B2 := B1.addF (rt' := rt2) (dp' := dp2) sf nf (by omega) ef0 ef1 srf zf er erf ed edf (by omega)
  -- the turn behind it
  obtain ⟨q2, k2, tn1, tn2, tnC, tnR⟩ := tn
  have q27 : zV x h' g' o7 q2 ∨ (o7 = none ∧ (q2 = T_ ∨ kd' q2 = 1)) := by
    rcases B.so_p N ⟨by omega, by omega⟩ hso tn1.2 with y | ⟨y1, k', y2, y3, y4⟩
    · exact Or.inl y
    · rcases kc k' y2 (by omega) with z | z
      · rw [z, dr1.2.2.2] at y4
        exact Or.inr ⟨y1, Or.inr (by rw [← y4]; exact kE)⟩
      · rw [z, dr2.2.2.2] at y4
        exact Or.inr ⟨y1, Or.inl y4.symm⟩
  have ps : zP x h' g' kd' (some r) o7 k2 := ⟨_, q2, vR, tn2, q27.imp id (fun y => ⟨y.1, Option.some_ne_none _, y.2⟩)⟩
  obtain ⟨ss, es0, rs, es1, srs, zrs, es2⟩ := b9
  rcases es2 with ⟨_, es2, es3⟩ | ⟨es2, _⟩
  rotate_left
  · rw [b9'] at es2
    exact absurd es2 (by decide)
  have rtlt : ∀ {d : Nat}, dom d → rt d < cq_I g x 2 := fun {d} da => by
    obtain ⟨_, _, b, r', _, _, _, y⟩ := B.t1 d da
    rcases y with ⟨_, _, _, _, _, _, _, _, _, _, y⟩ | ⟨_, _, _, _, _, y, _⟩
    · exact y.1.2
    · exact y.1.2
  have fs : f < s := C1.bl ss es0
  obtain ⟨dom', sd', rt', ct', dp', B3, Z3, _, ds, er3, ec3⟩ := B2.getS (s := s) (b := f) (r := rs) (t := r) (o2 := o7) (T := T_) (k := k2) (tR := tR) (tC := tC) (lo := cq_I g x 2) ntf fs ss (fun y => by
    rcases y with y | y
    · have := n8 y
      rw [b9'] at this
      exact absurd this (by decide)
    · omega) es0 (Or.inr rfl) es1 srs zrs es2 es3 b4' zR_ kT ps (by rw [erf]; exact tnR) (by rw [erf]; exact tnC) kz (by omega) (fun q z1 z2 z3 => by have := zG_lt e z2 z3; omega) (fun d y z => by
    rcases y with y | y
    · rw [er y]
      exact Or.inl (rtlt y)
    · exact absurd y z) (fun d r' sd_ y1 y2 => by
    obtain ⟨da, r'', b', y3, ⟨w, _, y4, y5, _⟩, _⟩ := B.t3 d sd_
    have s8 := n8 da
    rw [(c3 d 1 s8).1 (by decide), y3] at y1
    rw [← Option.some.inj y1] at y2
    rw [c4 r'' 0 (f14 d r'' s8 List.not_mem_nil y3), y4] at y2
    cases y2
    rw [b4] at y5
    exact absurd y5 (by decide)) (fun rb y1 y2 => by
    rw [ef1] at y2
    cases y2
    refine ⟨⟨?_, ?_, ?_⟩, ⟨by rw [fc.1, fb.1], by rw [fc.2, fa.2]⟩, fun z8 => ?_⟩
    · rw [fa.1]
      exact ⟨idu, _, rfl, (N.2.1 idu du2).1, N.s du2 zU, by rw [hk _ (by rw [zU2]; decide)]; exact zU2⟩
    · rw [fb.1]
      exact ⟨t, _, rfl, b3', by rw [b3j]; exact dr_zS o10 dr1, kE⟩
    · rw [fb.2]
      exact ⟨idv, _, rfl, (N.2.1 idv dv2).1, N.s dv2 zV', by rw [hk _ (by rw [zV2]; decide)]; exact zV2⟩
    · rcases fd with fd | fd
      · rw [fd.2] at z8
        exact absurd z8 (by decide)
      · have k0 : k ≠ 0 := fun y => fd.1 (b7.mpr y)
        obtain ⟨d, d1, d2, d3, d4⟩ := o6d k0
        refine ⟨by rw [fd.2.2.1, fb.1], ?_⟩
        rw [fd.2.2.2, d1]
        exact ⟨d, _, rfl, (N.2.1 d d2).1, N.s d2 d3, by rw [hk _ (by rw [d4]; decide)]; exact d4⟩) (by rw [edf]; omega)
  have Z2 : zE dom sd rt ct (fun d => dom d ∨ d = f) sd rt2 ct := ⟨fun d y => ⟨Or.inl y, er y, rfl⟩, fun _ y => y⟩
  exact ⟨dom', sd', rt', ct', dp', kd', a, s, rs, r, B3, Z2.trans Z3, N, hk, kz, b1, b2', ⟨c7, c9, c11, c12⟩, ds, er3, ec3, es1, es2, b4', zR_, b11, b12⟩
end
