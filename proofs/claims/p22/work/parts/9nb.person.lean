/-! a user is made: exactly -/
/-- a user as it is made: a its cell, v its seed -/
def PN (a : Nat) (n : Int) (v : Int64) (g : cx_Q) : Prop := (cq_s g a = 4) ∧ (cq_s g (a + 1) = 176) ∧ (cq_s g (a + 2) = 177) ∧ (cq_s g (a + 3) = 178) ∧ (cq_s g (a + 4) = 179) ∧ (cq_s g (a + 5) = 180) ∧ (cq_s g (a + 6) = 181) ∧ (cq_A g a 8 = some (a + 1)) ∧ (cq_A g a 9 = some (a + 2)) ∧ (cq_A g a 10 = some (a + 3)) ∧ (cq_A g a 14 = some (a + 4)) ∧ (cq_A g a 15 = some (a + 5)) ∧ (cq_A g a 13 = some (a + 6)) ∧ (cq_A g a 3 = none) ∧ (∀ j, cq_I g a j = 0) ∧ (cq_J g a 0 = v) ∧ (∀ j, j ≠ 0 → cq_J g a j = 0) ∧ (∀ j, cq_I g (a + 3) j = 0) ∧ (RWS (a + 6) (a + 7) n g)
theorem PN.s0 {a : Nat} {n : Int} {v : Int64} {g : cx_Q} (F_ : PN a n v g) : cq_s g a = 4 := F_.1
theorem PN.s1 {a : Nat} {n : Int} {v : Int64} {g : cx_Q} (F_ : PN a n v g) : cq_s g (a + 1) = 176 := F_.2.1
theorem PN.s2 {a : Nat} {n : Int} {v : Int64} {g : cx_Q} (F_ : PN a n v g) : cq_s g (a + 2) = 177 := F_.2.2.1
theorem PN.s3 {a : Nat} {n : Int} {v : Int64} {g : cx_Q} (F_ : PN a n v g) : cq_s g (a + 3) = 178 := F_.2.2.2.1
theorem PN.s4 {a : Nat} {n : Int} {v : Int64} {g : cx_Q} (F_ : PN a n v g) : cq_s g (a + 4) = 179 := F_.2.2.2.2.1
theorem PN.s5 {a : Nat} {n : Int} {v : Int64} {g : cx_Q} (F_ : PN a n v g) : cq_s g (a + 5) = 180 := F_.2.2.2.2.2.1
theorem PN.s6 {a : Nat} {n : Int} {v : Int64} {g : cx_Q} (F_ : PN a n v g) : cq_s g (a + 6) = 181 := F_.2.2.2.2.2.2.1
theorem PN.a8 {a : Nat} {n : Int} {v : Int64} {g : cx_Q} (F_ : PN a n v g) : cq_A g a 8 = some (a + 1) := F_.2.2.2.2.2.2.2.1
theorem PN.a9 {a : Nat} {n : Int} {v : Int64} {g : cx_Q} (F_ : PN a n v g) : cq_A g a 9 = some (a + 2) := F_.2.2.2.2.2.2.2.2.1
theorem PN.a10 {a : Nat} {n : Int} {v : Int64} {g : cx_Q} (F_ : PN a n v g) : cq_A g a 10 = some (a + 3) := F_.2.2.2.2.2.2.2.2.2.1
theorem PN.a14 {a : Nat} {n : Int} {v : Int64} {g : cx_Q} (F_ : PN a n v g) : cq_A g a 14 = some (a + 4) := F_.2.2.2.2.2.2.2.2.2.2.1
theorem PN.a15 {a : Nat} {n : Int} {v : Int64} {g : cx_Q} (F_ : PN a n v g) : cq_A g a 15 = some (a + 5) := F_.2.2.2.2.2.2.2.2.2.2.2.1
theorem PN.a13 {a : Nat} {n : Int} {v : Int64} {g : cx_Q} (F_ : PN a n v g) : cq_A g a 13 = some (a + 6) := F_.2.2.2.2.2.2.2.2.2.2.2.2.1
theorem PN.a3 {a : Nat} {n : Int} {v : Int64} {g : cx_Q} (F_ : PN a n v g) : cq_A g a 3 = none := F_.2.2.2.2.2.2.2.2.2.2.2.2.2.1
theorem PN.I0 {a : Nat} {n : Int} {v : Int64} {g : cx_Q} (F_ : PN a n v g) : ∀ j, cq_I g a j = 0 := F_.2.2.2.2.2.2.2.2.2.2.2.2.2.2.1
theorem PN.Jv {a : Nat} {n : Int} {v : Int64} {g : cx_Q} (F_ : PN a n v g) : cq_J g a 0 = v := F_.2.2.2.2.2.2.2.2.2.2.2.2.2.2.2.1
theorem PN.J0 {a : Nat} {n : Int} {v : Int64} {g : cx_Q} (F_ : PN a n v g) : ∀ j, j ≠ 0 → cq_J g a j = 0 := F_.2.2.2.2.2.2.2.2.2.2.2.2.2.2.2.2.1
theorem PN.i3 {a : Nat} {n : Int} {v : Int64} {g : cx_Q} (F_ : PN a n v g) : ∀ j, cq_I g (a + 3) j = 0 := F_.2.2.2.2.2.2.2.2.2.2.2.2.2.2.2.2.2.1
theorem PN.rw_ {a : Nat} {n : Int} {v : Int64} {g : cx_Q} (F_ : PN a n v g) : RWS (a + 6) (a + 7) n g := F_.2.2.2.2.2.2.2.2.2.2.2.2.2.2.2.2.2.2
/-- what is other elsewhere tells nothing of it -/
theorem PN.ex {a : Nat} {n : Int} {v : Int64} {g g' : cx_Q} {P : Nat → Prop} (F : PN a n v g) (e : evx P g g') (h0 : ¬ P a) (hP : ∀ b, P b → cq_s g b = 9 ∨ cq_s g b = 105 ∨ cq_s g b = 4) : PN a n v g' := by
  have np : ∀ {b k : Nat}, cq_s g b = k → (k ≠ 9 ∧ k ≠ 105 ∧ k ≠ 4) → ¬ P b := fun {b k} w1 w2 z => by
    have := hP b z
    omega
  have eA := e.A F.s0 rfl h0
  have eI := e.I F.s0 rfl h0
  have eJ := e.J F.s0 (by decide) h0
  refine ⟨e.s F.s0 (by decide), e.s F.s1 (by decide), e.s F.s2 (by decide), e.s F.s3 (by decide), e.s F.s4 (by decide), e.s F.s5 (by decide), e.s F.s6 (by decide), by rw [eA]; exact F.a8, by rw [eA]; exact F.a9, by rw [eA]; exact F.a10, by rw [eA]; exact F.a14, by rw [eA]; exact F.a15, by rw [eA]; exact F.a13, by rw [eA]; exact F.a3, by rw [eI]; exact F.I0, by rw [eJ]; exact F.Jv, by rw [eJ]; exact F.J0, by rw [e.I F.s3 rfl (np F.s3 (by decide))]; exact F.i3, fun j j0 j1 => ?_⟩
  obtain ⟨r1, r2, r3, r4⟩ := F.rw_ j j0 j1
  exact ⟨by rw [e.A F.s6 rfl (np F.s6 (by decide))]; exact r1, e.s r2 (by decide), e.s r3 (by decide), by rw [e.I r2 rfl (np r2 (by decide))]; exact r4⟩
theorem evx.tn {P Q : Nat → Prop} {h h1 h' : cx_Q} (e : evx P h h1) (f : evx Q h1 h') (w : ∀ b, cq_s h b ≠ 99 → Q b → P b) : evx P h h' := by
  refine ⟨fun a z => ?_, fun a z => ?_, fun a z hP => ?_⟩
  · have e1 := e.1 a z
    have f1 := f.1 a (by rw [e1.1]; exact z)
    exact ⟨f1.1.trans e1.1, f1.2.trans e1.2⟩
  · rw [f.2.1 a ((e.1 a (by rw [z]; decide)).1.trans z), e.2.1 a z]
  · have e1 := (e.1 a z).1
    have e2 := e.2.2 a z hP
    have f2 := f.2.2 a (by rw [e1]; exact z) (fun y => hP (w a z y))
    exact ⟨f2.1.trans e2.1, fun q => (f2.2.1 (by rw [e1]; exact q)).trans (e2.2.1 q), fun q => (f2.2.2 (by rw [e1]; exact q)).trans (e2.2.2 q)⟩
def pfd (q : Nat) : Int := if q = 1 then 8 else if q = 2 then 9 else if q = 3 then 10 else if q = 4 then 14 else if q = 5 then 15 else 0
theorem pfd_inj : ∀ q ≤ 5, ∀ o ≤ 5, 1 ≤ q → q ≠ o → pfd q ≠ pfd o := by decide
theorem pfd_3 : ∀ q ≤ 5, pfd q ≠ 3 := by decide
theorem pfd_2 : ∀ q ≤ 5, pfd q ≠ 2 := by decide
/-- so many of its arrays are there -/
def PV (h : cx_Q) (a o : Nat) (g : cx_Q) : Prop := (g.1 = a + 1 + o) ∧ (∀ q, 1 ≤ q → q ≤ o → cq_s g (a + q) = 175 + q) ∧ (∀ q, 1 ≤ q → q ≤ o → cq_A g a (pfd q) = some (a + q)) ∧ (∀ q, 1 ≤ q → q ≤ o → ∀ j, cq_I g (a + q) j = 0) ∧ (∀ j, cq_I g a j = 0) ∧ (∀ j, cq_J g a j = 0) ∧ (cq_A g a 3 = none) ∧ (cq_A g a 2 = none) ∧ (∀ d, d < a → cq_s g d = cq_s h d ∧ cq_I g d = cq_I h d ∧ cq_A g d = cq_A h d) ∧ (evx (fun b => b = a) h g)
theorem PV.g1 {h : cx_Q} {a o : Nat} {g : cx_Q} (F_ : PV h a o g) : g.1 = a + 1 + o := F_.1
theorem PV.s_ {h : cx_Q} {a o : Nat} {g : cx_Q} (F_ : PV h a o g) : ∀ q, 1 ≤ q → q ≤ o → cq_s g (a + q) = 175 + q := F_.2.1
theorem PV.f_ {h : cx_Q} {a o : Nat} {g : cx_Q} (F_ : PV h a o g) : ∀ q, 1 ≤ q → q ≤ o → cq_A g a (pfd q) = some (a + q) := F_.2.2.1
theorem PV.z_ {h : cx_Q} {a o : Nat} {g : cx_Q} (F_ : PV h a o g) : ∀ q, 1 ≤ q → q ≤ o → ∀ j, cq_I g (a + q) j = 0 := F_.2.2.2.1
theorem PV.I0 {h : cx_Q} {a o : Nat} {g : cx_Q} (F_ : PV h a o g) : ∀ j, cq_I g a j = 0 := F_.2.2.2.2.1
theorem PV.J0 {h : cx_Q} {a o : Nat} {g : cx_Q} (F_ : PV h a o g) : ∀ j, cq_J g a j = 0 := F_.2.2.2.2.2.1
theorem PV.n3 {h : cx_Q} {a o : Nat} {g : cx_Q} (F_ : PV h a o g) : cq_A g a 3 = none := F_.2.2.2.2.2.2.1
theorem PV.n2 {h : cx_Q} {a o : Nat} {g : cx_Q} (F_ : PV h a o g) : cq_A g a 2 = none := F_.2.2.2.2.2.2.2.1
theorem PV.lo {h : cx_Q} {a o : Nat} {g : cx_Q} (F_ : PV h a o g) : ∀ d, d < a → cq_s g d = cq_s h d ∧ cq_I g d = cq_I h d ∧ cq_A g d = cq_A h d := F_.2.2.2.2.2.2.2.2.1
theorem PV.ex {h : cx_Q} {a o : Nat} {g : cx_Q} (F_ : PV h a o g) : evx (fun b => b = a) h g := F_.2.2.2.2.2.2.2.2.2
theorem PV.st {h g : cx_Q} {a o t : Nat} {z f : Int} (P : PV h a o g) (ho : o < 5) (al : cq_s g g.1 = 99) (ht : t = 176 + o) (hf : f = pfd (o + 1)) : PV h a (o + 1) (cq_sA (cq_nw g t z) a f (some g.1)) := by
  have g1 := P.g1
  have na : a ≠ g.1 := by omega
  have oa := nw_o (h := g) (s := t) (z := z) na
  refine ⟨by show g.1 + 1 = _; omega, fun q q1 q2 => ?_, fun q q1 q2 => ?_, fun q q1 q2 j => ?_, fun j => ?_, fun j => ?_, ?_, ?_, fun d hd => ?_, evx.sA (P := fun b => b = a) (P.ex.trans (ev.refl.nw al).x) rfl⟩
  · show cq_s (cq_nw g t z) (a + q) = 175 + q
    by_cases w : q = o + 1
    · have e : a + q = g.1 := by omega
      rw [e, nw_n.1, ht]
      omega
    · rw [(nw_o (by omega)).1]
      exact P.s_ q q1 (by omega)
  · by_cases w : q = o + 1
    · have e : a + q = g.1 := by omega
      rw [e, mm_sA, w, hf, if_pos ⟨rfl, rfl⟩]
    · rw [mm_sA, if_neg (fun y => pfd_inj q (by omega) (o + 1) (by omega) q1 w (by rw [← hf]; exact y.2)), oa.2.2.2.2]
      exact P.f_ q q1 (by omega)
  · show cq_I (cq_nw g t z) (a + q) j = 0
    by_cases w : q = o + 1
    · have e : a + q = g.1 := by omega
      rw [e, nw_n.2.2.1]
    · rw [(nw_o (by omega)).2.2.1]
      exact P.z_ q q1 (by omega) j
  · show cq_I (cq_nw g t z) a j = 0
    rw [oa.2.2.1]
    exact P.I0 j
  · show cq_J (cq_nw g t z) a j = 0
    rw [oa.2.2.2.1]
    exact P.J0 j
  · rw [mm_sA, if_neg (fun y => pfd_3 (o + 1) (by omega) (by rw [← hf]; exact y.2.symm)), oa.2.2.2.2]
    exact P.n3
  · rw [mm_sA, if_neg (fun y => pfd_2 (o + 1) (by omega) (by rw [← hf]; exact y.2.symm)), oa.2.2.2.2]
    exact P.n2
  · obtain ⟨l1, l2, l3⟩ := P.lo d hd
    have n1 := nw_o (h := g) (s := t) (z := z) (show d ≠ g.1 by omega)
    refine ⟨n1.1.trans l1, n1.2.2.1.trans l2, ?_⟩
    funext j
    rw [mm_sA, if_neg (fun z => by omega), n1.2.2.2.2, l3]
section
variable {Y : cx_Y} {K : Option cx_V → cx_Q → Prop} {c : Nat} {n L Z : Int} {E : Nat → Option Int} {h0 : cx_Q} {X : List Nat} {h : cx_Q}
theorem e_X5_init (hY : cY Y) {a : Nat} {v : Int64} (hn : 2 ≤ n ∧ n ≤ 6) (H : CI c n L Z E h0 (a :: X) h) (hs : cq_s h a = 4) (hm : h.1 = a + 1) (I0 : ∀ j, cq_I h a j = 0) (J0 : ∀ j, cq_J h a j = 0) (A3 : cq_A h a 3 = none) (A2 : cq_A h a 2 = none) (hK : ∀ h', CI c n L Z E h0 X h' → evx (fun b => b = a) h h' → PN a n v h' → h'.1 = a + 7 + 2 * n.toNat → (∀ d, d < a → cq_s h' d = cq_s h d ∧ cq_I h' d = cq_I h d ∧ cq_A h' d = cq_A h d) → K none h') : cw Y mi_X5_init K 0 [some (.inr (.inr (some a))), some (.inr (.inl v)), none, some (.inl n), none] [] h 18 385 := by
  have Q0 : PI c n L Z E h0 X h a 4 [] h := ⟨H, kA.refl, hs, fun j q => (nomatch q)⟩
  have P0 : PV h a 0 h := ⟨by omega, fun q q1 q2 => absurd q1 (by omega), fun q q1 q2 => absurd q1 (by omega), fun q q1 q2 => absurd q1 (by omega), I0, J0, A3, A2, fun _ _ => ⟨rfl, rfl, rfl⟩, evx.refl⟩
  refine bx_X5_init_0 hY (pf2_ok hY) ?_
  refine in_0 (by decide) ?_
  refine tt_a Q0 ⟨own_9 (by decide), by decide⟩ rfl (by decide) (by decide) rfl (Or.inl rfl) (by decide) (by decide) fun g1 Q1 e1 => ?_
  have P1 : PV h a 1 g1 := by rw [e1]; exact P0.st (by decide) (Q0.1.al _ (Nat.le_refl _)) rfl rfl
  refine tt_a Q1 ⟨own_9 (by decide), by decide⟩ rfl (by decide) (by decide) rfl (Or.inl rfl) (by decide) (by decide) fun g2 Q2 e2 => ?_
  have P2 : PV h a 2 g2 := by rw [e2]; exact P1.st (by decide) (Q1.1.al _ (Nat.le_refl _)) rfl rfl
  refine tt_b Q2 ⟨own_9 (by decide), by decide⟩ rfl (by decide) (by decide) rfl (Or.inl rfl) (by decide) (by decide) fun g3 Q3 e3 => ?_
  have P3 : PV h a 3 g3 := by rw [e3]; exact P2.st (by decide) (Q2.1.al _ (Nat.le_refl _)) rfl rfl
  refine tt_b Q3 ⟨own_9 (by decide), by decide⟩ rfl (by decide) (by decide) rfl (Or.inl rfl) (by decide) (by decide) fun g4 Q4 e4 => ?_
  have P4 : PV h a 4 g4 := by rw [e4]; exact P3.st (by decide) (Q3.1.al _ (Nat.le_refl _)) rfl rfl
  refine tt_b Q4 ⟨own_9 (by decide), by decide⟩ rfl (by decide) (by decide) rfl (Or.inl rfl) (by decide) (by decide) fun g5 Q5 e5 => ?_
  have P5 : PV h a 5 g5 := by rw [e5]; exact P4.st (by decide) (Q4.1.al _ (Nat.le_refl _)) rfl rfl
  clear e1 e2 e3 e4 e5 P0 P1 P2 P3 P4 Q0 Q1 Q2 Q3 Q4
  obtain ⟨G, k, sa, nn⟩ := Q5
  have hal := G.al g5.1 (Nat.le_refl _)
  have m5 := P5.g1
  have na : a ≠ g5.1 := fun e => by rw [← e, sa] at hal; exact absurd hal (by decide)
  have G1 : CI c n L Z E h0 (a :: X) (cq_sJ g5 a 0 v) := ⟨G.1.sJ sa (own_9 (by decide)), G.2.s40 sa P5.n2⟩
  have G2 := G1.nw (s := 181) (z := n) rfl (fun q => absurd q (by decide))
  have sa2 : cq_s (cq_nw (cq_sJ g5 a 0 v) 181 n) a = 4 := (nw_o (h := cq_sJ g5 a 0 v) (s := 181) (z := n) na).1.trans sa
  have sb : cq_s (cq_nw (cq_sJ g5 a 0 v) 181 n) g5.1 = 181 := nw_n.1
  have G3 : CI c n L Z E h0 (g5.1 :: a :: X) (cq_sA (cq_nw (cq_sJ g5 a 0 v) 181 n) a 13 (some g5.1)) := G2.sA sa2 (own_9 (by decide)) (fun d q => by cases q; rw [sb]; rfl) (fun q => (nomatch q)) rfl
  -- the memory ahead of its rows
  have oa := nw_o (h := cq_sJ g5 a 0 v) (s := 181) (z := n) na
  have ex6 : evx (fun b => b = a) h (cq_sA (cq_nw (cq_sJ g5 a 0 v) 181 n) a 13 (some g5.1)) := evx.sA (P := fun b => b = a) ((evx.sJ (P := fun b => b = a) P5.ex rfl (by rw [hs]; decide)).trans (ev.refl.nw (h' := cq_sJ g5 a 0 v) hal).x) rfl
  have sq : ∀ q, 1 ≤ q → q ≤ 5 → cq_s (cq_sA (cq_nw (cq_sJ g5 a 0 v) 181 n) a 13 (some g5.1)) (a + q) = 175 + q := fun q q1 q2 => by
    show cq_s (cq_nw (cq_sJ g5 a 0 v) 181 n) (a + q) = 175 + q
    rw [(nw_o (h := cq_sJ g5 a 0 v) (show a + q ≠ g5.1 by omega)).1]
    exact P5.s_ q q1 q2
  have fq : ∀ q, 1 ≤ q → q ≤ 5 → cq_A (cq_sA (cq_nw (cq_sJ g5 a 0 v) 181 n) a 13 (some g5.1)) a (pfd q) = some (a + q) := fun q q1 q2 => by
    have n13 : ∀ q ≤ 5, pfd q ≠ 13 := by decide
    rw [mm_sA, if_neg (fun y => n13 q q2 y.2), oa.2.2.2.2]
    exact P5.f_ q q1 q2
  have f13 : cq_A (cq_sA (cq_nw (cq_sJ g5 a 0 v) 181 n) a 13 (some g5.1)) a 13 = some g5.1 := by rw [mm_sA, if_pos ⟨rfl, rfl⟩]
  have f3 : cq_A (cq_sA (cq_nw (cq_sJ g5 a 0 v) 181 n) a 13 (some g5.1)) a 3 = none := by
    rw [mm_sA, if_neg (fun y => absurd y.2 (by decide)), oa.2.2.2.2]
    exact P5.n3
  have iI : ∀ j, cq_I (cq_sA (cq_nw (cq_sJ g5 a 0 v) 181 n) a 13 (some g5.1)) a j = 0 := fun j => by
    show cq_I (cq_nw (cq_sJ g5 a 0 v) 181 n) a j = 0
    rw [oa.2.2.1]
    exact P5.I0 j
  have iJ : ∀ j, cq_J (cq_sA (cq_nw (cq_sJ g5 a 0 v) 181 n) a 13 (some g5.1)) a j = if j = 0 then v else 0 := fun j => by
    show cq_J (cq_nw (cq_sJ g5 a 0 v) 181 n) a j = _
    rw [oa.2.2.2.1, mm_sJ]
    by_cases w : j = 0
    · rw [if_pos ⟨rfl, w⟩, if_pos w]
    · rw [if_neg (fun y => w y.2), if_neg w]
      exact P5.J0 j
  have i3 : ∀ j, cq_I (cq_sA (cq_nw (cq_sJ g5 a 0 v) 181 n) a 13 (some g5.1)) (a + 3) j = 0 := fun j => by
    show cq_I (cq_nw (cq_sJ g5 a 0 v) 181 n) (a + 3) j = 0
    rw [(nw_o (h := cq_sJ g5 a 0 v) (show a + 3 ≠ g5.1 by omega)).2.2.1]
    exact P5.z_ 3 (by decide) (by decide) j
  have m6 : (cq_sA (cq_nw (cq_sJ g5 a 0 v) 181 n) a 13 (some g5.1)).1 = a + 7 := by
    show g5.1 + 1 = a + 7
    omega
  have e6 : g5.1 = a + 6 := by omega
  have s6 : cq_s (cq_sA (cq_nw (cq_sJ g5 a 0 v) 181 n) a 13 (some g5.1)) g5.1 = 181 := sb
  simp only [wp_iconst, wp_bipush, wp_sipush, wp_ldc, wp_ldc2_w, wp_lconst0, wp_lconst1, wp_aconst_null, wp_iload_0, wp_istore_0, wp_iload_1, wp_istore_1, wp_iload_2, wp_istore_2, wp_iload_3, wp_istore_3, wp_iload, wp_istore, wp_lload_0, wp_lstore_0, wp_lload_1, wp_lstore_1, wp_lload_2, wp_lstore_2, wp_lload_3, wp_lstore_3, wp_lload, wp_lstore, wp_aload_0, wp_astore_0, wp_aload_1, wp_astore_1, wp_aload_2, wp_astore_2, wp_aload_3, wp_astore_3, wp_aload, wp_astore, wp_iinc, wp_iadd, wp_isub, wp_imul, wp_iand, wp_ior, wp_ixor, wp_ishl, wp_ishr, wp_iushr, wp_irem, wp_ladd, wp_lsub, wp_lmul, wp_land, wp_lor, wp_lxor, wp_lshl, wp_lshr, wp_lushr, wp_lrem, wp_lcmp, wp_i2l, wp_l2i, wp_dupI, wp_dupA, wp_dup2J, wp_dup2IA, wp_popI, wp_popA, wp_pop2, wp_goto, wp_if_eq, wp_icmp_eq, wp_if_ne, wp_icmp_ne, wp_if_lt, wp_icmp_lt, wp_if_ge, wp_icmp_ge, wp_if_gt, wp_icmp_gt, wp_if_le, wp_icmp_le, wp_ifnull, wp_ifnonnull, wp_acmp_eq, wp_acmp_ne, wp_tableswitch, wp_get0, wp_put0, wp_get1, wp_put1, wp_get2, wp_put2, wp_get3, wp_put3, wp_new, wp_newarray, wp_anewarray, wp_alen, wp_iaload, wp_laload, wp_baload, wp_aaload, wp_iastore, wp_lastore, wp_bastore, wp_aastore, wp_return, wp_ireturnI, wp_ireturnZ, wp_lreturn, wp_areturnO, wp_areturnA, wp_max, wp_min, wp_obj, wp_virt, wp_nil, ld_I0, ld_Is, ld_J0, ld_Js, ld_A0, ld_As, ha_0, ha_s, cx_put1, cx_put2, cx_dl, cx_tgt, true_and, and_true, Nat.reduceAdd, Nat.reduceSub, Int.reduceAdd, Int.reduceNeg, Int.reduceToNat, Int.reduceSub, Int.cast_ofNat_Int, List.take_succ_cons, List.take_zero, List.drop_succ_cons, List.drop_zero, List.take_nil, List.drop_nil, Option.toList_some, Option.toList_none, List.cons_append, List.nil_append, wp_spec, ne_eq, Nat.reduceEqDiff, not_false_eq_true, true_or, or_true, wf_X3_mix, wf_X3_key, wf_X3_times, wf_X3_timesModuloQ, wf_X3_power, wf_X3_rest, wf_X3_secretOf, wf_X3_sealSum, wf_X3_sum, wf_X3_letterKey, wf_X3_nextOf, wf_X3_isOpen, wf_X3_veil, wf_X3_sealIsRight, cx_sz, cx_c2, cond_true, cond_false, Nat.reduceLeDiff, sa, sa2]
  obtain ⟨g6, hg6⟩ : ∃ g6, g6 = cq_sA (cq_nw (cq_sJ g5 a 0 v) 181 n) a 13 (some g5.1) := ⟨_, rfl⟩
  rw [← hg6] at G3 ex6 sq fq f13 f3 iI iJ i3 m6 s6
  rw [e6] at G3 f13 s6
  have sa6 : cq_s g6 a = 4 := ex6.s hs (by decide)
  have lo6 : ∀ d, d < a → cq_s g6 d = cq_s h d ∧ cq_I g6 d = cq_I h d ∧ cq_A g6 d = cq_A h d := fun d hd => by
    obtain ⟨l1, l2, l3⟩ := P5.lo d hd
    have n1 := nw_o (h := cq_sJ g5 a 0 v) (s := 181) (z := n) (show d ≠ g5.1 by omega)
    rw [hg6]
    refine ⟨n1.1.trans l1, n1.2.2.1.trans l2, ?_⟩
    funext j
    rw [mm_sA, if_neg (fun z => by omega), n1.2.2.2.2]
    show cq_A g5 d j = cq_A h d j
    rw [l3]
  have goal : ∀ (r : Nat), (r : Int) = n → cw Y mi_X5_init K 62 [some (.inr (.inr (some a))), some (.inr (.inl v)), none, some (.inl n), some (.inl 0)] [] g6 (2 * r) (6 * r) := by
    intro r hr
    refine ex_rows hY (by omega) (m := a + 7) r 0 g6 (by decide) (by omega) G3 sa6 s6 f13 (by rw [m6]; rfl) (fun j w1 w2 => absurd w1 (by omega)) (fun h' H' x' m' R' lo => ?_)
    have sb' : cq_s h' (a + 6) = 181 := x'.s s6 (by decide)
    have sa' : cq_s h' a = 4 := x'.s sa6 (by decide)
    have zb : cq_z h' (a + 6) = n := H'.tz sb'
    have na6 : ¬ a = a + 6 := by omega
    have H2 : CI c n L Z E h0 (a :: X) h' := H'.mk sb' (fun j q => by
      obtain ⟨r1, _⟩ := R' j (by unfold muA at q; omega) (by unfold muA at q; omega)
      rw [r1]; exact Option.some_ne_none _) (fun q => absurd q (by decide))
    have eA := x'.A sa6 rfl na6
    have eI := x'.I sa6 rfl na6
    have eJ := x'.J sa6 (by decide) na6
    have f' : ∀ q, 1 ≤ q → q ≤ 5 → cq_A h' a (pfd q) = some (a + q) := fun q q1 q2 => by rw [eA]; exact fq q q1 q2
    have s' : ∀ q, 1 ≤ q → q ≤ 5 → cq_s h' (a + q) = 175 + q := fun q q1 q2 => x'.s (sq q q1 q2) (by omega)
    have PNh : PN a n v h' := ⟨sa', s' 1 (by decide) (by decide), s' 2 (by decide) (by decide), s' 3 (by decide) (by decide), s' 4 (by decide) (by decide), s' 5 (by decide) (by decide), sb', f' 1 (by decide) (by decide), f' 2 (by decide) (by decide), f' 3 (by decide) (by decide), f' 4 (by decide) (by decide), f' 5 (by decide) (by decide), by rw [eA]; exact f13, by rw [eA]; exact f3, by rw [eI]; exact iI, by rw [eJ, iJ, if_pos rfl], fun j w => by rw [eJ, iJ, if_neg w], by rw [x'.I (sq 3 (by decide) (by decide)) rfl (by omega)]; exact i3, R'⟩
    refine hK h' (H2.mk sa' (fun j q => ?_) (fun q => absurd q (by decide))) (ex6.tn x' (fun b w1 w2 => absurd (H.al b (by rw [w2]; omega)) w1)) PNh m' (fun d hd => by
      obtain ⟨l1, l2, l3⟩ := lo d (by rw [m6]; omega) (by omega)
      obtain ⟨k1, k2, k3⟩ := lo6 d hd
      exact ⟨l1.trans k1, l2.trans k2, l3.trans k3⟩)
    · have : j = 8 ∨ j = 9 ∨ j = 10 ∨ j = 13 ∨ j = 14 ∨ j = 15 := by unfold muA at q; omega
      rcases this with rfl | rfl | rfl | rfl | rfl | rfl
      · rw [PNh.a8]; exact Option.some_ne_none _
      · rw [PNh.a9]; exact Option.some_ne_none _
      · rw [PNh.a10]; exact Option.some_ne_none _
      · rw [PNh.a13]; exact Option.some_ne_none _
      · rw [PNh.a14]; exact Option.some_ne_none _
      · rw [PNh.a15]; exact Option.some_ne_none _
  (repeat' (with_reducible (first | refine And.intro ?_ ?_ | intro _)))
  all_goals (try omega)
  have fin := goal n.toNat (by omega)
  rw [hg6] at fin
  exact cw_room (by omega) (by omega) fin
end
