/-! class and reference side by side behind k calls, with turns and terms -/
section
variable {c x p nt : Nat} {n N L L1 Z k : Int} {U V : Int → Int} {E E1 E2 : Nat → Option Int} {h g h1 h2 gq k1 : cx_Q} {pe : Int → Nat} {ro : Int → Int → Nat} {pa lb tp rd en op ob : Nat} {T Lf T1 Lf1 : Int → Nat} {dom sd : Nat → Prop} {rt ct : Nat → Int} {dp : Nat → Nat} {kd : Int → Nat}
/-- at a call's start: of which cells nothing is asked -/
theorem CI.aE (H : CI c n L1 Z E h [] h) (e : ∀ d, cq_s h d = 4 → E2 d = E d) : CI c n L1 Z E2 h [] h := by
  obtain ⟨⟨b1, b2, b3, b4, b5, b6, b7, b8, b9, b10, b11⟩, C⟩ := H
  exact ⟨⟨b1, b2, b3, b4, b5, b6, b7, b8, b9, fun a s => by rw [e a s]; exact b10 a s, b11⟩, C.an⟩
/-- nothing is given away, no letter opened -/
def EN (h : cx_Q) (E : Nat → Option Int) (d : Nat) : Option Int := if cq_s h d = 4 then E d else none
/-- LOOK -/
def EL (h : cx_Q) (E : Nat → Option Int) (d : Nat) : Option Int := if cq_s h d = 4 then E d else some 0
/-- a letter comes -/
def EC (c : Nat) (h : cx_Q) (E : Nat → Option Int) (d : Nat) : Option Int := if cq_s h d = 4 then E d else if d = c ∨ cq_s h d = 1 then none else some 0
theorem EN_n {d : Nat} (w : cq_s h d ≠ 4) : EN h E d = none := if_neg w
theorem EL_n {d : Nat} (w : cq_s h d ≠ 4) : EL h E d ≠ none := by
  unfold EL
  rw [if_neg w]
  exact Option.some_ne_none _
theorem EC_n {d : Nat} (w : cq_s h d ≠ 4) (w2 : d = c ∨ cq_s h d = 1) : EC c h E d = none := by
  unfold EC
  rw [if_neg w, if_pos w2]
theorem EC_s {d : Nat} (w0 : d ≠ c) (w : cq_s h d ≠ 4) (w2 : cq_s h d ≠ 1) : EC c h E d ≠ none := by
  unfold EC
  rw [if_neg w, if_neg (fun z => z.elim w0 w2)]
  exact Option.some_ne_none _
/-- behind k calls -/
def LG (p c x : Nat) (n N : Int) (pe : Int → Nat) (ro : Int → Int → Nat) (pa lb tp rd en op ob : Nat) (k : Int) (h : cx_Q) : Prop := ∃ (Z : Int) (E : Nat → Option Int) (L1 : Int) (T Lf : Int → Nat) (L : Int) (U V : Int → Int), CI c n L1 Z E h [] h ∧ Z ≤ 100 * k ∧ RI x n L U V k h h ∧ (2 ≤ n ∧ n ≤ 6) ∧ (0 ≤ L ∧ L ≤ k) ∧ (∀ u, 0 ≤ V u ∧ V u ≤ 20) ∧ (∀ u, U u = 0 → V u = 0) ∧ (cq_s h p = 98 ∧ cq_z h p = N) ∧ FX c x n pe ro pa lb tp rd en op ob T Lf h h ∧ cq_I h x 63 ≤ k ∧ TS c x n pe T Lf k h
theorem LG.mk (Q : AH c x nt n k pe ro pa lb tp rd en op ob T Lf dom sd rt ct dp kd h h1) (P : uE pe n h1) (te : TE c x nt n k T1 Lf1 h1 h2) (G : CI c n L1 Z E1 h [] h1) (hZ : Z ≤ 100 * (k + 1)) (R : RI x n L U V (k + 1) h1 h2) (hn : 2 ≤ n ∧ n ≤ 6) (hL : 0 ≤ L ∧ L ≤ k + 1) (hV : ∀ u, 0 ≤ V u ∧ V u ≤ 20) (hU : ∀ u, U u = 0 → V u = 0) (S : rS h1 x) (hp : cq_s h1 p = 98 ∧ cq_z h1 p = N) (F : FX c x n pe ro pa lb tp rd en op ob T1 Lf1 h1 h2) (b63 : cq_I h2 x 63 ≤ k + 1) : LG p c x n N pe ro pa lb tp rd en op ob (k + 1) h2 := by
  have W := R.1.1
  have H2 := G.wz W S
  refine ⟨Z, E1, L1, T1, Lf1, L, U, V, H2, hZ, R.fr ⟨Nat.le_refl _, fun a q => ⟨?_, rfl, rfl, rfl, rfl, rfl⟩⟩, hn, hL, hV, hU, ?_, F.wz W S, b63, TS.mk Q G.ct G.cs P F W S R.2.tw te.1 te.2⟩
  · by_cases z : h2.1 ≤ a
    · exact absurd (H2.al a z) (isR_own q).2
    · omega
  · rw [W.2.1, W.2.2.1]; exact hp
theorem LG.st {q : cx_Q} (Q : AH c x nt n k pe ro pa lb tp rd en op ob T Lf dom sd rt ct dp kd h h1) (P : uE pe n h1) (te : TE c x nt n k T1 Lf1 h1 h2) (b63 : cq_I h x 63 ≤ k) (G : CI c n L1 Z E1 h [] h1) (hZ : Z ≤ 100 * (k + 1)) (R : RI x n L U V (k + 1) h1 h2) (hn : 2 ≤ n ∧ n ≤ 6) (hL : 0 ≤ L ∧ L ≤ k + 1) (hV : ∀ u, 0 ≤ V u ∧ V u ≤ 20) (hU : ∀ u, U u = 0 → V u = 0) (S : rS h1 x) (hp : cq_s h1 p = 98 ∧ cq_z h1 p = N) (F : FX c x n pe ro pa lb tp rd en op ob T1 Lf1 h1 q) (e : eT x q h2) (q63 : cq_I q x 63 ≤ cq_I h x 63 + 1) : LG p c x n N pe ro pa lb tp rd en op ob (k + 1) h2 := by
  refine LG.mk Q P te G hZ R hn hL hV hU S hp (F.eT e) ?_
  rw [e.xI (by decide) (by decide) (by decide)]
  omega
theorem TS.up (S : TS c x n pe T Lf k h) (hk : 0 ≤ k) : TS c x n pe T Lf (k + 1) h := by
  obtain ⟨⟨nt, dom, sd, rt, ct, dp, kd, X⟩, A, D, P⟩ := S
  exact ⟨⟨nt, dom, sd, rt, ct, dp, kd, X.up (by omega)⟩, A, D.st hk RS.refl, P⟩
theorem LG.up (X : LG p c x n N pe ro pa lb tp rd en op ob k h) (hk : 0 ≤ k) : LG p c x n N pe ro pa lb tp rd en op ob (k + 1) h := by
  obtain ⟨Z, E, L1, T, Lf, L, U, V, H, hZ, R, hn, hL, hV, hU, hp, F, b, S⟩ := X
  exact ⟨Z, E, L1, T, Lf, L, U, V, H, by omega, R.up, hn, by omega, hV, hU, hp, F, by omega, S.up hk⟩
theorem AC.mk1 (G : CI c n L1 Z E1 h [] h1) (eE : ∀ d, cq_s h d ≠ 4 → E1 d = EN h E d) (hc : cq_s h c = 9) (P : uE pe n h) (W : TW x h2) : AC c x n pe E1 h h1 h2 ∧ ∀ d, cq_s h d = 7 ∨ cq_s h d = 174 ∨ cq_s h d = 1 → E1 d = none := by
  have eN : ∀ d, cq_s h d ≠ 4 → E1 d = none := fun d w => (eE d w).trans (EN_n w)
  have hC : E1 c = none := eN c (by rw [hc]; decide)
  exact ⟨⟨G.ct, hC, fun d s => eN d (by rw [s]; decide), uE.st G.ct hC P, fun a b s e => G.ta s (own_9 (by decide)) e, W⟩, fun d s => eN d (by omega)⟩
theorem AC.mk2 (G : CI c n L1 Z E1 h [] h1) (eE : ∀ d, cq_s h d ≠ 4 → E1 d = EC c h E d) (hc : cq_s h c = 9) (P : uE pe n h) (W : TW x h2) : AC c x n pe E1 h h1 h2 := by
  have hC : E1 c = none := (eE c (by rw [hc]; decide)).trans (EC_n (by rw [hc]; decide) (Or.inl rfl))
  exact ⟨G.ct, hC, fun d s => (eE d (by rw [s]; decide)).trans (EC_n (by rw [s]; decide) (Or.inr s)), uE.st G.ct hC P, fun a b s e => G.ta s (own_9 (by decide)) e, W⟩
theorem uE.lk {L' u : Int} (P : uE pe n h) (f : FLk c n L' pe T Lf u h T1 Lf1 h1) : uE pe n h1 := fun q sq => by
  obtain ⟨_, f3, f4⟩ := f
  by_cases z : 0 ≤ u ∧ u < n
  · obtain ⟨m, lm, eh⟩ := f3 z
    have es : cq_s h1 = cq_s h := by rw [eh]; exact lm.s
    rw [es] at sq
    exact P q sq
  · rw [f4 z] at sq
    exact P q sq
theorem kwI.r0 (e : kwI x h g) : Rq0 x h g := by
  have ex : ∀ j, cq_I g x j = cq_I h x j := fun j => e.2.1 x j (by omega)
  have eo : ∀ o j, o ≠ 8 → cq_I g (x + o) j = cq_I h (x + o) j := fun o j w => e.2.1 (x + o) j (by omega)
  have eR : ∀ o, o ∈ tR → o ≠ 8 := by decide
  refine ⟨⟨⟨by rw [ex]; exact Int.le_refl _, by rw [ex]; exact Int.le_refl _⟩, fun k' o _ w1 w2 => eo o k' (by omega), fun k' k0 k1 => ?_, fun k' _ => ⟨eo 10 k' (by decide), by rw [e.2.2]⟩⟩, fun o ho j => eo o j (eR o ho), ex 10⟩
  rw [ex] at k1
  omega
end
