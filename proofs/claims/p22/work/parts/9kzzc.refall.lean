/-! the reference: each of its calls, by its functions -/
section
variable {x : Nat} {h k g g' : cx_Q} {n u v w l p m : Int}
theorem ov_aReg : aReg (ov x h k) x n u = aReg h x n u := by
  unfold aReg
  simp (disch := decide) only [ov_I]
theorem ov_qReg : qReg (ov x h k) x n u = ov x (qReg h x n u) k := by
  unfold qReg
  simp (disch := decide) only [ov_I, ov_m_register, ov_if]
theorem ov_aRot : aRot (ov x h k) x n u = aRot h x n u := by
  unfold aRot
  simp (disch := decide) only [ov_I]
theorem ov_qRot : qRot (ov x h k) x n u = ov x (qRot h x n u) k := by
  unfold qRot
  simp (disch := decide) only [ov_I, ov_m_lend, ov_if]
theorem ov_aPub : aPub (ov x h k) x n u w = aPub h x n u w := by
  unfold aPub
  simp (disch := decide) only [ov_I, ov_m_onceDir, ov_m_pub]
theorem ov_qPub : qPub (ov x h k) x n u w = ov x (qPub h x n u w) k := by
  unfold qPub
  simp (disch := decide) only [ov_I, ov_m_onceDir, ov_m_pub, ov_if]
theorem ov_aFrg {a : Int64} : aFrg (ov x h k) x n u a = aFrg h x n u a := by
  unfold aFrg
  simp (disch := decide) only [ov_I]
theorem ov_qFrg {a : Int64} : qFrg (ov x h k) x n u a = ov x (qFrg h x n u a) k := by
  unfold qFrg
  simp (disch := decide) only [ov_I, ov_sJ, ov_if]
theorem ov_aBeg : aBeg (ov x h k) x n u v = aBeg h x n u v := by
  unfold aBeg
  rw [ov_m_seal, ov_I (by decide)]
theorem ov_qBeg : qBeg (ov x h k) x n u v = ov x (qBeg h x n u v) k := by
  unfold qBeg
  rw [ov_m_seal, ov_I (by decide), ov_m_begin, ov_m_bn0, ov_if, ov_if, ov_if]
theorem ov_aFor : aFor (ov x h k) x n u v = aFor h x n u v := by
  unfold aFor
  simp (disch := decide) only [ov_I]
theorem ov_qFor : qFor (ov x h k) x n u v = ov x (qFor h x n u v) k := by
  unfold qFor
  simp (disch := decide) only [ov_sI, ov_if]
theorem ov_aEnd : aEnd (ov x h k) x m = aEnd h x m := by
  unfold aEnd
  simp (disch := decide) only [ov_I0]
theorem ov_qEnd : qEnd (ov x h k) x m = ov x (qEnd h x m) k := by
  unfold qEnd
  simp (disch := decide) only [ov_I0, ov_sI0, ov_if]
theorem ov_aFd : aFd (ov x h k) x = aFd h x := by
  unfold aFd
  simp (disch := decide) only [ov_I0]
theorem ov_qFd {a b c d e : Int} : qFd (ov x h k) x a b c d e = ov x (qFd h x a b c d e) k := by
  unfold qFd
  simp (disch := decide) only [ov_I0, ov_m_fd, ov_if]
theorem ov_aSpo : aSpo (ov x h k) x l p m = aSpo h x l p m := by
  unfold aSpo
  simp (disch := decide) only [ov_I0, ov_I]
theorem ov_qSpo : qSpo (ov x h k) x l p m = ov x (qSpo h x l p m) k := by
  unfold qSpo
  simp (disch := decide) only [ov_I0, ov_I, ov_sI, ov_if]
theorem ov_aCop : aCop (ov x h k) x l = aCop h x l := by
  unfold aCop
  simp (disch := decide) only [ov_I0]
theorem ov_qCop : qCop (ov x h k) x l = ov x (qCop h x l) k := by
  unfold qCop
  simp (disch := decide) only [ov_I0, ov_m_copy, ov_if]
theorem ov_aLok : aLok (ov x h k) x n u = aLok h x n u := by
  unfold aLok
  simp (disch := decide) only [ov_I0]
theorem ov_qLok : qLok (ov x h k) x n u = ov x (qLok h x n u) k := by
  unfold qLok
  simp (disch := decide) only [ov_I0, ov_sI0, ov_if]
theorem ov_aWr : aWr (ov x h k) x n u v = aWr h x n u v := by
  unfold aWr
  rw [ov_m_seal, ov_I0, ov_I (o := 11) (by decide), ov_I (o := 30) (by decide)]
theorem ov_id : ov x h h = h := by
  refine qext rfl rfl rfl (fun q r => ?_) (fun q r => ?_) (fun q r => rfl)
  · rw [ov_a]
    split <;> rfl
  · rw [ov_b]
    split <;> rfl
theorem ov_ov : ov x (ov x h k) g = ov x h g := by
  refine qext rfl rfl rfl (fun q r => ?_) (fun q r => ?_) (fun q r => rfl)
  · rw [ov_a, ov_a, ov_a]
    split
    · rfl
    · rfl
  · rw [ov_b, ov_b, ov_b]
    split
    · rfl
    · rfl
theorem eT.o_ (e : eT x h g) : eT x (ov x h k) (ov x g k) := by
  refine ⟨rfl, rfl, rfl, rfl, fun i j q => ⟨?_, ?_⟩⟩
  · rw [ov_a, ov_a]
    split
    · exact (e.2.2.2.2 i j q).1
    · rfl
  · rw [ov_b, ov_b]
    split
    · exact (e.2.2.2.2 i j q).2
    · rfl
theorem WR.o_ {k' : cx_Q} (W : WR x u v g g') : WR x u v (ov x g k) (ov x g' k') := by
  have e1 : wrS x (ov x g k) u v = wrS x g u v := by
    unfold wrS
    simp (disch := decide) only [ov_I]
  have e2 : ∀ s, wrZ x (ov x g k) s = wrZ x g s := fun s => by
    unfold wrZ
    simp (disch := decide) only [ov_I, ov_I0]
  have e3 : ∀ s, wrB x (ov x g k) u v s = wrB x g u v s := fun s => by
    unfold wrB
    simp (disch := decide) only [ov_I, ov_I0, ov_J]
  unfold WR at W ⊢
  rw [e1, e2, e3]
  generalize wrS x g u v = s at W ⊢
  generalize wrZ x g s = z at W ⊢
  generalize wrB x g u v s = b at W ⊢
  refine ⟨fun j a1 a2 a3 a4 a5 a6 => by rw [ov_I0, ov_I0]; exact W.x_ j a1 a2 a3 a4 a5 a6, by rw [ov_I0, ov_I0]; exact W.x72, by rw [ov_I0]; exact W.x68, fun o j a1 a2 a3 a4 a5 a6 => ?_, fun o j a1 a2 a3 a4 => by rw [ov_J a2, ov_J a2]; exact W.J_ o j a1 a2 a3 a4, by rw [ov_I (by decide), ov_I (by decide)]; exact W.i40, by rw [ov_J (by decide), ov_J (by decide)]; exact W.j32, by rw [ov_I (by decide), ov_I0]; exact W.z, fun k k0 k1 => by rw [ov_I (by decide), ov_I0]; exact W.b_ k k0 k1⟩
  rw [ov_I0] at a5 a6
  rw [ov_I a2, ov_I a2]
  exact W.I_ o j a1 a2 a3 a4 a5 a6
theorem rWr.o_ (R : rWr (ov x h k) x n u v g') : rWr h x n u v (ov x g' h) := by
  unfold rWr at R ⊢
  rw [ov_m_seal, ov_I0, ov_I (o := 11) (by decide), ov_I (o := 30) (by decide), ov_m_bn0, ov_m_begin] at R
  refine ⟨fun q => ⟨fun r => ⟨fun s => ?_, fun s => ?_⟩, fun r => ?_⟩, fun q => ?_⟩
  · have e := ((R.1 q).1 r).1 s
    have e2 := e.o_ (k := h)
    rw [ov_ov] at e2
    have e3 : ov x (m_bn0 h x v) h = m_bn0 h x v := by rw [← ov_m_bn0, ov_id]
    rw [e3] at e2
    exact e2
  · obtain ⟨g1, e, W⟩ := ((R.1 q).1 r).2 s
    have e2 := e.o_ (k := h)
    rw [ov_ov] at e2
    have e3 : ov x (m_begin h x u v) h = m_begin h x u v := by rw [← ov_m_begin, ov_id]
    rw [e3] at e2
    exact ⟨_, e2, W.o_⟩
  · have W := ((R.1 q).2 r).o_ (k := h) (k' := h)
    rw [ov_ov, ov_id] at W
    exact W
  · have e2 := (R.2 q).o_ (k := h)
    rw [ov_ov, ov_id] at e2
    exact e2
end
/-- what stands in the reference's rows -/
def fR (x : Nat) (h : cx_Q) : Nat → Int → Int := fun o j => cq_I h (x + o) j
theorem TZ.o {x : Nat} {h : cx_Q} {N O : Int} (a : TZ x h N O) : TI (fR x h) (fun g => exT x h g) x h N (cq_I h x 10) := ⟨a.1, ⟨a.2.1.1, Int.le_refl _⟩, a.2.2.1, a.2.2.2.1, a.2.2.2.2, fun _ _ _ => rfl, exT.refl x h, fun _ _ e q => q.trans e⟩
theorem TZ.lk {x : Nat} {h g : cx_Q} {N O : Int} {M : Int → Prop} (a : TZ x h N O) (e : lkI x h g M) : TZ x g N O := by
  have eo : ∀ (o : Nat) (j : Int), o ≠ 7 → cq_I g (x + o) j = cq_I h (x + o) j := fun o j q => e.2.1 (x + o) j (by omega)
  have ex : ∀ j, cq_I g x j = cq_I h x j := fun j => e.2.1 x j (by omega)
  have nv : ∀ o, o ∈ tV → o ≠ 7 := by decide
  refine ⟨by rw [ex]; exact a.1, by rw [ex]; exact a.2.1, by rw [ex]; exact a.2.2.1, fun o ho j => by rw [eo o j (nv o ho)]; exact a.tv o ho j, ?_, ?_, fun o ho j => by rw [ex, eo o j (nv o ho)]; exact a.tw.2.2.1 o ho j, by rw [ex, ex]; exact a.tw.2.2.2⟩
  · intro t t'
    rw [ex, eo 2 t (by decide), eo 2 t' (by decide), eo 3 t (by decide), eo 3 t' (by decide), eo 4 t (by decide), eo 4 t' (by decide), eo 5 t (by decide), eo 5 t' (by decide), eo 6 t (by decide), eo 6 t' (by decide)]
    exact a.tw.1 t t'
  · intro t
    rw [ex, eo 3 t (by decide), eo 4 t (by decide), eo 5 t (by decide), eo 6 t (by decide)]
    exact a.tw.2.1 t
/-- nothing of terms is other -/
def Rq0 (x : Nat) (h h' : cx_Q) : Prop := exT x h h' ∧ RE x h' (fR x h) ∧ cq_I h' x 10 = cq_I h x 10
theorem Rq0.refl {x : Nat} {h : cx_Q} : Rq0 x h h := ⟨exT.refl x h, fun _ _ _ => rfl, rfl⟩
theorem TI.rq0 {x : Nat} {h h' : cx_Q} {N : Int} (t : TI (fR x h) (fun g => exT x h g) x h' N (cq_I h x 10)) : Rq0 x h h' := ⟨t.g, t.re, by have := t.g.1.2; have := t.2.1.2; omega⟩
def RRg (x : Nat) (n u : Int) (h h' : cx_Q) : Prop := ((0 ≤ u ∧ u < n) ∧ cq_I h (x + 11) u = 0 → exT x h h' ∧ RE x h' (upF (upF (fR x h) 15 u (cq_I h x 2)) 19 (21 * u + 1) (cq_I h x 2 + 1)) ∧ drT x h' (cq_I h x 2) (cq_I h x 10) (cq_J (m_reg1 h x u) x 32) ∧ drT x h' (cq_I h x 2 + 1) (cq_I h x 10 + 1) (cq_J (m_draw (m_reg2 (m_reg1 h x u) x u) x u) x 32) ∧ cq_I h' x 10 = cq_I h x 10 + 2) ∧ (¬ ((0 ≤ u ∧ u < n) ∧ cq_I h (x + 11) u = 0) → Rq0 x h h')
def RRo (x : Nat) (n u : Int) (h h' : cx_Q) : Prop := ((0 ≤ u ∧ u < n) ∧ cq_I h (x + 11) u ≠ 0 ∧ cq_I h (x + 16) u ≠ 20 → exT x h h' ∧ RE x h' (upF (fR x h) 19 (21 * u + (cq_I h (x + 16) u + 1)) (cq_I h x 2)) ∧ drT x h' (cq_I h x 2) (cq_I h x 10) (cq_J (m_draw h x u) x 32) ∧ cq_I h' x 10 = cq_I h x 10 + 1) ∧ (¬ ((0 ≤ u ∧ u < n) ∧ cq_I h (x + 11) u ≠ 0 ∧ cq_I h (x + 16) u ≠ 20) → Rq0 x h h')
def RPu (x : Nat) (n u m : Int) (h h' : cx_Q) : Prop := (((0 ≤ u ∧ u < n) ∧ 1 ≤ m ∧ m ≤ 12) ∧ cq_I h (x + 11) u ≠ 0 ∧ ¬ (12 < m_onceDir h x u + m ∨ 60 < cq_I h (x + 23) u + m) → exT x h h' ∧ RE x h' (fun o j => if o = 26 ∧ 61 * u + cq_I h (x + 23) u < j ∧ j ≤ 61 * u + cq_I h (x + 23) u + m then cq_I h x 2 + (j - (61 * u + cq_I h (x + 23) u)) - 1 else fR x h o j) ∧ (∀ i : Nat, (i : Int) < m → drT x h' (cq_I h x 2 + i) (cq_I h x 10 + i) (cq_J (m_draw (m_pub x u i h) x u) x 32)) ∧ cq_I h' x 10 = cq_I h x 10 + m) ∧ (¬ (((0 ≤ u ∧ u < n) ∧ 1 ≤ m ∧ m ≤ 12) ∧ cq_I h (x + 11) u ≠ 0 ∧ ¬ (12 < m_onceDir h x u + m ∨ 60 < cq_I h (x + 23) u + m)) → Rq0 x h h')
def RBg (x : Nat) (n u v : Int) (h h' : cx_Q) : Prop := (((0 ≤ u ∧ u < n) ∧ (0 ≤ v ∧ v < n) ∧ u ≠ v) ∧ ¬ (cq_I h (x + 11) u = 0 ∨ cq_I h (x + 11) v = 0) ∧ m_seal h x v → ∃ tF T tC tR, RE x h' (bgF (fR x h) (m_slotN (m_bnC h x u v) x (6 * u + v)) tF T tC tR) ∧ bgG x h (fR x h) (fun g => exT x h g) u v tF T tC tR h' ∧ cq_I h x 2 < T ∧ cq_I h' x 10 = cq_I h x 10 + 2) ∧ (¬ (((0 ≤ u ∧ u < n) ∧ (0 ≤ v ∧ v < n) ∧ u ≠ v) ∧ ¬ (cq_I h (x + 11) u = 0 ∨ cq_I h (x + 11) v = 0) ∧ m_seal h x v) → Rq0 x h h')
def RCp (x : Nat) (l : Int) (h h' : cx_Q) : Prop := ((0 ≤ l ∧ l < cq_I h x 72) ∧ cq_I h x 72 ≠ 80 → exT x h h' ∧ RE x h' (upF (fR x h) 64 (cq_I h x 72) (cq_I h (x + 64) l)) ∧ cq_I h' x 10 = cq_I h x 10) ∧ (¬ ((0 ≤ l ∧ l < cq_I h x 72) ∧ cq_I h x 72 ≠ 80) → Rq0 x h h')
def RLk (x : Nat) (n u : Int) (h h' : cx_Q) : Prop := (0 ≤ u ∧ u < n → lkI x (cq_sI h x 86 (cq_I h x 86 + 1)) h' (lkM x h u)) ∧ (¬ (0 ≤ u ∧ u < n) → h' = h)
def RWr (x : Nat) (n u v : Int) (h h' : cx_Q) : Prop := ((((0 ≤ u ∧ u < n) ∧ (0 ≤ v ∧ v < n) ∧ u ≠ v) ∧ cq_I h x 68 ≠ 0 ∧ ¬ (cq_I h (x + 11) u = 0 ∨ cq_I h (x + 11) v = 0) ∧ cq_I h x 72 ≠ 80) → cq_I h (x + 30) (6 * u + v) = 0 → m_seal h x v → ∃ tF T tC tR t t2, RE x h' (wlF (bgF (fR x h) (m_slotN (m_bnC h x u v) x (6 * u + v)) tF T tC tR) (wrS x (m_begin h x u v) u v) (cq_I h x 72) t t2) ∧ wlG x (bgF (fR x h) (m_slotN (m_bnC h x u v) x (6 * u + v)) tF T tC tR) (bgG x h (fR x h) (fun g => exT x h g) u v tF T tC tR) (wrS x (m_begin h x u v) u v) t t2 h' ∧ cq_I h x 2 < T ∧ cq_I h' x 10 ≤ cq_I h x 10 + 2)
  ∧ ((((0 ≤ u ∧ u < n) ∧ (0 ≤ v ∧ v < n) ∧ u ≠ v) ∧ cq_I h x 68 ≠ 0 ∧ ¬ (cq_I h (x + 11) u = 0 ∨ cq_I h (x + 11) v = 0) ∧ cq_I h x 72 ≠ 80) → cq_I h (x + 30) (6 * u + v) ≠ 0 → ∃ t t2, RE x h' (wlF (fR x h) (wrS x h u v) (cq_I h x 72) t t2) ∧ wlG x (fR x h) (fun g => exT x h g) (wrS x h u v) t t2 h' ∧ cq_I h' x 10 ≤ cq_I h x 10)
  ∧ (¬ ((((0 ≤ u ∧ u < n) ∧ (0 ≤ v ∧ v < n) ∧ u ≠ v) ∧ cq_I h x 68 ≠ 0 ∧ ¬ (cq_I h (x + 11) u = 0 ∨ cq_I h (x + 11) v = 0) ∧ cq_I h x 72 ≠ 80) ∧ (cq_I h (x + 30) (6 * u + v) = 0 → m_seal h x v)) → Rq0 x h h')
section
variable {Y : cx_Y} {K : Option cx_V → cx_Q → Prop} {x : Nat} {n L k Q D : Int} {U V : Int → Int} {h0 h : cx_Q}
theorem gV (hV : ∀ u, 0 ≤ V u ∧ V u ≤ 20) {u v : Int} (hv : 0 ≤ v ∧ v ≤ 20) : ∀ j, 0 ≤ fu V u v j ∧ fu V u v j ≤ 20 := fun j => by
  unfold fu
  split
  · exact hv
  · exact hV j
theorem gU (hU : ∀ u, U u = 0 → V u = 0) {u v : Int} : ∀ j, fu U u 1 j = 0 → fu V u v j = 0 := fun j => by
  unfold fu
  split
  · intro q
    exact absurd q (by decide)
  · exact hU j
theorem gW (hU : ∀ u, U u = 0 → V u = 0) {u v : Int} (z : U u ≠ 0) : ∀ j, U j = 0 → fu V u v j = 0 := fun j q => by
  unfold fu
  split
  · rename_i e
    rw [e] at q
    exact absurd q z
  · exact hU j q
/-- the reference's call is done -/
def RK (x : Nat) (n k : Int) (h0 : cx_Q) (K : Option cx_V → cx_Q → Prop) (a : Option cx_V) (gq : cx_Q) (Ψ : cx_Q → Prop) : Prop := ∀ h' L' U' V', RI x n L' U' V' (k + 1) h0 h' → (0 ≤ L' ∧ L' ≤ k + 1) → (∀ u, 0 ≤ V' u ∧ V' u ≤ 20) → (∀ u, U' u = 0 → V' u = 0) → eT x gq h' → Ψ h' → K a h'
theorem ya_register (hY : cY Y) {u : Int} (R : RI x n L U V k h0 h) (hk : 0 ≤ k ∧ k ≤ 63) (hn : 2 ≤ n ∧ n ≤ 6) (hL : 0 ≤ L ∧ L ≤ k) (hV : ∀ u, 0 ≤ V u ∧ V u ≤ 20) (hU : ∀ u, U u = 0 → V u = 0) (hK : RK x n k h0 K (some (.inl (aReg h x n u))) (qReg h x n u) (RRg x n u h)) : cw Y mi_X11_register K 0 [some (.inr (.inr (some x))), some (.inl u)] [] h 0 0 := by
  have e0 := R.n0
  have e11 := R.e11
  have e16 := R.e16
  have iu : m_isUser h x u = (0 ≤ u ∧ u < n) := by unfold m_isUser; rw [e0]
  unfold aReg qReg at hK
  have o12 := R.2.2.1.2
  refine c_X11_register hY R.1.rS R.2.o (by omega) (by omega) (by omega) (by rw [e16]; exact hV) (by rw [e16, e11]; exact hU) R.1.r12 (by omega) ?_ ?_ ?_
  · rw [iu]
    intro q
    rw [if_neg q, if_neg q] at hK
    exact hK h L U V R.up (by omega) hV hU (eT.refl _ _) ⟨fun y => absurd y.1 q, fun _ => Rq0.refl⟩
  · rw [iu]
    intro q w
    rw [if_pos q, if_pos q, if_neg w, if_neg w] at hK
    exact hK h L U V R.up (by omega) hV hU (eT.refl _ _) ⟨fun y => absurd y.2 w, fun _ => Rq0.refl⟩
  · rw [iu]
    intro q w g e t t2 t10
    have w0 := w
    rw [if_pos q, if_pos q, if_pos w, if_pos w] at hK
    have M := (R.1.reg (u := u)).eT e
    rw [e11] at w
    rw [hU u w] at M
    exact hK g L _ _ (RI.mk M t.z (by omega) (by omega) (by omega) (by omega)) (by omega) (gV hV (by decide)) (gU hU) e ⟨fun _ => ⟨t.g.1.1, t.re, t.g.1.2, t.g.2, t10⟩, fun y => absurd ⟨q, w0⟩ y⟩
theorem ya_rotate (hY : cY Y) {u : Int} (R : RI x n L U V k h0 h) (hk : 0 ≤ k ∧ k ≤ 63) (hn : 2 ≤ n ∧ n ≤ 6) (hL : 0 ≤ L ∧ L ≤ k) (hV : ∀ u, 0 ≤ V u ∧ V u ≤ 20) (hU : ∀ u, U u = 0 → V u = 0) (hK : RK x n k h0 K (some (.inl (aRot h x n u))) (qRot h x n u) (RRo x n u h)) : cw Y mi_X11_rotate K 0 [some (.inr (.inr (some x))), some (.inl u)] [] h 0 0 := by
  have e0 := R.n0
  have e11 := R.e11
  have e16 := R.e16
  have iu : m_isUser h x u = (0 ≤ u ∧ u < n) := by unfold m_isUser; rw [e0]
  unfold aRot qRot at hK
  have o12 := R.2.2.1.2
  refine c_X11_rotate hY R.1.rS R.2.o (by omega) (by omega) (by omega) (by rw [e16]; exact hV) R.1.r12 (by omega) ?_ ?_ ?_ ?_
  · rw [iu]
    intro q
    rw [if_neg q, if_neg q] at hK
    exact hK h L U V R.up (by omega) hV hU (eT.refl _ _) ⟨fun y => absurd y.1 q, fun _ => Rq0.refl⟩
  · rw [iu]
    intro q w
    rw [if_pos q, if_pos q, if_pos w, if_pos w] at hK
    exact hK h L U V R.up (by omega) hV hU (eT.refl _ _) ⟨fun y => absurd w y.2.1, fun _ => Rq0.refl⟩
  · rw [iu]
    intro q w z
    rw [if_pos q, if_pos q, if_neg w, if_neg w, if_pos z, if_pos z] at hK
    exact hK h L U V R.up (by omega) hV hU (eT.refl _ _) ⟨fun y => absurd z y.2.2, fun _ => Rq0.refl⟩
  · rw [iu]
    intro q w z g e t t2 t10
    have w0 := w
    have z0 := z
    rw [if_pos q, if_pos q, if_neg w, if_neg w, if_neg z, if_neg z] at hK
    have M0 := R.1.lend (u := u)
    have e' : cq_I (m_lend h x u) (x + 16) u = cq_I h (x + 16) u + 1 := by
      rw [M0.2.2.2.2.2.1, e16]
      unfold fu
      rw [if_pos rfl]
    rw [e']
    rw [e11] at w
    rw [e16] at z
    have v20 := hV u
    exact hK g L _ _ (RI.mk (M0.eT e) t.z (by omega) (by omega) (by omega) (by omega)) (by omega) (gV hV (by omega)) (gW hU w) e ⟨fun _ => ⟨t.g.1, t.re, t.g.2, t10⟩, fun y => absurd ⟨q, w0, z0⟩ y⟩
theorem ya_publish (hY : cY Y) {u m : Int} (R : RI x n L U V k h0 h) (hk : 0 ≤ k ∧ k ≤ 63) (hn : 2 ≤ n ∧ n ≤ 6) (hL : 0 ≤ L ∧ L ≤ k) (hV : ∀ u, 0 ≤ V u ∧ V u ≤ 20) (hU : ∀ u, U u = 0 → V u = 0) (hK : RK x n k h0 K (some (.inl (aPub h x n u m))) (qPub h x n u m) (RPu x n u m h)) : cw Y mi_X11_publish K 0 [some (.inr (.inr (some x))), some (.inl u), some (.inl m), none, none] [] h 0 0 := by
  have e0 := R.n0
  have a23 := R.1.r23 u
  have iu : m_isUser h x u = (0 ≤ u ∧ u < n) := by unfold m_isUser; rw [e0]
  unfold aPub qPub at hK
  have o12 := R.2.2.1.2
  refine c_X11_publish hY R.1.rS R.2.o (by omega) (by omega) (by omega) R.1.r23 ?_ R.1.r12 (by omega) ?_ ?_ ?_ ?_
  · intro _
    have := m_oc_rg (f := cq_I h (x + 27)) (b := 61 * u) (r := (cq_I h (x + 23) u).toNat) (i := 1) (a := 0)
    unfold m_onceDir
    omega
  · rw [iu]
    intro q
    rw [if_neg q, if_neg q] at hK
    exact hK h L U V R.up (by omega) hV hU (eT.refl _ _) ⟨fun y => absurd y.1 q, fun _ => Rq0.refl⟩
  · rw [iu]
    intro q w
    rw [if_pos q, if_pos q, if_pos w, if_pos w] at hK
    exact hK h L U V R.up (by omega) hV hU (eT.refl _ _) ⟨fun y => absurd w y.2.1, fun _ => Rq0.refl⟩
  · rw [iu]
    intro q w z
    rw [if_pos q, if_pos q, if_neg w, if_neg w, if_pos z, if_pos z] at hK
    exact hK h L U V R.up (by omega) hV hU (eT.refl _ _) ⟨fun y => absurd z y.2.2, fun _ => Rq0.refl⟩
  · rw [iu]
    intro q w z g e t t2 t10
    rw [if_pos q, if_pos q, if_neg w, if_neg w, if_neg z, if_neg z] at hK
    exact hK g L U V (RI.mk ((MI.pub m.toNat R.1 (by omega)).eT e) t.z (by omega) (by omega) (by omega) (by omega)) (by omega) hV hU e ⟨fun _ => ⟨t.g.1, t.re, t.g.2, t10⟩, fun y => absurd ⟨q, w, z⟩ y⟩
theorem ya_forge (hY : cY Y) {u : Int} {a : Int64} (R : RI x n L U V k h0 h) (hn : 2 ≤ n ∧ n ≤ 6) (hL : 0 ≤ L ∧ L ≤ k) (hV : ∀ u, 0 ≤ V u ∧ V u ≤ 20) (hU : ∀ u, U u = 0 → V u = 0) (hK : RK x n k h0 K (some (.inl (aFrg h x n u a))) (qFrg h x n u a) (Rq0 x h)) : cw Y mi_X11_forge K 0 [some (.inr (.inr (some x))), some (.inl u), some (.inr (.inl a)), none] [] h 0 0 := by
  have e0 := R.n0
  have iu : m_isUser h x u = (0 ≤ u ∧ u < n) := by unfold m_isUser; rw [e0]
  unfold aFrg qFrg at hK
  refine c_X11_forge hY R.1.rS (by omega) ?_ ?_
  · rw [iu]
    intro q
    rw [if_neg q, if_neg q] at hK
    exact hK h L U V R.up (by omega) hV hU (eT.refl _ _) Rq0.refl
  · rw [iu]
    intro q
    rw [if_pos q, if_pos q] at hK
    exact hK _ L U V (RI.up ⟨R.1.sJ (by decide), TZ.sJ R.2⟩) (by omega) hV hU (eT.refl _ _) (TI.sJ R.2.o).rq0
theorem ya_begin (hY : cY Y) {u v : Int} (R : RI x n L U V k h0 h) (hk : 0 ≤ k ∧ k ≤ 63) (hn : 2 ≤ n ∧ n ≤ 6) (hL : 0 ≤ L ∧ L ≤ k) (hV : ∀ u, 0 ≤ V u ∧ V u ≤ 20) (hU : ∀ u, U u = 0 → V u = 0) (h63 : cq_I h x 63 < 100) (hK : RK x n k h0 K (some (.inl (aBeg h x n u v))) (qBeg h x n u v) (RBg x n u v h)) : cw Y mi_X11_begin K 0 [some (.inr (.inr (some x))), some (.inl u), some (.inl v)] [] h 0 0 := by
  have e0 := R.n0
  have ip : m_isPair h x u v = ((0 ≤ u ∧ u < n) ∧ (0 ≤ v ∧ v < n) ∧ u ≠ v) := by unfold m_isPair m_isUser; rw [e0]
  unfold aBeg qBeg at hK
  have o12 := R.2.2.1.2
  refine c_X11_begin hY R.1.rS R.2.o (by omega) (by omega) (by omega) R.1.r23 R.1.r30 R.1.r29 R.1.x63 R.1.r12 (by omega) ?_ ?_ (fun _ _ z => absurd z (by omega)) ?_ ?_
  · rw [ip]
    intro q
    rw [if_neg q, if_neg q] at hK
    exact hK h L U V R.up (by omega) hV hU (eT.refl _ _) ⟨fun y => absurd y.1 q, fun _ => Rq0.refl⟩
  · rw [ip]
    intro q w
    rw [if_pos q, if_pos q, if_pos w, if_pos w] at hK
    exact hK h L U V R.up (by omega) hV hU (eT.refl _ _) ⟨fun y => absurd w y.2.1, fun _ => Rq0.refl⟩
  · rw [ip]
    intro q w _ z
    rw [if_pos q, if_pos q, if_neg w, if_neg w, if_neg z, if_neg z] at hK
    have t0 : TI (fR x h) (fun g => exT x h g) x (m_bn0 h x v) (1 + 100 * k) (cq_I h x 10) := by
      unfold m_bn0
      split
      · exact R.2.o
      · exact TI.sT R.2.o (by decide) (fun q => absurd q (by decide))
    refine hK _ L U V (RI.up ⟨R.1.bn0, t0.z.le (by omega) (by omega)⟩) (by omega) hV hU (eT.refl _ _) ⟨fun y => absurd y.2.2 z, fun _ => t0.rq0⟩
  · rw [ip]
    intro q w y z g tF T tC tR e t lT t10
    rw [if_pos q, if_pos q, if_neg w, if_neg w, if_pos z, if_pos z] at hK
    exact hK g L U V (RI.mk ((R.1.begin hk.1 (by omega) (by omega) y).eT e) t.z (by omega) (by omega) (by omega) (by omega)) (by omega) hV hU e ⟨fun _ => ⟨tF, T, tC, tR, t.re, t.g, lT, t10⟩, fun y => absurd ⟨q, w, z⟩ y⟩
theorem ya_forget (hY : cY Y) {u v : Int} (R : RI x n L U V k h0 h) (hn : 2 ≤ n ∧ n ≤ 6) (hL : 0 ≤ L ∧ L ≤ k) (hV : ∀ u, 0 ≤ V u ∧ V u ≤ 20) (hU : ∀ u, U u = 0 → V u = 0) (hK : RK x n k h0 K (some (.inl (aFor h x n u v))) (qFor h x n u v) (Rq0 x h)) : cw Y mi_X11_forget K 0 [some (.inr (.inr (some x))), some (.inl u), some (.inl v), none] [] h 0 0 := by
  have e0 := R.n0
  have ip : m_isPair h x u v = ((0 ≤ u ∧ u < n) ∧ (0 ≤ v ∧ v < n) ∧ u ≠ v) := by unfold m_isPair m_isUser; rw [e0]
  unfold aFor qFor at hK
  refine c_X11_forget hY R.1.rS (by omega) ?_ ?_
  · rw [ip]
    intro q
    rw [if_neg q, if_neg q] at hK
    exact hK h L U V R.up (by omega) hV hU (eT.refl _ _) Rq0.refl
  · rw [ip]
    intro q
    rw [if_pos q, if_pos q] at hK
    exact hK _ L U V (RI.up ⟨MI.sI R.1 (o := 30) ⟨by decide, by decide⟩ (by decide) (by decide), TZ.sT R.2 (by decide) (fun q => absurd q (by decide))⟩) (by omega) hV hU (eT.refl _ _) (TI.sT R.2.o (by decide) (fun q => absurd q (by decide))).rq0
theorem ya_end (hY : cY Y) {m : Int} (R : RI x n L U V k h0 h) (hL : 0 ≤ L ∧ L ≤ k) (hV : ∀ u, 0 ≤ V u ∧ V u ≤ 20) (hU : ∀ u, U u = 0 → V u = 0) (hK : RK x n k h0 K (some (.inl (aEnd h x m))) (qEnd h x m) (Rq0 x h)) : cw Y mi_X11_end K 0 [some (.inr (.inr (some x))), some (.inl m)] [] h 0 0 := by
  have a68 := R.1.x68
  unfold aEnd qEnd at hK
  refine c_X11_end hY R.1.rS a68 (fun q => ?_) (fun q => ?_)
  · rw [if_neg (by omega), if_neg (by omega)] at hK
    exact hK h L U V R.up (by omega) hV hU (eT.refl _ _) Rq0.refl
  · have q' : 0 ≤ m ∧ m ≤ 20 ∧ 20 ≤ cq_I h x 68 := by omega
    rw [if_pos q', if_pos q'] at hK
    refine hK _ L U V (RI.up ⟨?_, TZ.sF R.2 (by decide) (by decide) (by decide)⟩) (by omega) hV hU (eT.refl _ _) (TI.sF R.2.o (by decide) (by decide) (by decide)).rq0
    refine MI.sx R.1 (j := 68) ?_ (by decide)
    exact ⟨by omega, by omega⟩
theorem ya_feed (hY : cY Y) {a b c d e : Int} (R : RI x n L U V k h0 h) (hL : 0 ≤ L ∧ L ≤ k) (hV : ∀ u, 0 ≤ V u ∧ V u ≤ 20) (hU : ∀ u, U u = 0 → V u = 0) (hK : RK x n k h0 K (some (.inl (aFd h x))) (qFd h x a b c d e) (Rq0 x h)) : cw Y mi_X11_feed K 0 [some (.inr (.inr (some x))), some (.inl a), some (.inl b), some (.inl c), some (.inl d), some (.inl e), none, none] [] h 0 0 := by
  have a68 := R.1.x68
  unfold aFd qFd at hK
  refine c_X11_feed hY R.1.rS a68 (fun q => ?_) (fun q => ?_)
  · rw [if_pos q, if_pos q] at hK
    exact hK h L U V R.up (by omega) hV hU (eT.refl _ _) Rq0.refl
  · rw [if_neg (by omega), if_neg (by omega)] at hK
    rw [(m_fd_q (x := x) (a := a) (b := b) (c := c) (d := d) (e := e) 20 (k := 0) (g := h)).1]
    exact hK _ L U V (RI.up ⟨MI.fd 20 R.1 (by omega), (TI_fd 20 R.2.i).z⟩) (by omega) hV hU (eT.refl _ _) (TI_fd 20 R.2.o).rq0
theorem ya_spoil (hY : cY Y) {l p m : Int} (R : RI x n L U V k h0 h) (hL : 0 ≤ L ∧ L ≤ k) (hV : ∀ u, 0 ≤ V u ∧ V u ≤ 20) (hU : ∀ u, U u = 0 → V u = 0) (hK : RK x n k h0 K (some (.inl (aSpo h x l p m))) (qSpo h x l p m) (Rq0 x h)) : cw Y mi_X11_spoil K 0 [some (.inr (.inr (some x))), some (.inl l), some (.inl p), some (.inl m)] [] h 0 0 := by
  unfold aSpo qSpo at hK
  refine c_X11_spoil hY R.1.rS R.1.x72.2 (fun l => (R.1.r63 l).2) (fun q => ?_) (fun q => ?_)
  · unfold m_isLetter at q
    rw [if_neg q, if_neg q] at hK
    exact hK h L U V R.up (by omega) hV hU (eT.refl _ _) Rq0.refl
  · unfold m_isLetter at q
    rw [if_pos q, if_pos q] at hK
    exact hK _ L U V (RI.up ⟨MI.sI R.1 (o := 62) (xor8 (R.1.r62 _) ⟨by omega, by omega⟩) (by decide) (by decide), TZ.sT R.2 (by decide) (fun q => absurd q (by decide))⟩) (by omega) hV hU (eT.refl _ _) (TI.sT R.2.o (by decide) (fun q => absurd q (by decide))).rq0
theorem ya_copy (hY : cY Y) {l : Int} (R : RI x n L U V k h0 h) (hk : 0 ≤ k ∧ k ≤ 63) (hL : 0 ≤ L ∧ L ≤ k) (hV : ∀ u, 0 ≤ V u ∧ V u ≤ 20) (hU : ∀ u, U u = 0 → V u = 0) (hK : RK x n k h0 K (some (.inl (aCop h x l))) (qCop h x l) (RCp x l h)) : cw Y mi_X11_copy K 0 [some (.inr (.inr (some x))), some (.inl l), none] [] h 0 0 := by
  have a73 := R.1.x73
  unfold aCop qCop at hK
  have o12 := R.2.2.1.2
  refine c_X11_copy hY R.1.rS R.2.o R.1.x72 (by omega) R.1.r63 (fun q => ?_) (fun q w => ?_) (fun q w g e t => ?_)
  · unfold m_isLetter at q
    rw [if_neg q, if_neg q] at hK
    exact hK h L U V R.up (by omega) hV hU (eT.refl _ _) ⟨fun y => absurd y.1 q, fun _ => Rq0.refl⟩
  · unfold m_isLetter at q
    rw [if_pos q, if_pos q, if_pos w, if_pos w] at hK
    exact hK h L U V R.up (by omega) hV hU (eT.refl _ _) ⟨fun y => absurd w y.2, fun _ => Rq0.refl⟩
  · unfold m_isLetter at q
    rw [if_pos q, if_pos q, if_neg w, if_neg w] at hK
    exact hK g L U V (RI.mk ((R.1.copy w).eT e) t.z (by omega) (by omega) (by omega) (by omega)) (by omega) hV hU e ⟨fun _ => ⟨t.g, t.re, by have := t.g.1.2; have := t.2.1.2; omega⟩, fun y => absurd ⟨q, w⟩ y⟩
theorem ya_look (hY : cY Y) {u : Int} (R : RI x n L U V k h0 h) (hn : 2 ≤ n ∧ n ≤ 6) (hk : 0 ≤ k ∧ k ≤ 63) (hL : 0 ≤ L ∧ L ≤ k) (hV : ∀ u, 0 ≤ V u ∧ V u ≤ 20) (hU : ∀ u, U u = 0 → V u = 0) (hK : RK x n k h0 K (some (.inl (aLok h x n u))) (qLok h x n u) (RLk x n u h)) : cw Y mi_X11_look K 0 [some (.inr (.inr (some x))), some (.inl u), none, none, none] [] h 0 0 := by
  have e0 := R.n0
  have e16 := R.e16
  have e86 := R.e86
  have iu : m_isUser h x u = (0 ≤ u ∧ u < n) := by unfold m_isUser; rw [e0]
  unfold aLok qLok at hK
  refine c_X11_look hY R.1.rS R.2 (by omega) (by omega) (by rw [e16]; exact hV) R.1.r23 R.1.r30 R.1.r29 R.1.r53 ?_ ?_
  · rw [iu]
    intro q
    rw [if_neg q, if_neg q] at hK
    exact hK h L U V R.up (by omega) hV hU (eT.refl _ _) ⟨fun y => absurd y q, fun _ => rfl⟩
  · rw [iu]
    intro q g lk
    rw [if_pos q, if_pos q] at hK
    have e := lk.1
    have t : TZ x g (1 + 100 * k) (12 * k) := TZ.lk (TZ.sF R.2 (by decide) (by decide) (by decide)) lk
    exact hK g (cq_I h x 86 + 1) U V (RI.up ⟨R.1.s86.eT e, t⟩) (by omega) hV hU e ⟨fun _ => lk, fun y => absurd q y⟩
theorem ya_write (hY : cY Y) {u v : Int} (R : RI x n L U V k h0 h) (hk : 0 ≤ k ∧ k ≤ 63) (hn : 2 ≤ n ∧ n ≤ 6) (hL : 0 ≤ L ∧ L ≤ k) (hV : ∀ u, 0 ≤ V u ∧ V u ≤ 20) (hU : ∀ u, U u = 0 → V u = 0) (h63 : cq_I h x 63 < 100) (tb : ∀ i, 0 ≤ i → i < cq_I h x 68 → 0 ≤ cq_I h (x + 61) i ∧ cq_I h (x + 61) i ≤ 255) (hK : ∀ h', RI x n L U V (k + 1) h0 h' → rWr h x n u v h' → RWr x n u v h h' → K (some (.inl (aWr h x n u v))) h') : cw Y mi_X11_write K 0 [some (.inr (.inr (some x))), some (.inl u), some (.inl v), none, none, none, none, none, none, none] [] h 0 0 := by
  unfold aWr at hK
  have o12 := R.2.2.1.2
  refine v_X11_write hY R.1 R.2.o (by omega) (by omega) (by omega) (by omega) hn h63 tb (fun q => ?_) (fun q w => ?_) (fun q w z => ?_) (fun q w z r s M t => ?_) (fun q w z r s g h' tF T tC tR t_ t2 e M t lT W => ?_) (fun q w z r h' t_ t2 M t W => ?_)
  · rw [if_neg q] at hK
    exact hK h R.up ⟨fun y => absurd ⟨y.1, y.2.1⟩ q, fun _ => eT.refl _ _⟩ ⟨fun y => absurd ⟨y.1, y.2.1⟩ q, fun y => absurd ⟨y.1, y.2.1⟩ q, fun _ => Rq0.refl⟩
  · rw [if_pos q, if_pos w] at hK
    exact hK h R.up ⟨fun y => absurd w y.2.2.1, fun _ => eT.refl _ _⟩ ⟨fun y => absurd w y.2.2.1, fun y => absurd w y.2.2.1, fun _ => Rq0.refl⟩
  · rw [if_pos q, if_neg w, if_pos z] at hK
    exact hK h R.up ⟨fun y => absurd z y.2.2.2, fun _ => eT.refl _ _⟩ ⟨fun y => absurd z y.2.2.2, fun y => absurd z y.2.2.2, fun _ => Rq0.refl⟩
  · have r' : cq_I h (x + 30) (6 * u + v) = 0 ∧ ¬ m_seal h x v := ⟨r, s⟩
    rw [if_pos q, if_neg w, if_neg z, if_pos r'] at hK
    exact hK _ (RI.mk M t.z (by omega) (by omega) (by omega) (by omega)) ⟨fun _ => ⟨fun _ => ⟨fun _ => eT.refl _ _, fun y => absurd y s⟩, fun y => absurd r y⟩, fun y => absurd ⟨q.1, q.2, w, z⟩ y⟩ ⟨fun _ _ y => absurd y s, fun _ y => absurd r y, fun _ => t.rq0⟩
  · have r' : ¬ (cq_I h (x + 30) (6 * u + v) = 0 ∧ ¬ m_seal h x v) := fun y => y.2 s
    rw [if_pos q, if_neg w, if_neg z, if_neg r'] at hK
    exact hK _ (RI.mk M t.z (by omega) (by omega) (by omega) (by omega)) ⟨fun _ => ⟨fun _ => ⟨fun y => absurd s y, fun _ => ⟨g, e, W⟩⟩, fun y => absurd r y⟩, fun y => absurd ⟨q.1, q.2, w, z⟩ y⟩ ⟨fun _ _ _ => ⟨tF, T, tC, tR, t_, t2, t.re, t.g, lT, t.2.1.2⟩, fun _ y => absurd r y, fun y => absurd ⟨⟨q.1, q.2, w, z⟩, fun _ => s⟩ y⟩
  · have r' : ¬ (cq_I h (x + 30) (6 * u + v) = 0 ∧ ¬ m_seal h x v) := fun y => r y.1
    rw [if_pos q, if_neg w, if_neg z, if_neg r'] at hK
    exact hK _ (RI.mk M t.z (by omega) (by omega) (by omega) (by omega)) ⟨fun _ => ⟨fun y => absurd y r, fun _ => W⟩, fun y => absurd ⟨q.1, q.2, w, z⟩ y⟩ ⟨fun _ y => absurd y r, fun _ _ => ⟨t_, t2, t.re, t.g, t.2.1.2⟩, fun y => absurd ⟨⟨q.1, q.2, w, z⟩, fun y => absurd y r⟩ y⟩
end
