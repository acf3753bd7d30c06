/-! class and reference side by side: a SESSION in no row; it goes into its row -/
section
variable {c x : Nat} {n : Int} {pe : Int → Nat} {ro : Int → Int → Nat} {pa lb tp rd en op ob : Nat} {T Lf : Int → Nat} {h g h' g' m : cx_Q} {P : Nat → Prop}
/-- the cells of a SESSION, by their sorts -/
def sc5 (h : cx_Q) (a : Nat) : Prop := cq_s h a = 7 ∧ cq_s h (a + 1) = 1 ∧ cq_s h (a + 2) = 171 ∧ cq_s h (a + 3) = 172 ∧ cq_s h (a + 4) = 173
theorem sc5.cl {p a : Nat} (F : sc5 h p) (q : scl p a) : cq_s h a = 7 ∨ cq_s h a = 1 ∨ cq_s h a = 171 ∨ cq_s h a = 172 ∨ cq_s h a = 173 := by
  obtain ⟨f0, f1, f2, f3, f4⟩ := F
  rcases q with rfl | rfl | rfl | rfl | rfl
  · exact Or.inl f0
  · exact Or.inr (Or.inl f1)
  · exact Or.inr (Or.inr (Or.inl f2))
  · exact Or.inr (Or.inr (Or.inr (Or.inl f3)))
  · exact Or.inr (Or.inr (Or.inr (Or.inr f4)))
theorem SR.ne5 {p q a : Nat} {s : Int} (F : SR x p s h g) (G : sc5 h q) (ne : p ≠ q) (h1 : scl p a) (h2 : scl q a) : False := by
  have f0 := F.s0
  have f1 := F.s1
  have f2 := F.s2
  have f3 := F.s3
  have f4 := F.s4
  obtain ⟨g0, g1, g2, g3, g4⟩ := G
  rcases h1 with e | e | e | e | e <;> rcases h2 with e' | e' | e' | e' | e' <;> first | omega | (rw [← e, e'] at f0; omega) | (rw [← e, e'] at f1; omega) | (rw [← e, e'] at f2; omega) | (rw [← e, e'] at f3; omega) | (rw [← e, e'] at f4; omega)
theorem FX.loose (F : FX c x n pe ro pa lb tp rd en op ob T Lf h g) {a : Nat} (S : sc5 h a) (fr : ∀ u' v' i, 0 ≤ u' → u' < n → 0 ≤ v' → v' < n → 0 ≤ i → i < cq_I g (x + 30) (6 * u' + v') → T (cq_I g (x + 29) (4 * (6 * u' + v') + i)) ≠ a) (e : evx (scl a) h h') : FX c x n pe ro pa lb tp rd en op ob T Lf h' g := by
  have nP : ∀ {d k : Nat}, cq_s h d = k → (k ≠ 7 ∧ k ≠ 1 ∧ k ≠ 171 ∧ k ≠ 172 ∧ k ≠ 173) → ¬ scl a d := by
    intro d k q w hp
    have := S.cl hp
    omega
  have eA := e.A F.fs.s0 rfl (nP F.fs.s0 (by decide))
  refine ⟨F.fs.ex e (nP F.fs.s0 (by decide)) (nP F.fs.s1 (by decide)) (nP F.fs.s2 (by decide)) (fun _ _ => rfl) (fun _ => rfl) (fun _ => rfl), F.n26, F.nn, by rw [eA]; exact F.a0, e.s F.s0 (by decide), by rw [eA]; exact F.a1, e.s F.s1 (by decide), by rw [eA]; exact F.a12, e.s F.s12 (by decide), by rw [eA]; exact F.a13, e.s F.s13 (by decide), by rw [e.A F.s13 rfl (nP F.s13 (by decide))]; exact F.aob, e.s F.sob (by decide), fun u u0 u1 => ?_, fun u u0 u1 => ?_, fun u v u0 u1 v0 v1 => ?_, fun u u0 u1 => ?_, fun u v u0 u1 v0 v1 => ?_, F.l80, fun l l0 l1 => ?_, F.li, F.pi, F.ri, F.ti⟩
  · rw [e.A F.s0 rfl (nP F.s0 (by decide))]
    exact F.pa_ u u0 u1
  · have f := F.fu u u0 u1
    have r := F.r13 u u0 u1
    rw [e.A f.s0 rfl (nP f.s0 (by decide))]
    exact ⟨r.1, e.s r.2 (by decide)⟩
  · have r := F.r13 u u0 u1
    rw [e.A r.2 rfl (nP r.2 (by decide))]
    exact F.ra u v u0 u1 v0 v1
  · have f := F.fu u u0 u1
    exact f.ex e (nP f.s0 (by decide)) (nP f.s1 (by decide)) (nP f.s2 (by decide)) (nP f.s3 (by decide)) (nP f.s4 (by decide)) (nP f.s5 (by decide)) (fun _ _ _ => ⟨rfl, rfl⟩)
  · have fo := F.fo u v u0 u1 v0 v1
    refine fo.ex e (nP fo.s0 (by decide)) (nP fo.s1 (by decide)) (fun j => rfl) rfl (fun i i0 i1 => ?_)
    have sr := fo.ss i i0 i1
    have ne := fr u v i u0 u1 v0 v1 i0 i1
    have q : ∀ d, scl (T (cq_I g (x + 29) (4 * (6 * u + v) + i))) d → ¬ scl a d := fun d w z => sr.ne5 S ne w z
    exact sr.ex e (q _ (Or.inl rfl)) (q _ (Or.inr (Or.inl rfl))) (q _ (Or.inr (Or.inr (Or.inl rfl)))) (q _ (Or.inr (Or.inr (Or.inr (Or.inl rfl))))) (q _ (Or.inr (Or.inr (Or.inr (Or.inr rfl))))) (fun _ _ _ => ⟨rfl, rfl⟩)
  · obtain ⟨f1, f2⟩ := F.fl l l0 l1
    rw [e.A F.s1 rfl (nP F.s1 (by decide))]
    exact ⟨f1, f2.ex e (nP f2.s0 (by decide)) (nP f2.s1 (by decide)) rfl (fun _ _ _ => rfl)⟩
/-- a SESSION goes into its row -/
theorem fx_put {u v s : Int} {a : Nat} (F : FX c x n pe ro pa lb tp rd en op ob T Lf m g) (hu : 0 ≤ u ∧ u < n) (hv : 0 ≤ v ∧ v < n) (hs : s = m_slotN g x (6 * u + v)) (Q : NQ x (6 * u + v) s g g') (S : SR x a s m g') (eg : ∀ o j, 1 ≤ o → o ≤ 65 → o ∉ tL → ¬ (o = 30 ∧ j = 6 * u + v) → ¬ (o = 29 ∧ 4 * (6 * u + v) ≤ j ∧ j < 4 * (6 * u + v) + 4) → ¬ inS s o j → cq_I g' (x + o) j = cq_I g (x + o) j ∧ cq_J g' (x + o) j = cq_J g (x + o) j) (gx : ∀ j, cq_I g' x j = cq_I g x j) (fr : ∀ u' v' i, 0 ≤ u' → u' < n → 0 ≤ v' → v' < n → 0 ≤ i → i < cq_I g (x + 30) (6 * u' + v') → T (cq_I g (x + 29) (4 * (6 * u' + v') + i)) ≠ a) (e : h' = rwF m (ro u v) a) : FX c x n pe ro pa lb tp rd en op ob (fun q => if q = s then a else T q) Lf h' g' := by
  have fo := F.fo u v hu.1 hu.2 hv.1 hv.2
  obtain ⟨q1, q2, q3⟩ := slot_q fo.r4 fo.sl
  rw [← hs] at q1 q2 q3
  have ex : evx (fun d => d = ro u v ∨ d = ro u v + 1) m h' := by
    rw [e]
    unfold rwF
    exact (evx.refl.sI (Or.inl rfl)).rA (Or.inr rfl)
  have eI1 : cq_I h' (ro u v) 1 = rw1 (cq_I m (ro u v) 1) := by
    rw [e]
    unfold rwF
    rw [rr_IA, mm_sI, if_pos ⟨rfl, rfl⟩]
  have eA1 : ∀ i, cq_A h' (ro u v + 1) i = shU (cq_A m (ro u v + 1)) (rw1 (cq_I m (ro u v) 1) - 1) (some a) i := fun i => by
    rw [e]
    unfold rwF
    rw [rr_A, if_pos rfl]
  have np : ∀ {d q : Nat}, cq_s m d = q → q ≠ 5 → q ≠ 182 → ¬ (d = ro u v ∨ d = ro u v + 1) := fun {d q} w w1 w2 z => z.elim (ns w fo.s0 w1) (ns w fo.s1 w2)
  have SRn : SR x a s h' g' := S.ex ex (np S.s0 (by decide) (by decide)) (np S.s1 (by decide) (by decide)) (np S.s2 (by decide) (by decide)) (np S.s3 (by decide) (by decide)) (np S.s4 (by decide) (by decide)) (fun _ _ _ => ⟨rfl, rfl⟩)
  have old : ∀ i, 0 ≤ i → i < cq_I g (x + 30) (6 * u + v) → cq_I g (x + 29) (4 * (6 * u + v) + i) ≠ s → SR x (T (cq_I g (x + 29) (4 * (6 * u + v) + i))) (cq_I g (x + 29) (4 * (6 * u + v) + i)) h' g' := by
    intro i i0 i1 ne
    have f := fo.ss i i0 i1
    refine f.ex ex (np f.s0 (by decide) (by decide)) (np f.s1 (by decide) (by decide)) (np f.s2 (by decide) (by decide)) (np f.s3 (by decide) (by decide)) (np f.s4 (by decide) (by decide)) (fun o j z => ?_)
    obtain ⟨o1, o2, o3⟩ := inS_r z
    refine eg o j o1 o2 o3 ?_ ?_ ?_ <;> (try unfold inS at z) <;> (try unfold inS) <;> omega
  obtain ⟨FO', cs⟩ := fo_new fo Q hs (fun d w => (ex.1 d w).1) eI1 eA1 SRn old
  refine F.upO hu hv ex (fun o j h1 h2 h3 w => ?_) (fun d w => w.elim Or.inl (fun z => Or.inr (Or.inl z))) (fun j _ => gx j) (fun q w => if_neg (fun z => w (by omega))) FO' (fun i j i0 i1 j0 j1 ne => ?_) (fun i u' v' j i0 i1 a1 a2 a3 a4 ne j0 j1 => ?_)
  · refine eg o j h1 h2 h3 ?_ ?_ ?_ <;> (intro z; apply w; unfold inO; (try unfold inS at z); omega)
  · rcases cs i i0 i1 with ⟨e1, e2⟩ | ⟨e1, e2, e3, e4⟩
    · rcases cs j j0 j1 with ⟨d1, d2⟩ | ⟨d1, d2, d3, d4⟩
      · omega
      · rw [e2, d2, if_pos rfl, if_neg d3]
        exact (fr u v (j - 1) hu.1 hu.2 hv.1 hv.2 (by omega) d4).symm
    · rcases cs j j0 j1 with ⟨d1, d2⟩ | ⟨d1, d2, d3, d4⟩
      · rw [e2, d2, if_pos rfl, if_neg e3]
        exact fr u v (i - 1) hu.1 hu.2 hv.1 hv.2 (by omega) e4
      · rw [e2, d2, if_neg e3, if_neg d3]
        exact F.ti u v u v (i - 1) (j - 1) hu.1 hu.2 hv.1 hv.2 hu.1 hu.2 hv.1 hv.2 (by omega) e4 (by omega) d4 (fun z => ne (by omega))
  · rcases cs i i0 i1 with ⟨e1, e2⟩ | ⟨e1, e2, e3, e4⟩
    · rw [e2, if_pos rfl]
      exact (fr u' v' j a1 a2 a3 a4 j0 j1).symm
    · rw [e2, if_neg e3]
      exact F.ti u v u' v' (i - 1) j hu.1 hu.2 hv.1 hv.2 a1 a2 a3 a4 (by omega) e4 j0 j1 (fun z => ne ⟨z.1.symm, z.2.1.symm⟩)
/-- a SESSION more was made -/
theorem fx_made (F : FX c x n pe ro pa lb tp rd en op ob T Lf h g) (e85 : cq_I g' x 85 = cq_I g x 85 + 1) (ex : ∀ j, j ≠ 85 → cq_I g' x j = cq_I g x j) (eI : ∀ o j, 1 ≤ o → o ≤ 65 → o ∉ tL → cq_I g' (x + o) j = cq_I g (x + o) j) (eJ : ∀ o j, 1 ≤ o → o ≤ 65 → o ∉ tL → cq_J g' (x + o) j = cq_J g (x + o) j) (e : h' = cq_sI h c 5 (cq_I h c 5 + 1)) : FX c x n pe ro pa lb tp rd en op ob T Lf h' g' := by
  have fs := F.fs
  have exx : evx (fun a => a = c) h h' := by rw [e]; exact evx.sI (P := fun a => a = c) evx.refl rfl
  have cI : ∀ j, j ≠ 5 → cq_I h' c j = cq_I h c j := fun j w => by rw [e, mm_sI, if_neg (fun z => w z.2)]
  have c4 : cq_I h' c 5 = cq_I h c 5 + 1 := by rw [e, mm_sI, if_pos ⟨rfl, rfl⟩]
  have eA : cq_A h' = cq_A h := by rw [e]; rfl
  refine F.upS exx (fun o _ => False) (fun o j h1 h2 h3 _ => ⟨eI o j h1 h2 h3, eJ o j h1 h2 h3⟩) (fun a w => by rw [w, fs.s0]; rfl) (fun o j w => w.elim) (by rw [eA]) (by rw [eA]) (ex 0 (by decide)) (ex 72 (by decide)) ?_
  refine ⟨exx.s fs.s0 (by decide), exx.s fs.s1 (by decide), exx.s fs.s2 (by decide), by rw [eA]; exact fs.a8, by rw [eA]; exact fs.a10, by rw [cI 2 (by decide), ex 72 (by decide)]; exact fs.lc, by rw [cI 3 (by decide), ex 73 (by decide)]; exact fs.cc, by rw [cI 4 (by decide), ex 63 (by decide)]; exact fs.bc, by rw [c4, e85, fs.mc], by rw [cI 6 (by decide), ex 84 (by decide)]; exact fs.oc, by rw [cI 7 (by decide), ex 86 (by decide)]; exact fs.kc, by rw [cI 9 (by decide), ex 68 (by decide)]; exact fs.tc, by rw [cI 11 (by decide), ex 75 (by decide)]; exact fs.rc, fun k k0 k1 => ?_, fun k k0 k1 => ?_, fun k k0 k1 => by rw [ex 68 (by decide)] at k1; rw [eI 61 k (by decide) (by decide) (by decide)]; exact fs.tb k k0 k1⟩
  · rw [ex 68 (by decide)] at k1
    rw [exx.I fs.s1 rfl (ns fs.s1 fs.s0 (by decide)), eI 61 k (by decide) (by decide) (by decide)]
    exact fs.tp_ k k0 k1
  · rw [ex 75 (by decide)] at k1
    rw [exx.I fs.s2 rfl (ns fs.s2 fs.s0 (by decide)), eI 65 k (by decide) (by decide) (by decide)]
    exact fs.rd_ k k0 k1
end
