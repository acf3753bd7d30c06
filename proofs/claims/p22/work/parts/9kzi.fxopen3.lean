/-! class and reference side by side: a letter was opened behind a TURN -/
section
variable {c x : Nat} {n : Int} {pe : Int → Nat} {ro : Int → Int → Nat} {pa lb tp rd en op ob : Nat} {T Lf : Int → Nat} {h g h' g' : cx_Q} {u v i0 s : Int} {k : Int64}
theorem kpW_z {m : cx_Q} {k b0 b1 b2 : Nat} {sz mm : Int} {o : Int64} {nr : Int} {key : Int → Int64} : cq_z (kpW m k b0 b1 b2 sz mm o nr key) = cq_z m := Eq.trans rfl rfl
theorem tsW_z {m : cx_Q} {a t q : Nat} {r y : Int64} : cq_z (tsW m a t q r y) = cq_z m := Eq.trans rfl rfl
theorem trW_z {m : cx_Q} {a q : Nat} {s : Int} {u v : Int64} {o : Option Nat} : cq_z (trW m a q s u v o) = cq_z m := Eq.trans rfl rfl
theorem coD_z {m : cx_Q} {p t : Nat} {i : Int} : cq_z (coD m p t i) = cq_z m := Eq.trans rfl rfl
theorem coR_z {m : cx_Q} {a : Nat} {v : Int64} {i : Int} : cq_z (coR m a v i) = cq_z m := Eq.trans rfl rfl
theorem coD_c {m m' : cx_Q} {p t d : Nat} {i : Int} (eI : cq_I m d = cq_I m' d) (eA : cq_A m d = cq_A m' d) : cq_I (coD m p t i) d = cq_I (coD m' p t i) d ∧ cq_A (coD m p t i) d = cq_A (coD m' p t i) d := by
  unfold coD
  refine ⟨?_, ?_⟩
  · funext j
    rw [mm_IA, mm_IA, mm_sI, mm_sI, eI]
  · funext j
    rw [mm_sA, mm_sA, mm_AI, mm_AI, eA]
theorem up12_q : DQ x u g (cq_sI g (x + 12) u (cq_I g (x + 12) u + 1)) := ⟨fun j => by rw [mm_sI, if_neg (fun q => by omega)], fun o j _ w => by rw [mm_sI, if_neg (fun q => w ⟨by omega, q.2⟩)], by rw [mm_sI, if_pos ⟨rfl, rfl⟩], fun _ _ _ => rfl⟩
theorem fx_open3 (F : FX c x n pe ro pa lb tp rd en op ob T Lf h g) {t q q2 : Nat} {n0 n1 pl : Int} {eo C R1 X2 V O v6 : Int64} {o : Option Nat} {r1 r2 : Int → Int64} (hu : 0 ≤ u ∧ u < n) (hv : 0 ≤ v ∧ v < n) (hi : 0 ≤ i0 ∧ i0 < cq_I g (x + 30) (6 * u + v)) (es : cq_I g (x + 29) (4 * (6 * u + v) + i0) = s) (R : FRM x s u 1 g g') (A : RD x k g g') (Q : OK3 x s n0 n1 eo C R1 X2 V O g g') (hn : 0 ≤ n0 ∧ 0 ≤ n1 ∧ cq_I g (x + 53) s + n0 + n1 ≤ 20) (ep : pl = n1) (e6 : v6 = nxI (n1.toNat + 1) C) (er1 : ∀ i, 0 ≤ i → i < n0 → r1 i = lkC (nxI i.toNat (cq_J g (x + 34) s))) (er2 : ∀ i, 0 ≤ i → i < n1 → r2 i = lkC (nxI i.toNat C))
    (e : ew (tsW (coD (coR (kpW (trW (kpW (cq_sI h (T s) 5 0) (T s + 1) (T s + 2) (T s + 3) (T s + 4) (cq_I h (T s + 1) 4) n0 (cq_J h (T s) 13) (cq_I h (T s) 17) r1) (T s) q (cq_I h (T s) 16) eo R1 o) (T s + 1) (T s + 2) (T s + 3) (T s + 4) (cq_I h (T s + 1) 4 + n0) n1 eo 0 r2) (T s) v6 (pl + 1)) (pe u) t (cq_I g (x + 12) u)) (T s) t q2 R1 X2) h') (st : cq_s h' t = 6) (jt0 : cq_J h' t 0 = V) (jt1 : cq_J h' t 1 = O) : FX c x n pe ro pa lb tp rd en op ob T Lf h' (bk x g g') ∧ evx (fun a => scl (T s) a ∨ a = pe u) h h' := by
  obtain ⟨b1, b2, b3, b4⟩ := bk_q (x := x) (g := g) (g' := g') A.x_
  have sr := (F.fo u v hu.1 hu.2 hv.1 hv.2).ss i0 hi.1 hi.2
  rw [es] at sr
  have sp := (F.fu u hu.1 hu.2).s0
  have S := sr.z.turn (Q.c b2 b4) hn sp ep e6 er1 er2 e st jt0 jt1
  have D := up12_q (x := x) (u := u) (g := g)
  have F1 := fx_draw D F hu (ev.refl (h := coD h (pe u) t (cq_I g (x + 12) u)))
  have es' : cq_s (tsW (coD (coR (kpW (trW (kpW (cq_sI h (T s) 5 0) (T s + 1) (T s + 2) (T s + 3) (T s + 4) (cq_I h (T s + 1) 4) n0 (cq_J h (T s) 13) (cq_I h (T s) 17) r1) (T s) q (cq_I h (T s) 16) eo R1 o) (T s + 1) (T s + 2) (T s + 3) (T s + 4) (cq_I h (T s + 1) 4 + n0) n1 eo 0 r2) (T s) v6 (pl + 1)) (pe u) t (cq_I g (x + 12) u)) (T s) t q2 R1 X2) = cq_s h := by
    rw [tsW_s, coD_s, coR_s, kpW_qs, trW_s, kpW_qs]
    exact Eq.trans rfl rfl
  have ez : cq_z (tsW (coD (coR (kpW (trW (kpW (cq_sI h (T s) 5 0) (T s + 1) (T s + 2) (T s + 3) (T s + 4) (cq_I h (T s + 1) 4) n0 (cq_J h (T s) 13) (cq_I h (T s) 17) r1) (T s) q (cq_I h (T s) 16) eo R1 o) (T s + 1) (T s + 2) (T s + 3) (T s + 4) (cq_I h (T s + 1) 4 + n0) n1 eo 0 r2) (T s) v6 (pl + 1)) (pe u) t (cq_I g (x + 12) u)) (T s) t q2 R1 X2) = cq_z h := by
    rw [tsW_z, coD_z, coR_z, kpW_z, trW_z, kpW_z]
    exact Eq.trans rfl rfl
  have oI : ∀ d, ¬ scl (T s) d → cq_I (tsW (coD (coR (kpW (trW (kpW (cq_sI h (T s) 5 0) (T s + 1) (T s + 2) (T s + 3) (T s + 4) (cq_I h (T s + 1) 4) n0 (cq_J h (T s) 13) (cq_I h (T s) 17) r1) (T s) q (cq_I h (T s) 16) eo R1 o) (T s + 1) (T s + 2) (T s + 3) (T s + 4) (cq_I h (T s + 1) 4 + n0) n1 eo 0 r2) (T s) v6 (pl + 1)) (pe u) t (cq_I g (x + 12) u)) (T s) t q2 R1 X2) d = cq_I (coD h (pe u) t (cq_I g (x + 12) u)) d ∧ cq_A (tsW (coD (coR (kpW (trW (kpW (cq_sI h (T s) 5 0) (T s + 1) (T s + 2) (T s + 3) (T s + 4) (cq_I h (T s + 1) 4) n0 (cq_J h (T s) 13) (cq_I h (T s) 17) r1) (T s) q (cq_I h (T s) 16) eo R1 o) (T s + 1) (T s + 2) (T s + 3) (T s + 4) (cq_I h (T s + 1) 4 + n0) n1 eo 0 r2) (T s) v6 (pl + 1)) (pe u) t (cq_I g (x + 12) u)) (T s) t q2 R1 X2) d = cq_A (coD h (pe u) t (cq_I g (x + 12) u)) d ∧ cq_J (tsW (coD (coR (kpW (trW (kpW (cq_sI h (T s) 5 0) (T s + 1) (T s + 2) (T s + 3) (T s + 4) (cq_I h (T s + 1) 4) n0 (cq_J h (T s) 13) (cq_I h (T s) 17) r1) (T s) q (cq_I h (T s) 16) eo R1 o) (T s + 1) (T s + 2) (T s + 3) (T s + 4) (cq_I h (T s + 1) 4 + n0) n1 eo 0 r2) (T s) v6 (pl + 1)) (pe u) t (cq_I g (x + 12) u)) (T s) t q2 R1 X2) d = cq_J (coD h (pe u) t (cq_I g (x + 12) u)) d := by
    intro d w
    have w0 : d ≠ T s := fun z => w (Or.inl z)
    have w1 : d ≠ T s + 1 := fun z => w (Or.inr (Or.inl z))
    have w2 : d ≠ T s + 2 := fun z => w (Or.inr (Or.inr (Or.inl z)))
    have w3 : d ≠ T s + 3 := fun z => w (Or.inr (Or.inr (Or.inr (Or.inl z))))
    have w4 : d ≠ T s + 4 := fun z => w (Or.inr (Or.inr (Or.inr (Or.inr z))))
    have e5 : cq_I (cq_sI h (T s) 5 0) d = cq_I h d := by
      funext j
      rw [mm_sI, if_neg (fun z => w0 z.1)]
    rw [(tsW_o w0).1, (tsW_o w0).2.1, (tsW_o w0).2.2]
    have cc := coD_c (p := pe u) (t := t) (i := cq_I g (x + 12) u) (d := d) (m := coR (kpW (trW (kpW (cq_sI h (T s) 5 0) (T s + 1) (T s + 2) (T s + 3) (T s + 4) (cq_I h (T s + 1) 4) n0 (cq_J h (T s) 13) (cq_I h (T s) 17) r1) (T s) q (cq_I h (T s) 16) eo R1 o) (T s + 1) (T s + 2) (T s + 3) (T s + 4) (cq_I h (T s + 1) 4 + n0) n1 eo 0 r2) (T s) v6 (pl + 1)) (m' := h) (by rw [(coR_o w0).1, kpW_I w1 w3, (trW_o w0).1, kpW_I w1 w3, e5]) (by rw [coR_A, kpW_qA, (trW_o w0).2.2, kpW_qA]; exact Eq.trans rfl rfl)
    refine ⟨cc.1, cc.2, ?_⟩
    rw [coD_J, coD_J, (coR_o w0).2, kpW_J w2 w4, (trW_o w0).2.1, kpW_J w2 w4]
    exact Eq.trans rfl rfl
  generalize tsW (coD (coR (kpW (trW (kpW (cq_sI h (T s) 5 0) (T s + 1) (T s + 2) (T s + 3) (T s + 4) (cq_I h (T s + 1) 4) n0 (cq_J h (T s) 13) (cq_I h (T s) 17) r1) (T s) q (cq_I h (T s) 16) eo R1 o) (T s + 1) (T s + 2) (T s + 3) (T s + 4) (cq_I h (T s + 1) 4 + n0) n1 eo 0 r2) (T s) v6 (pl + 1)) (pe u) t (cq_I g (x + 12) u)) (T s) t q2 R1 X2 = M at e es' ez oI
  have cs : cq_s (coD h (pe u) t (cq_I g (x + 12) u)) = cq_s h := coD_s
  have cz : cq_z (coD h (pe u) t (cq_I g (x + 12) u)) = cq_z h := coD_z
  have ex : evx (scl (T s)) (coD h (pe u) t (cq_I g (x + 12) u)) h' := by
    refine evx.trans (h1 := M) ⟨fun a _ => ⟨by rw [es', cs], by rw [ez, cz]⟩, fun a w => ?_, fun a w z => ⟨(oI a z).2.2, fun _ => (oI a z).1, fun _ => (oI a z).2.1⟩⟩ e.x
    refine (oI a (fun z => ?_)).2.2
    have := sr.cl z
    rw [cs] at w
    omega
  have g30 : cq_I (cq_sI g (x + 12) u (cq_I g (x + 12) u + 1)) (x + 30) (6 * u + v) = cq_I g (x + 30) (6 * u + v) := D.I_ 30 _ (by decide) (by omega)
  have g29 : cq_I (cq_sI g (x + 12) u (cq_I g (x + 12) u + 1)) (x + 29) (4 * (6 * u + v) + i0) = s := by rw [D.I_ 29 _ (by decide) (by omega)]; exact es
  have ex0 : evx (fun a => scl (T s) a ∨ a = pe u) h (coD h (pe u) t (cq_I g (x + 12) u)) := by
    unfold coD
    exact evx.sA (P := fun a => scl (T s) a ∨ a = pe u) (evx.sI (P := fun a => scl (T s) a ∨ a = pe u) evx.refl (Or.inr rfl)) (Or.inr rfl)
  refine ⟨?_, ex0.trans (ex.mono (fun a w => Or.inl w))⟩
  refine F1.upT hu hv (by rw [g30]; exact hi) g29 ex (fun a w => w) (fun o j w1 w2 w3 w4 => ?_) (fun j _ => by rw [b1, D.x_]) S
  rw [b4, D.J_ o j w1]
  refine ⟨?_, R.J_ o j w1 w2 w3 w4⟩
  by_cases z : o = 65
  · rw [z, b3, D.I_ 65 j (by decide) (by omega)]
  · rw [b2 o j w1 z]
    by_cases y : o = 12 ∧ j = u
    · rw [y.1, y.2, R.i12, D.i12]
    · rw [D.I_ o j w1 y]
      exact R.I_ o j w1 w2 w3 w4 z y
end
