/-! class and reference side by side: a SESSION comes first; plans; what was read -/
/-- where the k-th of a row stood before the i-th came first -/
def pm (i k : Int) : Int := if k = 0 then i else if k ≤ i then k - 1 else k
theorem pm_rg {i k m : Int} (hi : 0 ≤ i ∧ i < m) (hk : 0 ≤ k ∧ k < m) : 0 ≤ pm i k ∧ pm i k < m := by
  unfold pm
  split
  · exact hi
  · split <;> omega
theorem pm_in {i k l : Int} (hi : 0 ≤ i) (hk : 0 ≤ k) (hl : 0 ≤ l) (ne : k ≠ l) : pm i k ≠ pm i l := by
  unfold pm
  split <;> split <;> (try split) <;> (try split) <;> omega
section
variable {c x : Nat} {n : Int} {pe : Int → Nat} {ro : Int → Int → Nat} {pa lb tp rd en op ob : Nat} {T Lf : Int → Nat} {h g h' g' : cx_Q} {P : Nat → Prop}
theorem front_q {w i : Int} (hi : 0 ≤ i ∧ i < 4) : (∀ k, 0 ≤ k → k < 4 → cq_I (m_front g x w i) (x + 29) (4 * w + k) = cq_I g (x + 29) (4 * w + pm i k)) ∧ (∀ a j, ¬ (a = x + 29 ∧ 4 * w ≤ j ∧ j < 4 * w + 4) → cq_I (m_front g x w i) a j = cq_I g a j) ∧ ∀ a j, cq_J (m_front g x w i) a j = cq_J g a j := by
  obtain ⟨a1, a2, a3⟩ := m_sh_v (x := x) (r := w) (k := i.toNat) (g := g)
  unfold m_front
  refine ⟨fun k k0 k1 => ?_, fun a j q => ?_, fun a j => by rw [mm_JI, a3]⟩
  · rw [mm_sI]
    unfold pm
    by_cases z : k = 0
    · rw [if_pos ⟨rfl, by omega⟩, if_pos z]
    · rw [if_neg (fun q => z (by omega)), a1, if_neg z]
      by_cases z2 : k ≤ i
      · rw [if_pos (by omega), if_pos z2]
        have e : 4 * w + k - 1 = 4 * w + (k - 1) := by omega
        rw [e]
      · rw [if_neg (by omega), if_neg z2]
  · rw [mm_sI, if_neg (fun z => q ⟨z.1, by omega, by omega⟩)]
    by_cases z : a = x + 29
    · rw [z, a1, if_neg (fun y => q ⟨z, by omega, by omega⟩)]
    · exact a2 a j z
theorem fx_front (F : FX c x n pe ro pa lb tp rd en op ob T Lf h g) {u v i : Int} (hu : 0 ≤ u ∧ u < n) (hv : 0 ≤ v ∧ v < n) (hi : 0 ≤ i ∧ i < cq_I g (x + 30) (6 * u + v)) (e : h' = cq_rA h (ro u v + 1) (shU (cq_A h (ro u v + 1)) i (cq_A h (ro u v + 1) i))) : FX c x n pe ro pa lb tp rd en op ob T Lf h' (m_front g x (6 * u + v) i) := by
  have fo := F.fo u v hu.1 hu.2 hv.1 hv.2
  have r4 := fo.r4
  obtain ⟨f1, f2, f3⟩ := front_q (x := x) (g := g) (w := 6 * u + v) (i := i) (by omega)
  have ex : evx (fun a => a = ro u v + 1) h h' := by
    rw [e]
    exact evx.rA (P := fun a => a = ro u v + 1) evx.refl rfl
  have eA : ∀ k, 0 ≤ k → cq_A h' (ro u v + 1) k = cq_A h (ro u v + 1) (pm i k) := fun k k0 => by
    rw [e, rr_A, if_pos rfl]
    unfold shU pm
    by_cases z : k = 0
    · rw [if_pos z, if_pos z]
    · rw [if_neg z, if_neg z]
      by_cases z2 : k ≤ i
      · rw [if_pos (by omega), if_pos z2]
      · rw [if_neg (by omega), if_neg z2]
  have eI : cq_I h' (ro u v) = cq_I h (ro u v) := by rw [e]; rfl
  clear e
  generalize m_front g x (6 * u + v) i = g' at f1 f2 f3 ⊢
  have g30 : ∀ j, cq_I g' (x + 30) j = cq_I g (x + 30) j := fun j => f2 _ _ (by omega)
  have sr : ∀ i', 0 ≤ i' → i' < cq_I g (x + 30) (6 * u + v) → SR x (T (cq_I g (x + 29) (4 * (6 * u + v) + i'))) (cq_I g (x + 29) (4 * (6 * u + v) + i')) h' g' := fun i' i0 i1 => by
    have s := fo.ss i' i0 i1
    have t1 := fo.s1
    have np : ∀ {d k : Nat}, cq_s h d = k → k ≠ 182 → ¬ d = ro u v + 1 := fun w w2 z => w2 (by rw [← w, z, t1])
    exact s.ex ex (np s.s0 (by decide)) (np s.s1 (by decide)) (np s.s2 (by decide)) (np s.s3 (by decide)) (np s.s4 (by decide)) (fun o j w => ⟨f2 _ _ (fun z => by unfold inS at w; omega), f3 _ _⟩)
  refine F.upO hu hv ex (fun o j h1 h2 h3 w => ⟨f2 _ _ (fun z => w (Or.inr (Or.inl ⟨by omega, z.2⟩))), f3 _ _⟩) (fun a w => Or.inr (Or.inl w)) (fun j _ => f2 _ _ (by omega)) (fun _ _ => rfl) ⟨ex.s fo.s0 (by decide), ex.s fo.s1 (by decide), by rw [eI, g30]; exact fo.rm, by rw [g30]; exact fo.r4, fun k k0 k1 => ?_, fun k k0 k1 => ?_, fun k l k0 k1 k2 => ?_, fun k k0 k1 => ?_⟩ (fun k l k0 k1 l0 l1 ne => ?_) (fun k u' v' l k0 k1 b1 b2 b3 b4 ne l0 l1 => ?_)
  · rw [g30] at k1
    have q := pm_rg hi ⟨k0, k1⟩
    rw [eA k k0, f1 k k0 (by omega)]
    exact fo.at_ _ q.1 q.2
  · rw [g30] at k1
    have q := pm_rg hi ⟨k0, k1⟩
    rw [f1 k k0 (by omega)]
    exact fo.sl _ q.1 q.2
  · rw [g30] at k2
    have q := pm_rg hi ⟨k0, (by omega : k < cq_I g (x + 30) (6 * u + v))⟩
    have q' := pm_rg hi ⟨(by omega : 0 ≤ l), k2⟩
    have ne := pm_in (k := k) (l := l) hi.1 k0 (by omega) (by omega)
    rw [f1 k k0 (by omega), f1 l (by omega) (by omega)]
    rcases Int.lt_or_lt_of_ne ne with z | z
    · exact fo.di _ _ q.1 z q'.2
    · exact (fo.di _ _ q'.1 z q.2).symm
  · rw [g30] at k1
    have q := pm_rg hi ⟨k0, k1⟩
    rw [f1 k k0 (by omega)]
    exact sr _ q.1 q.2
  · rw [g30] at k1 l1
    have q := pm_rg hi ⟨k0, k1⟩
    have q' := pm_rg hi ⟨l0, l1⟩
    rw [f1 k k0 (by omega), f1 l l0 (by omega)]
    exact F.ti u v u v _ _ hu.1 hu.2 hv.1 hv.2 hu.1 hu.2 hv.1 hv.2 q.1 q.2 q'.1 q'.2 (fun z => pm_in hi.1 k0 l0 ne z.2.2)
  · rw [g30] at k1
    have q := pm_rg hi ⟨k0, k1⟩
    rw [f1 k k0 (by omega)]
    exact F.ti u v u' v' _ l hu.1 hu.2 hv.1 hv.2 b1 b2 b3 b4 q.1 q.2 l0 l1 (fun z => ne ⟨z.1.symm, z.2.1.symm⟩)
/-- plans tell nothing of what is -/
theorem FX.ox (F : FX c x n pe ro pa lb tp rd en op ob T Lf h g) (o : ox op ob h h') : FX c x n pe ro pa lb tp rd en op ob T Lf h' g := by
  have e : evx (fun a => a = op ∨ a = ob) h h' := by
    refine ⟨fun a _ => ⟨by rw [o.2.1], by rw [o.2.2.1]⟩, fun a w => ?_, fun a w q => ⟨o.2.2.2.2.2 a (fun z => q (Or.inl z)) (fun z => q (Or.inr z)), fun _ => o.2.2.2.2.1 a (fun z => q (Or.inl z)), fun _ => by rw [o.2.2.2.1]⟩⟩
    exact o.2.2.2.2.2 a (ns w F.s13 (by decide)) (ns w F.sob (by decide))
  have nc : ∀ {d k : Nat}, cq_s h d = k → k ≠ 3 → k ≠ 175 → ¬ (d = op ∨ d = ob) := fun w w1 w2 z => by
    rcases z with z | z
    · exact w1 (by rw [← w, z, F.s13])
    · exact w2 (by rw [← w, z, F.sob])
  exact F.upS e (fun _ _ => False) (fun _ _ _ _ _ _ => ⟨rfl, rfl⟩) (fun a w => by rcases w with rfl | rfl; exact (by rw [F.s13]; rfl); exact (by rw [F.sob]; rfl)) (fun _ _ w => w.elim) (by rw [o.2.2.2.1]) (by rw [o.2.2.2.1]) rfl rfl (F.fs.ex e (nc F.fs.s0 (by decide) (by decide)) (nc F.fs.s1 (by decide) (by decide)) (nc F.fs.s2 (by decide) (by decide)) (fun _ _ => rfl) (fun _ => rfl) (fun _ => rfl))
/-- an envelope tells nothing of what is; nor what the reference keeps of its reading -/
theorem FX.door (F : FX c x n pe ro pa lb tp rd en op ob T Lf h g) (X : apX en h h') (e : eL x g g') : FX c x n pe ro pa lb tp rd en op ob T Lf h' g' := by
  have e1 : evx (fun a => a = en) h h' := by
    refine ⟨fun a _ => ⟨by rw [X.2.1], by rw [X.2.2.1]⟩, fun a w => (X.2.2.2 a (ns w F.s12 (by decide))).2.1, fun a w q => ⟨(X.2.2.2 a q).2.1, fun _ => (X.2.2.2 a q).1, fun _ => (X.2.2.2 a q).2.2⟩⟩
  have nc : ∀ {d k : Nat}, cq_s h d = k → k ≠ 0 → ¬ d = en := fun w w1 z => w1 (by rw [← w, z, F.s12])
  have ec := X.2.2.2 c (nc F.fs.s0 (by decide))
  have eo := X.2.2.2 op (nc F.s13 (by decide))
  have ex : ∀ j, (j < 77 ∨ 83 < j) → cq_I g' x j = cq_I g x j := fun j w => (e.2.2.2.2 x j (by omega)).1
  have er : ∀ o j, 1 ≤ o → cq_I g' (x + o) j = cq_I g (x + o) j ∧ cq_J g' (x + o) j = cq_J g (x + o) j := fun o j w => e.2.2.2.2 (x + o) j (by omega)
  exact F.upS e1 (fun _ _ => False) (fun o j w1 _ _ _ => er o j w1) (fun a w => by rw [w, F.s12]; rfl) (fun _ _ w => w.elim) ec.2.2 (by rw [eo.2.2]) (ex 0 (by omega)) (ex 72 (by omega)) (F.fs.ex e1 (nc F.fs.s0 (by decide)) (nc F.fs.s1 (by decide)) (nc F.fs.s2 (by decide)) (fun j w => ex j (by omega)) (fun j => (er 61 j (by decide)).1) (fun j => (er 65 j (by decide)).1))
end
