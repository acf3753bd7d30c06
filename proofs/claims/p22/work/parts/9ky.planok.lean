/-! class and reference side by side: whether a letter can be opened in a SESSION -/
theorem chn_nx : ∀ {n : Nat} {k : Int} {a : Int64}, m_chn n k a = nxI n a := by
  intro n
  induction n with
  | zero =>
    intro k a
    rw [m_chn_0, nxI_0]
  | succ n ih =>
    intro k a
    rw [m_chn_s, ih]
    unfold nxI
    rw [itN_t]
    rfl
theorem ka_c {fo fo' : Int → Int64} {fp fp' : Int → Int} {o : Int64} {p b b' : Int} : ∀ {n : Nat} {k : Int}, (∀ i, k ≤ i → i < k + n → fo (b + i) = fo' (b' + i) ∧ fp (b + i) = fp' (b' + i)) → m_ka fo fp o p b n k = m_ka fo' fp' o p b' n k := by
  intro n
  induction n with
  | zero =>
    intro k _
    rw [m_ka, m_ka]
  | succ n ih =>
    intro k e
    have e0 := e k (Int.le_refl _) (by omega)
    rw [m_ka, m_ka, e0.1, e0.2, ih (fun i i0 i1 => e i (by omega) (by omega))]
section
variable {x a e b : Nat} {l s : Int} {h g : cx_Q}
theorem pl_t (S : SR0 x a s h g) (R : ER x e b l h g) : cT (cq_I h a 15) (cq_J h e 9) (cq_J h a 13) = m_tn g x s := by
  unfold cT m_tn
  rw [S.ho, R.op, S.ot]
theorem tn_01 : m_tn g x s = 0 ∨ m_tn g x s = 1 := by
  unfold m_tn
  split
  · exact Or.inr rfl
  · exact Or.inl rfl
theorem pl_kf (S : SR0 x a s h g) (R : ER x e b l h g) : kfi h (a + 2) (a + 3) (cq_J h e 9) (cq_I h e 11) (cq_I h (a + 1) 4).toNat 0 = if m_keptAt g x s = -2 then -1 else m_keptAt g x s := by
  have k20 := S.k20
  have e1 : m_ka (cq_J h (a + 2)) (cq_I h (a + 3)) (cq_J h e 9) (cq_I h e 11) 0 (cq_I h (a + 1) 4).toNat 0 = m_keptAt g x s := by
    unfold m_keptAt
    rw [R.op, R.pl, S.km]
    refine ka_c (fun i i0 i1 => ?_)
    have q := S.kk i i0 (by omega)
    rw [Int.zero_add]
    exact ⟨q.1, q.2.1⟩
  unfold kfi
  rw [e1]
theorem pl_tg (R : ER x e b l h g) {u : Int64} : tgP h e u ↔ m_tg g x l u = 0 := by
  unfold tgP m_tg
  rw [R.sm, R.tg]
  generalize f_key 6 u _ = A
  generalize m_bytes g x _ 8 = B
  constructor
  · intro q
    rw [if_pos q]
  · intro q
    by_cases w : A = B
    · exact w
    · rw [if_neg w] at q
      exact absurd q (by decide)
theorem pl_old (S : SR0 x a s h g) (R : ER x e b l h g) {t : Int} (ht : t = 0 ∨ t = 1) : cOld t (cq_A h a 11) (cq_I h e 10) (cq_I h a 17) = m_bef g x s t ∧ cNew t (cq_I h e 11) (cq_I h a 17) = m_beh g x s t := by
  have hr := S.hr
  unfold cOld cNew m_bef m_beh
  rw [R.pn, S.nr, R.pl]
  rcases ht with rfl | rfl
  · exact ⟨by rw [if_neg (fun q => absurd q.1 (by decide)), if_neg (fun q => absurd q.1 (by decide))], by rw [if_neg (by decide), if_neg (by decide)]⟩
  · refine ⟨?_, by rw [if_pos rfl, if_pos (by decide)]⟩
    by_cases w : cq_A h a 11 = none
    · rw [if_neg (fun q => q.2.1 w), if_neg (fun q => q.2.1 (hr.mp w))]
    · by_cases w2 : cq_I g (x + 41) s < cq_I g x 80
      · rw [if_pos ⟨rfl, w, w2⟩, if_pos ⟨by decide, fun z => w (hr.mpr z), w2⟩]
      · rw [if_neg (fun q => w2 q.2.2), if_neg (fun q => w2 q.2.2)]
theorem pl_ch (S : SR0 x a s h g) (R : ER x e b l h g) {w : Nat} {t : Int} (ht : t = 0 ∨ t = 1) (j0 : cq_J h w 0 = cq_J g (x + 36) s) (ok : ¬ (t = 0 ∧ cq_A h a 11 = none)) : chC t (cq_J h a 6) (cq_J h a 10) (f_common (cq_J h w 0) (cq_J h e 9)) = m_ch0 g x s t := by
  unfold chC m_ch0 m_com
  rcases ht with rfl | rfl
  · rw [if_neg (by decide), if_neg (by decide)]
    exact S.rc (fun z => ok ⟨rfl, S.hr.mpr z⟩)
  · rw [if_pos rfl, if_pos (by decide), if_pos (by decide), S.rt, j0, R.op]
theorem pl_key (S : SR0 x a s h g) (R : ER x e b l h g) {w : Nat} {t : Int} (ht : t = 0 ∨ t = 1) (j0 : cq_J h w 0 = cq_J g (x + 36) s) (ok : ¬ (t = 0 ∧ cq_A h a 11 = none)) : lkC (nxI (cNew t (cq_I h e 11) (cq_I h a 17)).toNat (chC t (cq_J h a 6) (cq_J h a 10) (f_common (cq_J h w 0) (cq_J h e 9)))) = m_okey g x s t := by
  rw [pl_ch S R ht j0 ok, (pl_old S R ht).2]
  unfold m_okey
  rw [chn_nx]
  rfl
theorem pl_ok (S : SR0 x a s h g) (R : ER x e b l h g) {w : Nat} {t kf : Int} (j0 : cq_J h w 0 = cq_J g (x + 36) s) (et : t = m_tn g x s) (ek : kf = if m_keptAt g x s = -2 then -1 else m_keptAt g x s) : plOK h a e (a + 1) (a + 4) t kf (lkC (nxI (cNew t (cq_I h e 11) (cq_I h a 17)).toNat (chC t (cq_J h a 6) (cq_J h a 10) (f_common (cq_J h w 0) (cq_J h e 9))))) ↔ m_openA g x l s = 0 := by
  have ht : t = 0 ∨ t = 1 := by rw [et]; exact tn_01
  have kr : m_keptAt g x s = -2 ∨ (0 ≤ m_keptAt g x s ∧ m_keptAt g x s < 0 + ((cq_I g (x + 53) s).toNat : Int)) := by unfold m_keptAt; exact m_ka_rg
  have k20 := S.k20
  have ol := pl_old S R ht
  have key := pl_key S R ht j0
  have nr := S.nr
  have pl := R.pl
  have km := S.km
  have hr := S.hr
  unfold plOK m_openA csOK m_oA
  rw [← et, ol.1, ol.2]
  rcases kr with z | z
  · have ek1 : kf = -1 := by rw [ek, if_pos z]
    rw [if_pos (by omega)]
    constructor
    · intro q
      rcases q with q | q
      · omega
      obtain ⟨_, ⟨q1, q2, q3, q4⟩, q5⟩ := q
      rw [pl, nr] at q2
      rw [km] at q4
      rw [← ol.2, key q1, pl_tg R] at q5
      rw [if_neg q2, if_neg (by omega), if_neg (fun w => q1 ⟨w.1, hr.mpr w.2⟩)]
      exact q5
    · intro q
      by_cases c1 : t = 0 ∧ cq_I g x 81 < cq_I g (x + 41) s
      · rw [if_pos c1] at q; exact absurd q (by decide)
      rw [if_neg c1] at q
      by_cases c2 : 10 < m_bef g x s t + m_beh g x s t ∨ 20 < cq_I g (x + 53) s + m_bef g x s t + m_beh g x s t
      · rw [if_pos c2] at q; exact absurd q (by decide)
      rw [if_neg c2] at q
      by_cases c3 : t = 0 ∧ cq_I g (x + 35) s = 0
      · rw [if_pos c3] at q; exact absurd q (by decide)
      rw [if_neg c3] at q
      have ok : ¬ (t = 0 ∧ cq_A h a 11 = none) := fun w => c3 ⟨w.1, hr.mp w.2⟩
      refine Or.inr ⟨ek1, ⟨ok, by rw [pl, nr]; exact c1, by omega, by rw [km]; omega⟩, ?_⟩
      rw [← ol.2, key ok, pl_tg R]
      exact q
  · have ek1 : kf = m_keptAt g x s := by rw [ek, if_neg (by omega)]
    have q3 := (S.kk (m_keptAt g x s) z.1 (by omega)).2.2
    rw [if_neg (by omega), ek1, q3, pl_tg R]
    constructor
    · intro q
      rcases q with q | q
      · exact q.2
      · omega
    · intro q
      exact Or.inl ⟨z.1, q⟩
end
