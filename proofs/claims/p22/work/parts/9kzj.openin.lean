/-! class and reference side by side: openIn -/
section
variable {x e b : Nat} {l : Int} {h h' g : cx_Q} {P : Nat → Prop}
theorem ER.ex (R : ER x e b l h g) (ex : evx P h h') (p0 : ¬ P e) (p1 : ¬ P b) : ER x e b l h' g := by
  have eI := ex.I R.s0 rfl p0
  have eJ := ex.J R.s0 (by decide) p0
  have eA := ex.A R.s0 rfl p0
  have bI := ex.I R.sb rfl p1
  have bz := (ex.1 b (by rw [R.sb]; decide)).2
  exact ⟨ex.s R.s0 (by decide), ex.s R.sb (by decide), by rw [eA]; exact R.eb, by rw [bz]; exact R.zb, by rw [bI]; exact R.bb, R.i77, by rw [eI]; exact R.bg, by rw [eI]; exact R.fr, by rw [eI]; exact R.tt, by rw [eI, eJ]; exact R.nb, by rw [eJ]; exact R.op, by rw [eI]; exact R.pn, by rw [eI]; exact R.pl, by rw [eI]; exact R.tl, by rw [eI]; exact R.ta, R.tz, R.t1, by rw [eJ]; exact R.sm, by rw [eJ]; exact R.tg⟩
theorem ER.ox {a d : Nat} (R : ER x e b l h g) (o : ox a d h h') (sa : cq_s h a = 3) (sd : cq_s h d = 175) : ER x e b l h' g := by
  have s0 := R.s0
  have sb := R.sb
  refine R.ex (P := fun q => q = a ∨ q = d) ⟨fun q _ => ⟨by rw [o.2.1], by rw [o.2.2.1]⟩, fun q w => o.2.2.2.2.2 q (fun z => by rw [z, sa] at w; exact absurd w (by decide)) (fun z => by rw [z, sd] at w; exact absurd w (by decide)), fun q w z => ⟨o.2.2.2.2.2 q (fun y => z (Or.inl y)) (fun y => z (Or.inr y)), fun _ => o.2.2.2.2.1 q (fun y => z (Or.inl y)), fun _ => by rw [o.2.2.2.1]⟩⟩ ?_ ?_
  · intro z
    rcases z with z | z
    · rw [z, sa] at s0; exact absurd s0 (by decide)
    · rw [z, sd] at s0; exact absurd s0 (by decide)
  · intro z
    rcases z with z | z
    · rw [z, sa] at sb; exact absurd sb (by decide)
    · rw [z, sd] at sb; exact absurd sb (by decide)
end
/-- the key with which a letter is opened -/
def m_oky (g : cx_Q) (x : Nat) (s : Int) : Int64 := if m_keptAt g x s < 0 then m_okey g x s (m_tn g x s) else cq_J g (x + 56) (20 * s + m_keptAt g x s)
section
variable {Y : cx_Y} {K : Option cx_V → cx_Q → Prop} {c x : Nat} {n L Z : Int} {E : Nat → Option Int} {h0 : cx_Q} {h g g' : cx_Q} {pe : Int → Nat} {ro : Int → Int → Nat} {pa lb tp rd en op ob : Nat} {T Lf : Int → Nat}
/-- what openIn leaves, when it opened -/
def OI (c x : Nat) (n : Int) (pe : Int → Nat) (ro : Int → Int → Nat) (pa lb tp rd en op ob : Nat) (T Lf : Int → Nat) (b : Nat) (l u v i s : Int) (g h' : cx_Q) : Prop := FX c x n pe ro pa lb tp rd en op ob T Lf h' (m_front (bk x g (m_openQ g x u s)) x (6 * u + v) i) ∧ ER x en b l h' g ∧ cq_J h' op 7 = m_oky g x s
theorem E4_of (H : CI c n L Z E h0 [] h) (hE4 : ∀ d, d ≠ c → cq_s h0 d ≠ 4 → cq_s h0 d ≠ 1 → E d ≠ none) {d k : Nat} (s : cq_s h d = k) (k4 : k ≠ 4) (k9 : k ≠ 9) (k1 : k ≠ 1 := by decide) : E d ≠ none := hE4 d (fun e => k9 (by rw [← s, e]; exact H.cs)) (fun q => k4 (by rw [← s, (H.ct.1 d (by rw [q]; decide)).1]; exact q)) (fun q => k1 (by rw [← s, (H.ct.1 d (by rw [q]; decide)).1]; exact q))
/-- sorts, lengths, references and SECRETS are as they were, but for the envelope -/
def dq (h h' : cx_Q) : Prop := cq_s h' = cq_s h ∧ cq_z h' = cq_z h ∧ (∀ d, cq_s h d ≠ 0 → cq_A h' d = cq_A h d) ∧ ∀ d, cq_s h d = 6 → cq_J h' d = cq_J h d
/-- a SESSION in which was opened: a its cell -/
def OX (x : Nat) (u s : Int) (g : cx_Q) (a : Nat) (h h' : cx_Q) : Prop := et h h' ∧ (cq_s h a = 7 ∧ cq_s h (a + 1) = 1) ∧ (∀ d, cq_s h d = 7 → d ≠ a → cq_A h' d = cq_A h d) ∧ ∃ b3, cq_A h (a + 1) 3 = some b3 ∧ cq_s h b3 = 174 ∧
  ((0 ≤ m_keptAt g x s ∧ cq_A h' a = cq_A h a ∧ e4 h h' b3 (fun r => if r = cq_I g (x + 53) s - 1 then none else shT (cq_A h b3) (m_keptAt g x s) (cq_I g (x + 53) s - 1) r))
  ∨ (m_keptAt g x s < 0 ∧ m_tn g x s = 0 ∧ cq_A h' a = cq_A h a ∧ e4 h h' b3 (kpG (cq_A h b3) (cq_I g (x + 53) s) (cq_I g x 81 - cq_I g (x + 41) s) (fun _ => cq_A h a 11)))
  ∨ (m_keptAt g x s < 0 ∧ m_tn g x s = 1 ∧ ∃ q q2 t r w o, soT h (cq_J g x 79) o ∧ (cq_A h a 7 = some r ∧ cq_A h a 12 = some w) ∧ (cq_A h' a 7 = some q2 ∧ cq_A h' a 9 = some q2 ∧ cq_A h' a 11 = some q ∧ cq_A h' a 12 = some t ∧ cq_A h' a 14 = o) ∧ tq h h' r (some w) o q ∧ (tq h h' q (some t) o q2 ∧ cq_s h q2 = 99) ∧ (cq_s h t = 99 ∧ cq_s h' t = 6 ∧ cq_J h' t 1 = dO (cq_J g (x + 1) u) (cq_I g (x + 12) u)) ∧ e4 h h' b3 (kpG (kpG (cq_A h b3) (cq_I g (x + 53) s) (m_bef g x s 1) (fun _ => cq_A h a 11)) (cq_I g (x + 53) s + m_bef g x s 1) (cq_I g x 81) (fun _ => some q))))
theorem OX.w {u s : Int} {a : Nat} {h1 h' : cx_Q} (O : OX x u s g a h h1) (w : et h1 h') (eJ : ∀ d, cq_s h1 d = 6 → cq_J h' d = cq_J h1 d) (eA : ∀ d, cq_s h1 d = 7 ∨ cq_s h1 d = 174 → cq_A h' d = cq_A h1 d) : OX x u s g a h h' := by
  obtain ⟨o1, o2, o3, b3, o4, o5, o6⟩ := O
  have s_ : ∀ {d q : Nat}, cq_s h d = q → q ≠ 99 → cq_s h1 d = q := fun {d q} y z => (o1.1 d (by rw [y]; exact z)).1.trans y
  have ea := eA a (Or.inl (s_ o2.1 (by decide)))
  have e4_ : ∀ {f : Int → Option Nat}, e4 h h1 b3 f → e4 h h' b3 f := fun {f} y d sd => (eA d (Or.inr (s_ sd (by decide)))).trans (y d sd)
  refine ⟨o1.trans w, o2, fun d sd nd => (eA d (Or.inl (s_ sd (by decide)))).trans (o3 d sd nd), b3, o4, o5, ?_⟩
  rcases o6 with ⟨y1, y2, y3⟩ | ⟨y1, y2, y3, y4⟩ | ⟨y1, y2, q, q2, t, r, w_, o, y3, y4, y5, y6, y7, y8, y9⟩
  · exact Or.inl ⟨y1, ea.trans y2, e4_ y3⟩
  · exact Or.inr (Or.inl ⟨y1, y2, ea.trans y3, e4_ y4⟩)
  · exact Or.inr (Or.inr ⟨y1, y2, q, q2, t, r, w_, o, y3, y4, by rw [ea]; exact y5, y6.w w, ⟨y7.1.w w, y7.2⟩, ⟨y8.1, (w.1 t (by rw [y8.2.1]; decide)).1.trans y8.2.1, by rw [eJ t y8.2.1]; exact y8.2.2⟩, e4_ y9⟩)
/-- another memory ahead, that tells the same -/
theorem OX.hh {u s : Int} {a : Nat} {h1 h' : cx_Q} (q : dq h h1) (O : OX x u s g a h1 h') : OX x u s g a h h' := by
  obtain ⟨es, ez, eA, eJ⟩ := q
  obtain ⟨o1, o2, o3, b3, o4, o5, o6⟩ := O
  have s_ : ∀ {d k : Nat}, cq_s h1 d = k → cq_s h d = k := fun {d k} y => by rw [← es]; exact y
  have A_ : ∀ {d k : Nat}, cq_s h d = k → k ≠ 0 → cq_A h1 d = cq_A h d := fun {d k} y z => eA d (by rw [y]; exact z)
  have e4_ : ∀ {f : Int → Option Nat}, e4 h1 h' b3 f → e4 h h' b3 f := fun {f} y d sd => by
    have := y d (by rw [es]; exact sd)
    rw [A_ sd (by decide)] at this
    exact this
  refine ⟨⟨fun d w => ?_, fun d j w w2 => ?_, fun d w => ?_⟩, ⟨s_ o2.1, s_ o2.2⟩, fun d sd nd => ?_, b3, by rw [← A_ (s_ o2.2) (by decide)]; exact o4, s_ o5, ?_⟩
  · have := o1.1 d (by rw [es]; exact w)
    rw [es, ez] at this
    exact this
  · have := o1.2.1 d j (by rw [es]; exact w) w2
    rw [A_ w (by decide)] at this
    exact this
  · have := o1.2.2 d (by rw [es]; exact w)
    rw [A_ w (by decide)] at this
    exact this
  · have := o3 d (by rw [es]; exact sd) nd
    rw [A_ sd (by decide)] at this
    exact this
  · rw [A_ (s_ o2.1) (by decide), A_ (s_ o5) (by decide)] at o6
    rcases o6 with ⟨y1, y2, y3⟩ | ⟨y1, y2, y3, y4⟩ | ⟨y1, y2, q, q2, t, r, w_, o, y3, y4, y5, y6, y7, y8, y9⟩
    · exact Or.inl ⟨y1, y2, e4_ y3⟩
    · exact Or.inr (Or.inl ⟨y1, y2, y3, e4_ y4⟩)
    · refine Or.inr (Or.inr ⟨y1, y2, q, q2, t, r, w_, o, ?_, y4, y5, y6.h (by rw [es]), ⟨y7.1.h (by rw [es]), s_ y7.2⟩, ⟨s_ y8.1, y8.2⟩, e4_ y9⟩)
      rcases y3 with ⟨z1, z2⟩ | ⟨w', z1, z2, z3⟩
      · exact Or.inl ⟨z1, fun d sd => by rw [← eJ d sd]; exact z2 d (by rw [es]; exact sd)⟩
      · exact Or.inr ⟨w', z1, s_ z2, by rw [← eJ w' (s_ z2)]; exact z3⟩
/-- carried out with a KEPT key -/
theorem oi_1 {b : Nat} {u v i0 s l : Int} {m : cx_Q} (F : FX c x n pe ro pa lb tp rd en op ob T Lf h g) (R : ER x en b l h g) (hu : 0 ≤ u ∧ u < n) (hv : 0 ≤ v ∧ v < n) (hi : 0 ≤ i0 ∧ i0 < cq_I g (x + 30) (6 * u + v)) (es : cq_I g (x + 29) (4 * (6 * u + v) + i0) = s) (kr : 0 ≤ m_keptAt g x s ∧ m_keptAt g x s < cq_I g (x + 53) s) (e : ew (kdr (cq_sI h (T s) 5 0) (T s + 1) (T s + 2) (T s + 3) (T s + 4) (m_keptAt g x s) (cq_I h (T s + 1) 4 - 1) (cq_I h (T s + 1) 4 - 1)) m) : FX c x n pe ro pa lb tp rd en op ob T Lf m (bk x g (m_openQ g x u s)) ∧ evx (fun a => scl (T s) a ∨ a = pe u) h m := by
  have sr := (F.fo u v hu.1 hu.2 hv.1 hv.2).ss i0 hi.1 hi.2
  rw [es] at sr
  have k20 := sr.k20
  have eq_ : m_openQ g x u s = m_openK g x s (m_keptAt g x s) (cq_J g (x + 56) (20 * s + m_keptAt g x s)) := by
    unfold m_openQ
    rw [if_neg (by omega)]
  obtain ⟨q1, q2, q3⟩ := open1_q (x := x) (s := s) (u := u) (g := g) (k := cq_J g (x + 56) (20 * s + m_keptAt g x s)) kr k20.2
  rw [eq_]
  exact fx_open1 F hu hv hi es q1 q2 q3 kr e
/-- on the chain -/
theorem oi_2 {b : Nat} {u v i0 s l : Int} {w : Int64} {r : Int → Int64} {m : cx_Q} (F : FX c x n pe ro pa lb tp rd en op ob T Lf h g) (R : ER x en b l h g) (hu : 0 ≤ u ∧ u < n) (hv : 0 ≤ v ∧ v < n) (hi : 0 ≤ i0 ∧ i0 < cq_I g (x + 30) (6 * u + v)) (es : cq_I g (x + 29) (4 * (6 * u + v) + i0) = s) (kr : m_keptAt g x s < 0) (t0 : m_tn g x s = 0) (hm : 0 ≤ cq_I g x 81 - cq_I g (x + 41) s ∧ cq_I g (x + 53) s + (cq_I g x 81 - cq_I g (x + 41) s) ≤ 20) (h35 : cq_I g (x + 35) s ≠ 0) (ew9 : w = nxI ((cq_I g x 81 - cq_I g (x + 41) s).toNat + 1) (cq_J g (x + 34) s)) (er : ∀ i, 0 ≤ i → i < cq_I g x 81 - cq_I g (x + 41) s → r i = lkC (nxI i.toNat (cq_J g (x + 34) s))) (e : ew (coR (kpW (cq_sI h (T s) 5 0) (T s + 1) (T s + 2) (T s + 3) (T s + 4) (cq_I h (T s + 1) 4) (cq_I g x 81 - cq_I g (x + 41) s) (cq_J h (T s) 13) (cq_I h (T s) 17) r) (T s) w (cq_I g x 81 + 1)) m) : FX c x n pe ro pa lb tp rd en op ob T Lf m (bk x g (m_openQ g x u s)) ∧ evx (fun a => scl (T s) a ∨ a = pe u) h m := by
  have sr := (F.fo u v hu.1 hu.2 hv.1 hv.2).ss i0 hi.1 hi.2
  rw [es] at sr
  have k20 := sr.k20
  have eq_ : m_openQ g x u s = m_oEnd g x s (m_okey g x s 0) := by
    unfold m_openQ m_oT
    rw [if_pos kr, t0, if_neg (by decide)]
  obtain ⟨q1, q2, q3⟩ := oEnd_q (x := x) (s := s) (u := u) (g := g) (k := m_okey g x s 0) ⟨k20.1, hm.1, hm.2⟩
  rw [eq_]
  exact fx_open2 F hu hv hi es q1 q2 q3 hm h35 (by omega) ew9 er e
/-- behind a TURN -/
theorem oi_3 {b t q q2 : Nat} {u v i0 s l : Int} {v6 : Int64} {o : Option Nat} {r1 r2 : Int → Int64} {m : cx_Q} (F : FX c x n pe ro pa lb tp rd en op ob T Lf h g) (R : ER x en b l h g) (hu : 0 ≤ u ∧ u < n) (hv : 0 ≤ v ∧ v < n) (hi : 0 ≤ i0 ∧ i0 < cq_I g (x + 30) (6 * u + v)) (es : cq_I g (x + 29) (4 * (6 * u + v) + i0) = s) (kr : m_keptAt g x s < 0) (t1 : m_tn g x s = 1) (hm : 0 ≤ m_bef g x s 1 ∧ 0 ≤ cq_I g x 81 ∧ cq_I g (x + 53) s + m_bef g x s 1 + cq_I g x 81 ≤ 20) (e6 : v6 = nxI ((cq_I g x 81).toNat + 1) (m_ch0 g x s 1)) (er1 : ∀ i, 0 ≤ i → i < m_bef g x s 1 → r1 i = lkC (nxI i.toNat (cq_J g (x + 34) s))) (er2 : ∀ i, 0 ≤ i → i < cq_I g x 81 → r2 i = lkC (nxI i.toNat (m_ch0 g x s 1)))
    (e : ew (tsW (coD (coR (kpW (trW (kpW (cq_sI h (T s) 5 0) (T s + 1) (T s + 2) (T s + 3) (T s + 4) (cq_I h (T s + 1) 4) (m_bef g x s 1) (cq_J h (T s) 13) (cq_I h (T s) 17) r1) (T s) q (cq_I h (T s) 16) (cq_J g x 79) (f_key 1 (cq_J g (x + 31) s) (m_com g x s 1)) o) (T s + 1) (T s + 2) (T s + 3) (T s + 4) (cq_I h (T s + 1) 4 + m_bef g x s 1) (cq_I g x 81) (cq_J g x 79) 0 r2) (T s) v6 (cq_I g x 81 + 1)) (pe u) t (cq_I g (x + 12) u)) (T s) t q2 (f_key 1 (cq_J g (x + 31) s) (m_com g x s 1)) (f_common (dV (cq_J g (x + 1) u) (cq_I g (x + 12) u)) (cq_J g x 79))) m) (st : cq_s m t = 6) (jt0 : cq_J m t 0 = dV (cq_J g (x + 1) u) (cq_I g (x + 12) u)) (jt1 : cq_J m t 1 = dO (cq_J g (x + 1) u) (cq_I g (x + 12) u)) : FX c x n pe ro pa lb tp rd en op ob T Lf m (bk x g (m_openQ g x u s)) ∧ evx (fun a => scl (T s) a ∨ a = pe u) h m := by
  have sr := (F.fo u v hu.1 hu.2 hv.1 hv.2).ss i0 hi.1 hi.2
  rw [es] at sr
  have k20 := sr.k20
  have eq_ : m_openQ g x u s = m_oEnd (m_oT g x u s 1) x s (m_okey g x s 1) := by
    unfold m_openQ
    rw [if_pos kr, t1]
  have ch : m_ch0 g x s 1 = f_key 2 (cq_J g (x + 31) s) (m_com g x s 1) := by
    unfold m_ch0
    rw [if_pos (by decide)]
  rw [ch] at e6 er2
  obtain ⟨q1, q2', q3⟩ := open3_q (x := x) (s := s) (u := u) (g := g) (k := m_okey g x s 1) ⟨k20.1, hm.1, hm.2.1, hm.2.2⟩
  rw [eq_]
  exact fx_open3 F hu hv hi es q1 q2' q3 ⟨hm.1, hm.2.1, hm.2.2⟩ rfl e6 er1 er2 e st jt0 jt1
end
