/-! turns and terms: what the class's turns know beside the reference's terms -/
section
variable {x : Nat} {g g' : cx_Q}
theorem tm_fun {t s a b c d s' a' b' c' d' : Int} (p : tmT x g t s a b c d) (q : tmT x g t s' a' b' c' d') : s = s' ∧ a = a' ∧ b = b' ∧ c = c' ∧ d = d' := ⟨p.2.1.symm.trans q.2.1, p.2.2.1.symm.trans q.2.2.1, p.2.2.2.1.symm.trans q.2.2.2.1, p.2.2.2.2.1.symm.trans q.2.2.2.2.1, p.2.2.2.2.2.symm.trans q.2.2.2.2.2⟩
theorem tm_inj (W : TW x g) {t t' s a b c d : Int} (p : tmT x g t s a b c d) (q : tmT x g t' s a b c d) (hs : s ≠ 1) : t = t' := W.1 t t' p.1.1 p.1.2 q.1.1 q.1.2 (by rw [p.2.1]; exact hs) (p.2.1.trans q.2.1.symm) (p.2.2.1.trans q.2.2.1.symm) (p.2.2.2.1.trans q.2.2.2.1.symm) (p.2.2.2.2.1.trans q.2.2.2.2.1.symm) (p.2.2.2.2.2.trans q.2.2.2.2.2.symm)
theorem cm_sym {k a b : Int} (p : cmT x g k a b) : cmT x g k b a := by
  unfold cmT at p ⊢
  by_cases l : a < b
  · rw [if_pos l, if_pos l] at p
    rw [if_neg (by omega), if_neg (by omega)]
    exact p
  · rw [if_neg l, if_neg l] at p
    by_cases l' : b < a
    · rw [if_pos l', if_pos l']
      exact p
    · have e : a = b := by omega
      rw [if_neg l', if_neg l', e]
      rw [e] at p
      exact p
theorem cm_fun {k a b a' b' : Int} (p : cmT x g k a b) (q : cmT x g k a' b') : (a = a' ∧ b = b') ∨ (a = b' ∧ b = a') := by
  unfold cmT at p q
  obtain ⟨_, e1, e2, _⟩ := tm_fun p q
  by_cases l : a < b
  · rw [if_pos l] at e1 e2
    by_cases l' : a' < b'
    · rw [if_pos l'] at e1 e2
      exact Or.inl ⟨e1, e2⟩
    · rw [if_neg l'] at e1 e2
      exact Or.inr ⟨e1, e2⟩
  · rw [if_neg l] at e1 e2
    by_cases l' : a' < b'
    · rw [if_pos l'] at e1 e2
      exact Or.inr ⟨e2, e1⟩
    · rw [if_neg l'] at e1 e2
      exact Or.inl ⟨e2, e1⟩
theorem cm_inj (W : TW x g) {k k' a b : Int} (p : cmT x g k a b) (q : cmT x g k' a b) : k = k' := tm_inj W p q (by decide)
theorem cm_pos {k a b : Int} (p : cmT x g k a b) : 1 ≤ k := p.1.1
theorem nx_fun (W : TW x g) {c : Int} : ∀ {n : Nat} {t t' : Int}, nx x g c n t → nx x g c n t' → t = t'
  | 0, _, _, p, q => (show _ = c from p).trans (show _ = c from q).symm
  | n + 1, t, t', ⟨a, p1, p2⟩, ⟨b, q1, q2⟩ => by
    rw [nx_fun W p1 q1] at p2
    exact tm_inj W p2 q2 (by decide)
/-- chains do not meet -/
theorem nx_inj {c c' : Int} (hc : cq_I g (x + 2) c = 5) (hc' : cq_I g (x + 2) c' = 5) : ∀ {n n' : Nat} {t : Int}, nx x g c n t → nx x g c' n' t → n = n' ∧ c = c'
  | 0, 0, t, p, q => ⟨rfl, (show t = c from p).symm.trans (show t = c' from q)⟩
  | 0, n' + 1, t, p, ⟨b, q1, q2⟩ => by
    have e : t = c := p
    have := q2.2.1
    rw [e, hc] at this
    exact absurd this (by decide)
  | n + 1, 0, t, ⟨a, p1, p2⟩, q => by
    have e : t = c' := q
    have := p2.2.1
    rw [e, hc'] at this
    exact absurd this (by decide)
  | n + 1, n' + 1, t, ⟨a, p1, p2⟩, ⟨b, q1, q2⟩ => by
    obtain ⟨_, e, _⟩ := tm_fun p2 q2
    rw [← e] at q1
    obtain ⟨e1, e2⟩ := nx_inj hc hc' p1 q1
    exact ⟨by rw [e1], e2⟩
theorem nx_sort {c : Int} (hc : cq_I g (x + 2) c = 5) : ∀ {n : Nat} {t : Int}, nx x g c n t → cq_I g (x + 2) t = 5 ∨ cq_I g (x + 2) t = 6
  | 0, t, p => by
    have e : t = c := p
    rw [e]
    exact Or.inl hc
  | n + 1, t, ⟨a, p1, p2⟩ => Or.inr p2.2.1
theorem kx_fun (W : TW x g) {c : Int} {n : Nat} {t t' : Int} (p : kx x g c n t) (q : kx x g c n t') : t = t' := by
  obtain ⟨a, p1, p2⟩ := p
  obtain ⟨b, q1, q2⟩ := q
  rw [nx_fun W p1 q1] at p2
  exact tm_inj W p2 q2 (by decide)
theorem kx_inj {c c' : Int} (hc : cq_I g (x + 2) c = 5) (hc' : cq_I g (x + 2) c' = 5) {n n' : Nat} {t : Int} (p : kx x g c n t) (q : kx x g c' n' t) : n = n' ∧ c = c' := by
  obtain ⟨a, p1, p2⟩ := p
  obtain ⟨b, q1, q2⟩ := q
  obtain ⟨_, e, _⟩ := tm_fun p2 q2
  rw [← e] at q1
  exact nx_inj hc hc' p1 q1
end
/-- a term that was got -/
def zG (x : Nat) (g : cx_Q) (t : Int) : Prop := cq_I g (x + 7) t ≠ 0
/-- the term of a PUBLIC number, 0 of none -/
def zS (x : Nat) (g : cx_Q) (w : Int64) (t : Int) : Prop := sO x g (cq_I g x 10) w t
/-- the term of a SECRET's cell -/
def zV (x : Nat) (h g : cx_Q) (o : Option Nat) (t : Int) : Prop := (o = none ∧ t = 0) ∨ ∃ w, o = some w ∧ cq_s h w = 6 ∧ zS x g (cq_J h w 1) t
/-- the COMMON of a pair -/
def zP (x : Nat) (h g : cx_Q) (kd : Int → Nat) (o1 o2 : Option Nat) (k : Int) : Prop := ∃ t1 t2, zV x h g o1 t1 ∧ cmT x g k t1 t2 ∧ (zV x h g o2 t2 ∨ (o2 = none ∧ o1 ≠ none ∧ (t2 = t1 ∨ kd t2 = 1)))
/-- a first ROOT -/
def zF (x : Nat) (h g : cx_Q) (kd : Int → Nat) (r : Nat) (t : Int) : Prop := ∃ ta tb tc td, zP x h g kd (cq_A h r 0) (cq_A h r 1) ta ∧ zP x h g kd (cq_A h r 2) (cq_A h r 3) tb ∧ zP x h g kd (cq_A h r 4) (cq_A h r 5) tc ∧ ((cq_z h r = 6 ∧ td = 0) ∨ (cq_z h r = 8 ∧ zP x h g kd (cq_A h r 6) (cq_A h r 7) td)) ∧ tmT x g t 3 ta tb tc td
/-- a ROOT and a chain of a pair -/
def zQ (x : Nat) (h g : cx_Q) (kd : Int → Nat) (r : Nat) (b tR tC : Int) : Prop := cq_z h r = 2 ∧ ∃ k, zP x h g kd (cq_A h r 0) (cq_A h r 1) k ∧ tmT x g tR 4 b k 0 0 ∧ tmT x g tC 5 b k 0 0
/-- a SECRET of a kind -/
def zK (x : Nat) (h g : cx_Q) (kd : Int → Nat) (o : Option Nat) (n : Nat) : Prop := ∃ w t, o = some w ∧ cq_s h w = 6 ∧ zS x g (cq_J h w 1) t ∧ kd t = n
/-- the pairs of a first ROOT that was BEGUN -/
def zB (x : Nat) (h g : cx_Q) (kd : Int → Nat) (r : Nat) : Prop := (zK x h g kd (cq_A h r 0) 2 ∧ zK x h g kd (cq_A h r 2) 1 ∧ zK x h g kd (cq_A h r 3) 2) ∧ (cq_A h r 4 = cq_A h r 2 ∧ cq_A h r 5 = cq_A h r 1) ∧ (cq_z h r = 8 → cq_A h r 6 = cq_A h r 2 ∧ zK x h g kd (cq_A h r 7) 4)
def zTn (x nt : Nat) (dom : Nat → Prop) (rt ct : Nat → Int) (dp : Nat → Nat) (kd : Int → Nat) (h g : cx_Q) (a : Nat) : Prop := cq_s h a = 8 ∧ a ≠ nt ∧ ∃ b r, cq_A h a 0 = some b ∧ cq_A h a 1 = some r ∧ cq_s h r = 101 ∧ ((b = nt ∧ dp a = 1 ∧ zF x h g kd r (rt a)) ∨ (dom b ∧ dp a = dp b + 1 ∧ zQ x h g kd r (rt b) (rt a) (ct a)))
/-- a SENDING turn -/
def zD (x nt : Nat) (dom : Nat → Prop) (kd : Int → Nat) (h g : cx_Q) (a : Nat) : Prop := ∃ r b, cq_A h a 1 = some r ∧ zK x h g kd (cq_A h r 0) 5 ∧ cq_A h a 0 = some b ∧ dom b ∧ ∀ rb, cq_A h b 0 = some nt → cq_A h b 1 = some rb → zB x h g kd rb
/-- SECRETS and turns beside terms -/
def TB (c x nt : Nat) (dom sd : Nat → Prop) (rt ct : Nat → Int) (dp : Nat → Nat) (kd : Int → Nat) (m : Nat) (h g : cx_Q) : Prop := (TW x g) ∧ (∀ k, 0 ≤ k → k < cq_I g x 10 → tmT x g (cq_I g (x + 10) k) 1 0 0 0 0) ∧ (∀ k k', 0 ≤ k → k < cq_I g x 10 → 0 ≤ k' → k' < cq_I g x 10 → cq_I g (x + 10) k = cq_I g (x + 10) k' → k = k') ∧ (∀ k k', 0 ≤ k → k < cq_I g x 10 → 0 ≤ k' → k' < cq_I g x 10 → cq_J g (x + 9) k = cq_J g (x + 9) k' → k = k') ∧ (∀ k, 0 ≤ k → k < cq_I g x 10 → ∃ w, cq_s h w = 6 ∧ cq_J h w 1 = cq_J g (x + 9) k) ∧ (∀ w w', cq_s h w = 6 → cq_s h w' = 6 → cq_J h w 1 = cq_J h w' 1 → w = w') ∧ (∀ w t, cq_s h w = 6 → zS x g (cq_J h w 1) t → (cq_I h w 3 ≠ 0 ↔ (0 < t ∧ zG x g t))) ∧ (∀ t, kd t = 1 → tmT x g t 1 0 0 0 0 ∧ ¬ zG x g t) ∧ (∀ t, kd t ≠ 0 → t < cq_I g x 2) ∧ (∀ t, 1 ≤ t → t < cq_I g x 2 → zG x g t → cq_I g (x + 2) t ≠ 2 ∧ cq_I g (x + 2) t ≠ 3 ∧ (cq_I g (x + 2) t = 4 → ∃ a, sd a ∧ rt a = t)) ∧ (cq_A h c 14 = some nt ∧ cq_s h nt = 8 ∧ cq_A h nt 0 = none ∧ cq_I h nt 4 ≠ 0) ∧ (∀ a, dom a → zTn x nt dom rt ct dp kd h g a) ∧ (∀ a b, sd a → dom b → rt b = rt a → b = a) ∧ (∀ a, sd a → dom a ∧ zD x nt dom kd h g a) ∧ (∀ a, dom a → (cq_I h a 4 ≠ 0 ↔ zG x g (rt a))) ∧ (∀ a (j : Nat), sd a → j < 1000000 → (cq_I h a 5 ≤ j ↔ ∃ i t, i ≤ j ∧ nx x g (ct a) i t ∧ zG x g t)) ∧ (∀ a (j : Nat), sd a → j < 80 → (cq_I h (a + 1) j ≠ 0 ↔ ∃ t, kx x g (ct a) j t ∧ zG x g t)) ∧ (∀ a, cq_s h a = 8 → ¬ dom a → a ≠ nt → cq_I h a 4 = 0 ∧ cq_I h a 5 = 1000000 ∧ (cq_A h a 0 ≠ none → ∀ j, cq_I h (a + 1) j = 0)) ∧ (∀ a a' r r', sd a → sd a' → cq_A h a 1 = some r → cq_A h a' 1 = some r' → cq_A h r 0 = cq_A h r' 0 → a = a') ∧ (∀ a, dom a → dp a ≤ m)
theorem TB.tw {c x nt : Nat} {dom sd : Nat → Prop} {rt ct : Nat → Int} {dp : Nat → Nat} {kd : Int → Nat} {m : Nat} {h g : cx_Q} (F_ : TB c x nt dom sd rt ct dp kd m h g) : TW x g := F_.1
theorem TB.o1 {c x nt : Nat} {dom sd : Nat → Prop} {rt ct : Nat → Int} {dp : Nat → Nat} {kd : Int → Nat} {m : Nat} {h g : cx_Q} (F_ : TB c x nt dom sd rt ct dp kd m h g) : ∀ k, 0 ≤ k → k < cq_I g x 10 → tmT x g (cq_I g (x + 10) k) 1 0 0 0 0 := F_.2.1
theorem TB.o2 {c x nt : Nat} {dom sd : Nat → Prop} {rt ct : Nat → Int} {dp : Nat → Nat} {kd : Int → Nat} {m : Nat} {h g : cx_Q} (F_ : TB c x nt dom sd rt ct dp kd m h g) : ∀ k k', 0 ≤ k → k < cq_I g x 10 → 0 ≤ k' → k' < cq_I g x 10 → cq_I g (x + 10) k = cq_I g (x + 10) k' → k = k' := F_.2.2.1
theorem TB.o3 {c x nt : Nat} {dom sd : Nat → Prop} {rt ct : Nat → Int} {dp : Nat → Nat} {kd : Int → Nat} {m : Nat} {h g : cx_Q} (F_ : TB c x nt dom sd rt ct dp kd m h g) : ∀ k k', 0 ≤ k → k < cq_I g x 10 → 0 ≤ k' → k' < cq_I g x 10 → cq_J g (x + 9) k = cq_J g (x + 9) k' → k = k' := F_.2.2.2.1
theorem TB.o4 {c x nt : Nat} {dom sd : Nat → Prop} {rt ct : Nat → Int} {dp : Nat → Nat} {kd : Int → Nat} {m : Nat} {h g : cx_Q} (F_ : TB c x nt dom sd rt ct dp kd m h g) : ∀ k, 0 ≤ k → k < cq_I g x 10 → ∃ w, cq_s h w = 6 ∧ cq_J h w 1 = cq_J g (x + 9) k := F_.2.2.2.2.1
theorem TB.u1 {c x nt : Nat} {dom sd : Nat → Prop} {rt ct : Nat → Int} {dp : Nat → Nat} {kd : Int → Nat} {m : Nat} {h g : cx_Q} (F_ : TB c x nt dom sd rt ct dp kd m h g) : ∀ w w', cq_s h w = 6 → cq_s h w' = 6 → cq_J h w 1 = cq_J h w' 1 → w = w' := F_.2.2.2.2.2.1
theorem TB.s1 {c x nt : Nat} {dom sd : Nat → Prop} {rt ct : Nat → Int} {dp : Nat → Nat} {kd : Int → Nat} {m : Nat} {h g : cx_Q} (F_ : TB c x nt dom sd rt ct dp kd m h g) : ∀ w t, cq_s h w = 6 → zS x g (cq_J h w 1) t → (cq_I h w 3 ≠ 0 ↔ (0 < t ∧ zG x g t)) := F_.2.2.2.2.2.2.1
theorem TB.k1 {c x nt : Nat} {dom sd : Nat → Prop} {rt ct : Nat → Int} {dp : Nat → Nat} {kd : Int → Nat} {m : Nat} {h g : cx_Q} (F_ : TB c x nt dom sd rt ct dp kd m h g) : ∀ t, kd t = 1 → tmT x g t 1 0 0 0 0 ∧ ¬ zG x g t := F_.2.2.2.2.2.2.2.1
theorem TB.k2 {c x nt : Nat} {dom sd : Nat → Prop} {rt ct : Nat → Int} {dp : Nat → Nat} {kd : Int → Nat} {m : Nat} {h g : cx_Q} (F_ : TB c x nt dom sd rt ct dp kd m h g) : ∀ t, kd t ≠ 0 → t < cq_I g x 2 := F_.2.2.2.2.2.2.2.2.1
theorem TB.g1 {c x nt : Nat} {dom sd : Nat → Prop} {rt ct : Nat → Int} {dp : Nat → Nat} {kd : Int → Nat} {m : Nat} {h g : cx_Q} (F_ : TB c x nt dom sd rt ct dp kd m h g) : ∀ t, 1 ≤ t → t < cq_I g x 2 → zG x g t → cq_I g (x + 2) t ≠ 2 ∧ cq_I g (x + 2) t ≠ 3 ∧ (cq_I g (x + 2) t = 4 → ∃ a, sd a ∧ rt a = t) := F_.2.2.2.2.2.2.2.2.2.1
theorem TB.t0 {c x nt : Nat} {dom sd : Nat → Prop} {rt ct : Nat → Int} {dp : Nat → Nat} {kd : Int → Nat} {m : Nat} {h g : cx_Q} (F_ : TB c x nt dom sd rt ct dp kd m h g) : cq_A h c 14 = some nt ∧ cq_s h nt = 8 ∧ cq_A h nt 0 = none ∧ cq_I h nt 4 ≠ 0 := F_.2.2.2.2.2.2.2.2.2.2.1
theorem TB.t1 {c x nt : Nat} {dom sd : Nat → Prop} {rt ct : Nat → Int} {dp : Nat → Nat} {kd : Int → Nat} {m : Nat} {h g : cx_Q} (F_ : TB c x nt dom sd rt ct dp kd m h g) : ∀ a, dom a → zTn x nt dom rt ct dp kd h g a := F_.2.2.2.2.2.2.2.2.2.2.2.1
theorem TB.t2 {c x nt : Nat} {dom sd : Nat → Prop} {rt ct : Nat → Int} {dp : Nat → Nat} {kd : Int → Nat} {m : Nat} {h g : cx_Q} (F_ : TB c x nt dom sd rt ct dp kd m h g) : ∀ a b, sd a → dom b → rt b = rt a → b = a := F_.2.2.2.2.2.2.2.2.2.2.2.2.1
theorem TB.t3 {c x nt : Nat} {dom sd : Nat → Prop} {rt ct : Nat → Int} {dp : Nat → Nat} {kd : Int → Nat} {m : Nat} {h g : cx_Q} (F_ : TB c x nt dom sd rt ct dp kd m h g) : ∀ a, sd a → dom a ∧ zD x nt dom kd h g a := F_.2.2.2.2.2.2.2.2.2.2.2.2.2.1
theorem TB.t4 {c x nt : Nat} {dom sd : Nat → Prop} {rt ct : Nat → Int} {dp : Nat → Nat} {kd : Int → Nat} {m : Nat} {h g : cx_Q} (F_ : TB c x nt dom sd rt ct dp kd m h g) : ∀ a, dom a → (cq_I h a 4 ≠ 0 ↔ zG x g (rt a)) := F_.2.2.2.2.2.2.2.2.2.2.2.2.2.2.1
theorem TB.t5 {c x nt : Nat} {dom sd : Nat → Prop} {rt ct : Nat → Int} {dp : Nat → Nat} {kd : Int → Nat} {m : Nat} {h g : cx_Q} (F_ : TB c x nt dom sd rt ct dp kd m h g) : ∀ a (j : Nat), sd a → j < 1000000 → (cq_I h a 5 ≤ j ↔ ∃ i t, i ≤ j ∧ nx x g (ct a) i t ∧ zG x g t) := F_.2.2.2.2.2.2.2.2.2.2.2.2.2.2.2.1
theorem TB.t6 {c x nt : Nat} {dom sd : Nat → Prop} {rt ct : Nat → Int} {dp : Nat → Nat} {kd : Int → Nat} {m : Nat} {h g : cx_Q} (F_ : TB c x nt dom sd rt ct dp kd m h g) : ∀ a (j : Nat), sd a → j < 80 → (cq_I h (a + 1) j ≠ 0 ↔ ∃ t, kx x g (ct a) j t ∧ zG x g t) := F_.2.2.2.2.2.2.2.2.2.2.2.2.2.2.2.2.1
theorem TB.t7 {c x nt : Nat} {dom sd : Nat → Prop} {rt ct : Nat → Int} {dp : Nat → Nat} {kd : Int → Nat} {m : Nat} {h g : cx_Q} (F_ : TB c x nt dom sd rt ct dp kd m h g) : ∀ a, cq_s h a = 8 → ¬ dom a → a ≠ nt → cq_I h a 4 = 0 ∧ cq_I h a 5 = 1000000 ∧ (cq_A h a 0 ≠ none → ∀ j, cq_I h (a + 1) j = 0) := F_.2.2.2.2.2.2.2.2.2.2.2.2.2.2.2.2.2.1
theorem TB.t8 {c x nt : Nat} {dom sd : Nat → Prop} {rt ct : Nat → Int} {dp : Nat → Nat} {kd : Int → Nat} {m : Nat} {h g : cx_Q} (F_ : TB c x nt dom sd rt ct dp kd m h g) : ∀ a a' r r', sd a → sd a' → cq_A h a 1 = some r → cq_A h a' 1 = some r' → cq_A h r 0 = cq_A h r' 0 → a = a' := F_.2.2.2.2.2.2.2.2.2.2.2.2.2.2.2.2.2.2.1
theorem TB.d1 {c x nt : Nat} {dom sd : Nat → Prop} {rt ct : Nat → Int} {dp : Nat → Nat} {kd : Int → Nat} {m : Nat} {h g : cx_Q} (F_ : TB c x nt dom sd rt ct dp kd m h g) : ∀ a, dom a → dp a ≤ m := F_.2.2.2.2.2.2.2.2.2.2.2.2.2.2.2.2.2.2.2
section
variable {c x nt : Nat} {dom sd : Nat → Prop} {rt ct : Nat → Int} {dp : Nat → Nat} {kd : Int → Nat} {m : Nat} {h g : cx_Q}
theorem TB.sfun (B : TB c x nt dom sd rt ct dp kd m h g) {w : Int64} {t t' : Int} (p : zS x g w t) (q : zS x g w t') : t = t' := by
  rcases p with ⟨k, p1, p2, p3, p4⟩ | ⟨p1, p2⟩
  · rcases q with ⟨k', q1, q2, q3, q4⟩ | ⟨q1, q2⟩
    · have e := B.o3 k k' p1 p2 q1 q2 (p3.trans q3.symm)
      rw [← p4, ← q4, e]
    · exact absurd p3 (q2 k p1 p2)
  · rcases q with ⟨k', q1, q2, q3, q4⟩ | ⟨q1, q2⟩
    · exact absurd q3 (p2 k' q1 q2)
    · rw [p1, q1]
theorem TB.sinj (B : TB c x nt dom sd rt ct dp kd m h g) {w w' : Int64} {t : Int} (p : zS x g w t) (q : zS x g w' t) (n0 : t ≠ 0) : w = w' := by
  rcases p with ⟨k, p1, p2, p3, p4⟩ | ⟨p1, p2⟩
  · rcases q with ⟨k', q1, q2, q3, q4⟩ | ⟨q1, q2⟩
    · have e := B.o2 k k' p1 p2 q1 q2 (p4.trans q4.symm)
      rw [← p3, ← q3, e]
    · exact absurd q1 n0
  · exact absurd p1 n0
theorem TB.srg (B : TB c x nt dom sd rt ct dp kd m h g) {w : Int64} {t : Int} (p : zS x g w t) : t = 0 ∨ tmT x g t 1 0 0 0 0 := by
  rcases p with ⟨k, p1, p2, p3, p4⟩ | ⟨p1, p2⟩
  · rw [← p4]
    exact Or.inr (B.o1 k p1 p2)
  · exact Or.inl p1
theorem zS_ex {w : Int64} : ∃ t, zS x g w t := by
  by_cases z : ∃ k, 0 ≤ k ∧ k < cq_I g x 10 ∧ cq_J g (x + 9) k = w
  · obtain ⟨k, z1, z2, z3⟩ := z
    exact ⟨_, Or.inl ⟨k, z1, z2, z3, rfl⟩⟩
  · exact ⟨0, Or.inr ⟨rfl, fun k k0 k1 e => z ⟨k, k0, k1, e⟩⟩⟩
theorem TB.vfun (B : TB c x nt dom sd rt ct dp kd m h g) {o : Option Nat} {t t' : Int} (p : zV x h g o t) (q : zV x h g o t') : t = t' := by
  rcases p with ⟨p1, p2⟩ | ⟨w, p1, p2, p3⟩
  · rcases q with ⟨q1, q2⟩ | ⟨w', q1, q2, q3⟩
    · rw [p2, q2]
    · rw [p1] at q1; cases q1
  · rcases q with ⟨q1, q2⟩ | ⟨w', q1, q2, q3⟩
    · rw [p1] at q1; cases q1
    · rw [p1] at q1
      cases q1
      exact B.sfun p3 q3
theorem TB.vinj (B : TB c x nt dom sd rt ct dp kd m h g) {o o' : Option Nat} {t : Int} (p : zV x h g o t) (q : zV x h g o' t) (n0 : t ≠ 0) : o = o' := by
  rcases p with ⟨p1, p2⟩ | ⟨w, p1, p2, p3⟩
  · exact absurd p2 n0
  · rcases q with ⟨q1, q2⟩ | ⟨w', q1, q2, q3⟩
    · exact absurd q2 n0
    · rw [p1, q1, B.u1 w w' p2 q2 (B.sinj p3 q3 n0)]
theorem TB.vrg (B : TB c x nt dom sd rt ct dp kd m h g) {o : Option Nat} {t : Int} (p : zV x h g o t) : t = 0 ∨ tmT x g t 1 0 0 0 0 := by
  rcases p with ⟨p1, p2⟩ | ⟨w, p1, p2, p3⟩
  · exact Or.inl p2
  · exact B.srg p3
/-- whether a SECRET was got -/
theorem TB.vgot (B : TB c x nt dom sd rt ct dp kd m h g) {o : Option Nat} {t : Int} (p : zV x h g o t) : goS h o ↔ (0 < t ∧ zG x g t) := by
  rcases p with ⟨p1, p2⟩ | ⟨w, p1, p2, p3⟩
  · refine ⟨fun z => ?_, fun z => ?_⟩
    · obtain ⟨w, z1, _⟩ := z
      rw [p1] at z1; cases z1
    · rw [p2] at z
      exact absurd z.1 (by decide)
  · refine (Iff.trans ⟨fun z => ?_, fun z => ⟨w, p1, z⟩⟩ (B.s1 w t p2 p3))
    obtain ⟨w', z1, z2⟩ := z
    rw [p1] at z1
    cases z1
    exact z2
end
/-! what one who LOOKED knows -/
section
variable {c x nt : Nat} {dom sd : Nat → Prop} {rt ct : Nat → Int} {dp : Nat → Nat} {kd : Int → Nat} {m : Nat} {h g : cx_Q} {f : Int → Prop}
theorem kn_sec (hf : ∀ t, 1 ≤ t → t < cq_I g x 2 → (f t ↔ cq_I g (x + 7) t ≠ 0 ∨ fol x g f t)) {t : Int} (p : tmT x g t 1 0 0 0 0) : f t ↔ zG x g t := by
  rw [hf t p.1.1 p.1.2]
  refine ⟨fun z => z.elim id (fun y => ?_), Or.inl⟩
  have s := p.2.1
  unfold fol at y
  omega
theorem TB.k_com (B : TB c x nt dom sd rt ct dp kd m h g) (hf : ∀ t, 1 ≤ t → t < cq_I g x 2 → (f t ↔ cq_I g (x + 7) t ≠ 0 ∨ fol x g f t)) {o1 o2 : Option Nat} {k : Int} (p : zP x h g kd o1 o2 k) : f k ↔ goS h o1 ∨ goS h o2 := by
  obtain ⟨t1, t2, p1, p2, p3⟩ := p
  have r1 := B.vrg p1
  have r2 : t2 = 0 ∨ tmT x g t2 1 0 0 0 0 := by
    rcases p3 with p3 | ⟨_, _, p3⟩
    · exact B.vrg p3
    · rcases p3 with p3 | p3
      · rw [p3]; exact r1
      · exact Or.inr (B.k1 t2 p3).1
  have e2 : (0 < t2 ∧ zG x g t2) ∨ goS h o1 ↔ goS h o2 ∨ goS h o1 := by
    rcases p3 with p3 | ⟨p4, _, p3⟩
    · rw [B.vgot p3]
    · have n2 : ¬ goS h o2 := fun z => by
        obtain ⟨w, z1, _⟩ := z
        rw [p4] at z1; cases z1
      rcases p3 with p3 | p3
      · rw [p3, ← B.vgot p1]
        exact ⟨fun z => Or.inr (z.elim id id), fun z => Or.inr (z.elim (fun y => absurd y n2) id)⟩
      · have := (B.k1 t2 p3).2
        exact ⟨fun z => Or.inr (z.elim (fun y => absurd y.2 this) id), fun z => Or.inr (z.elim (fun y => absurd y n2) id)⟩
  have fs : ∀ t, (t = 0 ∨ tmT x g t 1 0 0 0 0) → ((0 < t ∧ f t) ↔ (0 < t ∧ zG x g t)) := fun t r => by
    rcases r with r | r
    · rw [r]
      exact ⟨fun z => absurd z.1 (by decide), fun z => absurd z.1 (by decide)⟩
    · rw [kn_sec hf r]
  have e1 := B.vgot p1
  have st : cq_I g (x + 2) k = 2 := p2.2.1
  have ng : ¬ zG x g k := fun z => (B.g1 k p2.1.1 p2.1.2 z).1 st
  have key : f k ↔ (0 < t1 ∧ f t1) ∨ (0 < t2 ∧ f t2) := by
    rw [hf k p2.1.1 p2.1.2]
    have e3 := p2.2.2.1
    have e4 := p2.2.2.2.1
    refine ⟨fun z => ?_, fun z => Or.inr (Or.inl ⟨st, ?_⟩)⟩
    · rcases z with z | z
      · exact absurd z ng
      · unfold fol at z
        rcases z with ⟨_, z⟩ | ⟨z, _⟩ | ⟨z, _⟩ | ⟨z, _⟩
        · rw [e3, e4] at z
          by_cases l : t1 < t2
          · rw [if_pos l, if_pos l] at z
            exact z
          · rw [if_neg l, if_neg l] at z
            exact z.symm
        · omega
        · omega
        · omega
    · rw [e3, e4]
      by_cases l : t1 < t2
      · rw [if_pos l, if_pos l]
        exact z
      · rw [if_neg l, if_neg l]
        exact z.symm
  rw [key, fs t1 r1, fs t2 r2, ← e1]
  exact ⟨fun z => ((e2.mp z.symm)).symm, fun z => (e2.mpr z.symm).symm⟩
theorem hCm_2 {r : Nat} (z : cq_z h r = 2) : hCm h r ↔ goS h (cq_A h r 0) ∨ goS h (cq_A h r 1) := by
  refine ⟨fun q => q 0 (by decide) (by omega), fun q i i0 i1 => ?_⟩
  have e : i = 0 := by omega
  rw [e]
  exact q
theorem hCm_6 {r : Nat} (z : cq_z h r = 6) : hCm h r ↔ (goS h (cq_A h r 0) ∨ goS h (cq_A h r 1)) ∧ (goS h (cq_A h r 2) ∨ goS h (cq_A h r 3)) ∧ (goS h (cq_A h r 4) ∨ goS h (cq_A h r 5)) := by
  refine ⟨fun q => ⟨q 0 (by decide) (by omega), q 1 (by decide) (by omega), q 2 (by decide) (by omega)⟩, fun q i i0 i1 => ?_⟩
  have e : i = 0 ∨ i = 1 ∨ i = 2 := by omega
  rcases e with e | e | e <;> rw [e]
  · exact q.1
  · exact q.2.1
  · exact q.2.2
theorem hCm_8 {r : Nat} (z : cq_z h r = 8) : hCm h r ↔ (goS h (cq_A h r 0) ∨ goS h (cq_A h r 1)) ∧ (goS h (cq_A h r 2) ∨ goS h (cq_A h r 3)) ∧ (goS h (cq_A h r 4) ∨ goS h (cq_A h r 5)) ∧ (goS h (cq_A h r 6) ∨ goS h (cq_A h r 7)) := by
  refine ⟨fun q => ⟨q 0 (by decide) (by omega), q 1 (by decide) (by omega), q 2 (by decide) (by omega), q 3 (by decide) (by omega)⟩, fun q i i0 i1 => ?_⟩
  have e : i = 0 ∨ i = 1 ∨ i = 2 ∨ i = 3 := by omega
  rcases e with e | e | e | e <;> rw [e]
  · exact q.1
  · exact q.2.1
  · exact q.2.2.1
  · exact q.2.2.2
theorem TB.k_first (B : TB c x nt dom sd rt ct dp kd m h g) (hf : ∀ t, 1 ≤ t → t < cq_I g x 2 → (f t ↔ cq_I g (x + 7) t ≠ 0 ∨ fol x g f t)) {r : Nat} {t : Int} (p : zF x h g kd r t) : f t ↔ hCm h r := by
  obtain ⟨ta, tb, tc, td, p1, p2, p3, p4, p5⟩ := p
  have st : cq_I g (x + 2) t = 3 := p5.2.1
  have ng : ¬ zG x g t := fun z => (B.g1 t p5.1.1 p5.1.2 z).2.1 st
  have key : f t ↔ f ta ∧ f tb ∧ f tc ∧ (td = 0 ∨ f td) := by
    rw [hf t p5.1.1 p5.1.2]
    obtain ⟨_, _, e1, e2, e3, e4⟩ := p5
    refine ⟨fun z => ?_, fun z => Or.inr (Or.inr (Or.inl ⟨st, ?_⟩))⟩
    · rcases z with z | z
      · exact absurd z ng
      · unfold fol at z
        rcases z with ⟨z, _⟩ | ⟨_, z⟩ | ⟨z, _⟩ | ⟨z, _⟩
        · omega
        · rw [e1, e2, e3, e4] at z
          exact z
        · omega
        · omega
    · rw [e1, e2, e3, e4]
      exact z
  rw [key, B.k_com hf p1, B.k_com hf p2, B.k_com hf p3]
  rcases p4 with ⟨z, y⟩ | ⟨z, y⟩
  · rw [hCm_6 z]
    exact ⟨fun q => ⟨q.1, q.2.1, q.2.2.1⟩, fun q => ⟨q.1, q.2.1, q.2.2, Or.inl y⟩⟩
  · rw [hCm_8 z, B.k_com hf y]
    have pos : 1 ≤ td := by
      obtain ⟨_, _, _, y2, _⟩ := y
      exact cm_pos y2
    exact ⟨fun q => ⟨q.1, q.2.1, q.2.2.1, q.2.2.2.elim (fun w => by omega) id⟩, fun q => ⟨q.1, q.2.1, q.2.2.1, Or.inr q.2.2.2⟩⟩
/-- a ROOT is known: it was got, or it is worked out -/
theorem TB.k_root (B : TB c x nt dom sd rt ct dp kd m h g) (hf : ∀ t, 1 ≤ t → t < cq_I g x 2 → (f t ↔ cq_I g (x + 7) t ≠ 0 ∨ fol x g f t)) : ∀ (N a : Nat), dom a → dp a ≤ N → (f (rt a) ↔ cq_I h a 4 ≠ 0 ∨ wkD h N a) := by
  intro N
  induction N with
  | zero =>
    intro a da l
    obtain ⟨_, _, b, r, _, _, _, y⟩ := B.t1 a da
    rcases y with ⟨_, y, _⟩ | ⟨_, y, _⟩ <;> omega
  | succ N ih =>
    intro a da l
    have t4 := B.t4 a da
    obtain ⟨sa, na, b, r, e0, e1, sr, y⟩ := B.t1 a da
    have wk : wkD h (N + 1) a ↔ hCm h r ∧ (cq_I h b 4 ≠ 0 ∨ wkD h N b) := by
      refine ⟨fun z => ?_, fun z => ⟨b, r, e0, e1, z.1, z.2⟩⟩
      obtain ⟨b', r', z1, z2, z3, z4⟩ := z
      rw [e0] at z1
      rw [e1] at z2
      cases z1
      cases z2
      exact ⟨z3, z4⟩
    rcases y with ⟨y1, y2, y3⟩ | ⟨y1, y2, y3⟩
    · have ng : ¬ zG x g (rt a) := fun z => by
        obtain ⟨_, _, _, _, _, _, _, _, y5⟩ := y3
        exact (B.g1 _ y5.1.1 y5.1.2 z).2.1 y5.2.1
      rw [B.k_first hf y3, wk, t4]
      refine ⟨fun z => Or.inr ⟨z, Or.inl (by rw [y1]; exact B.t0.2.2.2)⟩, fun z => z.elim (fun w => absurd w ng) (fun w => w.1)⟩
    · obtain ⟨z2, k, z3, z4, z5⟩ := y3
      have key : f (rt a) ↔ zG x g (rt a) ∨ (f (rt b) ∧ f k) := by
        rw [hf _ z4.1.1 z4.1.2]
        obtain ⟨_, st, e1, e2, _⟩ := z4
        refine ⟨fun z => z.imp id (fun w => ?_), fun z => z.imp id (fun w => ?_)⟩
        · unfold fol at w
          rcases w with ⟨w, _⟩ | ⟨w, _⟩ | ⟨_, w⟩ | ⟨w, _⟩
          · omega
          · omega
          · rw [e1, e2] at w
            exact w
          · omega
        · refine Or.inr (Or.inr (Or.inl ⟨Or.inl st, ?_⟩))
          rw [e1, e2]
          exact w
      rw [key, B.k_com hf z3, ih b y1 (by omega), wk, hCm_2 z2, t4]
      exact ⟨fun q => q.imp id (fun w => ⟨w.2, w.1⟩), fun q => q.imp id (fun w => ⟨w.2, w.1⟩)⟩
/-- a chain is known from a step on, or its turn is worked out -/
theorem TB.k_next (B : TB c x nt dom sd rt ct dp kd m h g) (hf : ∀ t, 1 ≤ t → t < cq_I g x 2 → (f t ↔ cq_I g (x + 7) t ≠ 0 ∨ fol x g f t)) {a N : Nat} (da : dom a) (na : cq_A h a 0 ≠ some nt) (l : dp a ≤ N) : ∀ (j : Nat) (t : Int), nx x g (ct a) j t → (f t ↔ (∃ i t', i ≤ j ∧ nx x g (ct a) i t' ∧ zG x g t') ∨ wkD h N a) := by
  obtain ⟨sa, _, b, r, e0, e1, sr, y⟩ := B.t1 a da
  rcases y with ⟨y1, _⟩ | ⟨y1, y2, y3⟩
  · rw [e0, y1] at na
    exact absurd rfl na
  obtain ⟨z2, k, z3, z4, z5⟩ := y3
  obtain ⟨N', eN⟩ : ∃ N', N = N' + 1 := ⟨N - 1, by omega⟩
  have wk : wkD h N a ↔ hCm h r ∧ (cq_I h b 4 ≠ 0 ∨ wkD h N' b) := by
    rw [eN]
    refine ⟨fun z => ?_, fun z => ⟨b, r, e0, e1, z.1, z.2⟩⟩
    obtain ⟨b', r', z1, z2, z3, z4⟩ := z
    rw [e0] at z1
    rw [e1] at z2
    cases z1
    cases z2
    exact ⟨z3, z4⟩
  intro j
  induction j with
  | zero =>
    intro t p
    have e : t = ct a := p
    rw [e]
    have key : f (ct a) ↔ zG x g (ct a) ∨ (f (rt b) ∧ f k) := by
      rw [hf _ z5.1.1 z5.1.2]
      obtain ⟨_, st, e1, e2, _⟩ := z5
      refine ⟨fun z => z.imp id (fun w => ?_), fun z => z.imp id (fun w => ?_)⟩
      · unfold fol at w
        rcases w with ⟨w, _⟩ | ⟨w, _⟩ | ⟨_, w⟩ | ⟨w, _⟩
        · omega
        · omega
        · rw [e1, e2] at w
          exact w
        · omega
      · refine Or.inr (Or.inr (Or.inl ⟨Or.inr st, ?_⟩))
        rw [e1, e2]
        exact w
    rw [key, B.k_com hf z3, B.k_root hf N' b y1 (by omega), wk, hCm_2 z2]
    refine ⟨fun q => q.imp (fun w => ⟨0, ct a, Nat.le_refl _, rfl, w⟩) (fun w => ⟨w.2, w.1⟩), fun q => q.imp (fun w => ?_) (fun w => ⟨w.2, w.1⟩)⟩
    obtain ⟨i, t', w1, w2, w3⟩ := w
    have i0 : i = 0 := by omega
    rw [i0] at w2
    have : t' = ct a := w2
    rw [← this]
    exact w3
  | succ j ih =>
    intro t p
    obtain ⟨t0, p1, p2⟩ := p
    have key : f t ↔ zG x g t ∨ f t0 := by
      rw [hf _ p2.1.1 p2.1.2]
      obtain ⟨_, st, e1, _⟩ := p2
      refine ⟨fun z => z.imp id (fun w => ?_), fun z => z.imp id (fun w => ?_)⟩
      · unfold fol at w
        rcases w with ⟨w, _⟩ | ⟨w, _⟩ | ⟨w, _⟩ | ⟨_, w⟩
        · omega
        · omega
        · omega
        · rw [e1] at w
          exact w
      · refine Or.inr (Or.inr (Or.inr ⟨Or.inl st, ?_⟩))
        rw [e1]
        exact w
    rw [key, ih t0 p1]
    refine ⟨fun q => ?_, fun q => ?_⟩
    · rcases q with q | q | q
      · exact Or.inl ⟨j + 1, t, Nat.le_refl _, ⟨t0, p1, p2⟩, q⟩
      · obtain ⟨i, t', w1, w2, w3⟩ := q
        exact Or.inl ⟨i, t', by omega, w2, w3⟩
      · exact Or.inr q
    · rcases q with q | q
      · obtain ⟨i, t', w1, w2, w3⟩ := q
        by_cases z : i = j + 1
        · rw [z] at w2
          rw [nx_fun B.tw w2 ⟨t0, p1, p2⟩] at w3
          exact Or.inl w3
        · exact Or.inr (Or.inl ⟨i, t', by omega, w2, w3⟩)
      · exact Or.inr (Or.inr q)
/-- a letter's key is known where the class says so -/
theorem TB.k_key (B : TB c x nt dom sd rt ct dp kd m h g) (hf : ∀ t, 1 ≤ t → t < cq_I g x 2 → (f t ↔ cq_I g (x + 7) t ≠ 0 ∨ fol x g f t)) (hm : m ≤ 2000) {a : Nat} {j : Nat} {t : Int} (sa : sd a) (hj : j < 80) (p : kx x g (ct a) j t) : f t ↔ gvK h a j := by
  obtain ⟨da, r, b, e1, _, e0, db, _⟩ := B.t3 a sa
  have nb : b ≠ nt := (B.t1 b db).2.1
  have na : cq_A h a 0 ≠ some nt := fun z => by
    rw [e0] at z
    exact nb (Option.some.inj z)
  have l := B.d1 a da
  have t5 := B.t5 a j sa (by omega)
  have t6 := B.t6 a j sa hj
  have p' := p
  obtain ⟨t0, p1, p2⟩ := p
  have key : f t ↔ zG x g t ∨ f t0 := by
    rw [hf _ p2.1.1 p2.1.2]
    obtain ⟨_, st, e1, _⟩ := p2
    refine ⟨fun z => z.imp id (fun w => ?_), fun z => z.imp id (fun w => ?_)⟩
    · unfold fol at w
      rcases w with ⟨w, _⟩ | ⟨w, _⟩ | ⟨w, _⟩ | ⟨_, w⟩
      · omega
      · omega
      · omega
      · rw [e1] at w
        exact w
    · refine Or.inr (Or.inr (Or.inr ⟨Or.inr st, ?_⟩))
      rw [e1]
      exact w
  have k6 : (∃ t, kx x g (ct a) j t ∧ zG x g t) ↔ zG x g t := ⟨fun z => by
    obtain ⟨t', z1, z2⟩ := z
    rw [kx_fun B.tw z1 p'] at z2
    exact z2, fun z => ⟨t, p', z⟩⟩
  unfold gvK
  rw [key, B.k_next hf da na (N := 2000) (by omega) j t0 p1, ← t5, ← k6, ← t6]
  refine ⟨fun q => ?_, fun q => ?_⟩
  · rcases q with q | q | q
    · exact Or.inr (Or.inl ⟨by omega, by omega, q⟩)
    · exact Or.inl q
    · exact Or.inr (Or.inr q)
  · rcases q with q | q | q
    · exact Or.inr (Or.inl q)
    · exact Or.inl q.2.2
    · exact Or.inr (Or.inr q)
end
