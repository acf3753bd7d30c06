/-! 3 has the order 256204778801521550 modulo 2305843009213693951 -/
noncomputable def w_pm (n : Nat) : Nat → Nat := Nat.rec (motive := fun _ => Nat → Nat) (fun _ => nat_lit 1) (fun _ r e => Nat.mod (Nat.mul (Nat.mul (r (Nat.div e (nat_lit 2))) (r (Nat.div e (nat_lit 2)))) (cond (Nat.beq (Nat.mod e (nat_lit 2)) (nat_lit 1)) (nat_lit 3) (nat_lit 1))) (nat_lit 2305843009213693951)) n
theorem wo_sq (a c p : Nat) : (a % p) * (a % p) * c % p = a * a * c % p := by
  rw [Nat.mul_mod ((a % p) * (a % p)) c p, ← Nat.mul_mod a a p, ← Nat.mul_mod]
theorem wo_pm : ∀ (n e : Nat), e < 2 ^ n → w_pm n e = 3 ^ e % 2305843009213693951 := by
  intro n
  induction n with
  | zero =>
    intro e q
    have : e = 0 := by omega
    rw [this]
    rfl
  | succ n ih =>
    intro e q
    have e1 : w_pm (n + 1) e = (w_pm n (e / 2) * w_pm n (e / 2) * cond (Nat.beq (e % 2) 1) 3 1) % 2305843009213693951 := rfl
    have q2 : e / 2 < 2 ^ n := by
      rw [Nat.pow_succ] at q
      omega
    rw [e1, ih (e / 2) q2, wo_sq, ← Nat.pow_add]
    by_cases z : e % 2 = 1
    · have e2 : cond (Nat.beq (e % 2) 1) 3 1 = 3 := by rw [z]; rfl
      rw [e2, ← Nat.pow_succ]
      exact congrArg (fun k => 3 ^ k % 2305843009213693951) (by omega)
    · have e0 : e % 2 = 0 := by omega
      have e2 : cond (Nat.beq (e % 2) 1) 3 1 = 1 := by rw [e0]; rfl
      rw [e2, Nat.mul_one]
      exact congrArg (fun k => 3 ^ k % 2305843009213693951) (by omega)
def w_un (k : Nat) : Prop := 3 ^ k % 2305843009213693951 = 1
theorem wu_mul {k : Nat} (h : w_un k) (m : Nat) : w_un (k * m) := by
  unfold w_un at h ⊢
  rw [Nat.pow_mul, Nat.pow_mod, h, Nat.one_pow]
theorem wu_add {a b : Nat} (h : w_un a) (q : w_un (a + b)) : w_un b := by
  unfold w_un at h q ⊢
  rw [Nat.pow_add, Nat.mul_mod, h, Nat.one_mul, Nat.mod_mod] at q
  exact q
theorem wu_mod {a b : Nat} (ha : w_un a) (hb : w_un b) : w_un (b % a) := by
  refine wu_add (a := a * (b / a)) (wu_mul ha _) ?_
  rw [Nat.div_add_mod]
  exact hb
theorem wu_gcd (a b : Nat) : w_un a → w_un b → w_un (Nat.gcd a b) := by
  refine Nat.gcd.induction (P := fun a b => w_un a → w_un b → w_un (Nat.gcd a b)) a b (fun n _ q => ?_) (fun m n _ ih hm hn => ?_)
  · rw [Nat.gcd_zero_left]
    exact q
  · rw [Nat.gcd_rec]
    exact ih (wu_mod hm hn) hm
theorem wu_ord : w_un 256204778801521550 := by
  unfold w_un
  rw [← wo_pm 61 256204778801521550 (by decide)]
  decide +kernel
theorem wu_c {c c' M k : Nat} (e : c * M = 256204778801521550) (hd : ∀ d, d ∣ c → d = c ∨ d ∣ c') (hn : ¬ w_un (c' * M)) (hk : w_un k) : c ∣ k := by
  have g := wu_gcd (k * M) (c * M) (wu_mul hk M) (by rw [e]; exact wu_ord)
  rw [Nat.gcd_mul_right] at g
  rcases hd _ (Nat.gcd_dvd_right k c) with q | q
  · have := Nat.gcd_dvd_left k c
    rw [q] at this
    exact this
  · obtain ⟨t, et⟩ := q
    refine absurd ?_ hn
    rw [et, Nat.mul_right_comm]
    exact wu_mul g t
/-- the divisors of a small number -/
noncomputable def w_dv (c c' n : Nat) : Bool := Nat.rec true (fun d r => and (or (or (Nat.beq (Nat.succ d) c) (Nat.beq (Nat.mod c' (Nat.succ d)) (nat_lit 0))) (cond (Nat.beq (Nat.mod c (Nat.succ d)) (nat_lit 0)) false true)) r) n
theorem wu_dv {c c' : Nat} : ∀ n, w_dv c c' n = true → ∀ d, d < n → (d + 1) ∣ c → d + 1 = c ∨ (d + 1) ∣ c' := by
  intro n
  induction n with
  | zero =>
    intro _ d q
    exact absurd q (Nat.not_lt_zero d)
  | succ n ih =>
    intro h d q w
    have e : w_dv c c' (n + 1) = and (or (or (Nat.beq (n + 1) c) (Nat.beq (c' % (n + 1)) 0)) (cond (Nat.beq (c % (n + 1)) 0) false true)) (w_dv c c' n) := rfl
    rw [e] at h
    obtain ⟨h1, h2⟩ := wz_a h
    by_cases z : d < n
    · exact ih h2 d z w
    · have : d = n := by omega
      subst this
      rw [Nat.mod_eq_zero_of_dvd w, Bool.or_eq_true, Bool.or_eq_true] at h1
      rcases h1 with (a | a) | a
      · exact Or.inl (Nat.eq_of_beq_eq_true a)
      · exact Or.inr (Nat.dvd_of_mod_eq_zero (Nat.eq_of_beq_eq_true a))
      · exact absurd (show false = true from a) (by decide)
theorem wu_d {c c' : Nat} (h0 : 0 < c) (h : w_dv c c' c = true) : ∀ d, d ∣ c → d = c ∨ d ∣ c' := by
  intro d w
  have le := Nat.le_of_dvd h0 w
  cases d with
  | zero =>
    rw [Nat.eq_zero_of_zero_dvd w] at h0
    exact absurd h0 (Nat.lt_irrefl 0)
  | succ d => exact wu_dv c h d (by omega) w
theorem wu_n2 : ¬ w_un (1 * 128102389400760775) := by
  unfold w_un
  rw [show 1 * 128102389400760775 = 128102389400760775 from rfl, ← wo_pm 61 128102389400760775 (by decide)]
  decide +kernel
theorem wu_k2 {k : Nat} (hk : w_un k) : 2 ∣ k := wu_c (c := 2) (c' := 1) (M := 128102389400760775) (by decide) (wu_d (by decide) (by decide +kernel)) wu_n2 hk
theorem wu_n25 : ¬ w_un (5 * 10248191152060862) := by
  unfold w_un
  rw [show 5 * 10248191152060862 = 51240955760304310 from rfl, ← wo_pm 61 51240955760304310 (by decide)]
  decide +kernel
theorem wu_k25 {k : Nat} (hk : w_un k) : 25 ∣ k := wu_c (c := 25) (c' := 5) (M := 10248191152060862) (by decide) (wu_d (by decide) (by decide +kernel)) wu_n25 hk
theorem wu_n7 : ¬ w_un (1 * 36600682685931650) := by
  unfold w_un
  rw [show 1 * 36600682685931650 = 36600682685931650 from rfl, ← wo_pm 61 36600682685931650 (by decide)]
  decide +kernel
theorem wu_k7 {k : Nat} (hk : w_un k) : 7 ∣ k := wu_c (c := 7) (c' := 1) (M := 36600682685931650) (by decide) (wu_d (by decide) (by decide +kernel)) wu_n7 hk
theorem wu_n11 : ¬ w_un (1 * 23291343527411050) := by
  unfold w_un
  rw [show 1 * 23291343527411050 = 23291343527411050 from rfl, ← wo_pm 61 23291343527411050 (by decide)]
  decide +kernel
theorem wu_k11 {k : Nat} (hk : w_un k) : 11 ∣ k := wu_c (c := 11) (c' := 1) (M := 23291343527411050) (by decide) (wu_d (by decide) (by decide +kernel)) wu_n11 hk
theorem wu_n13 : ¬ w_un (1 * 19708059907809350) := by
  unfold w_un
  rw [show 1 * 19708059907809350 = 19708059907809350 from rfl, ← wo_pm 61 19708059907809350 (by decide)]
  decide +kernel
theorem wu_k13 {k : Nat} (hk : w_un k) : 13 ∣ k := wu_c (c := 13) (c' := 1) (M := 19708059907809350) (by decide) (wu_d (by decide) (by decide +kernel)) wu_n13 hk
theorem wu_n31 : ¬ w_un (1 * 8264670283920050) := by
  unfold w_un
  rw [show 1 * 8264670283920050 = 8264670283920050 from rfl, ← wo_pm 61 8264670283920050 (by decide)]
  decide +kernel
theorem wu_k31 {k : Nat} (hk : w_un k) : 31 ∣ k := wu_c (c := 31) (c' := 1) (M := 8264670283920050) (by decide) (wu_d (by decide) (by decide +kernel)) wu_n31 hk
theorem wu_n41 : ¬ w_un (1 * 6248897043939550) := by
  unfold w_un
  rw [show 1 * 6248897043939550 = 6248897043939550 from rfl, ← wo_pm 61 6248897043939550 (by decide)]
  decide +kernel
theorem wu_k41 {k : Nat} (hk : w_un k) : 41 ∣ k := wu_c (c := 41) (c' := 1) (M := 6248897043939550) (by decide) (wu_d (by decide) (by decide +kernel)) wu_n41 hk
theorem wu_n61 : ¬ w_un (1 * 4200078341008550) := by
  unfold w_un
  rw [show 1 * 4200078341008550 = 4200078341008550 from rfl, ← wo_pm 61 4200078341008550 (by decide)]
  decide +kernel
theorem wu_k61 {k : Nat} (hk : w_un k) : 61 ∣ k := wu_c (c := 61) (c' := 1) (M := 4200078341008550) (by decide) (wu_d (by decide) (by decide +kernel)) wu_n61 hk
theorem wu_n151 : ¬ w_un (1 * 1696720389414050) := by
  unfold w_un
  rw [show 1 * 1696720389414050 = 1696720389414050 from rfl, ← wo_pm 61 1696720389414050 (by decide)]
  decide +kernel
theorem wu_k151 {k : Nat} (hk : w_un k) : 151 ∣ k := wu_c (c := 151) (c' := 1) (M := 1696720389414050) (by decide) (wu_d (by decide) (by decide +kernel)) wu_n151 hk
theorem wu_n331 : ¬ w_un (1 * 774032564355050) := by
  unfold w_un
  rw [show 1 * 774032564355050 = 774032564355050 from rfl, ← wo_pm 61 774032564355050 (by decide)]
  decide +kernel
theorem wu_k331 {k : Nat} (hk : w_un k) : 331 ∣ k := wu_c (c := 331) (c' := 1) (M := 774032564355050) (by decide) (wu_d (by decide) (by decide +kernel)) wu_n331 hk
theorem wu_n1321 : ¬ w_un (1 * 193947599395550) := by
  unfold w_un
  rw [show 1 * 193947599395550 = 193947599395550 from rfl, ← wo_pm 61 193947599395550 (by decide)]
  decide +kernel
theorem wu_k1321 {k : Nat} (hk : w_un k) : 1321 ∣ k := wu_c (c := 1321) (c' := 1) (M := 193947599395550) (by decide) (wu_d (by decide) (by decide +kernel)) wu_n1321 hk
theorem wu_all {k : Nat} (hk : w_un k) : 256204778801521550 ∣ k := by
  have d0 : 2 ∣ k := wu_k2 hk
  have d1 : 2 * 25 ∣ k := Nat.Coprime.mul_dvd_of_dvd_of_dvd (by decide : Nat.gcd 2 25 = 1) d0 (wu_k25 hk)
  rw [show 2 * 25 = 50 from rfl] at d1
  have d2 : 50 * 7 ∣ k := Nat.Coprime.mul_dvd_of_dvd_of_dvd (by decide : Nat.gcd 50 7 = 1) d1 (wu_k7 hk)
  rw [show 50 * 7 = 350 from rfl] at d2
  have d3 : 350 * 11 ∣ k := Nat.Coprime.mul_dvd_of_dvd_of_dvd (by decide : Nat.gcd 350 11 = 1) d2 (wu_k11 hk)
  rw [show 350 * 11 = 3850 from rfl] at d3
  have d4 : 3850 * 13 ∣ k := Nat.Coprime.mul_dvd_of_dvd_of_dvd (by decide : Nat.gcd 3850 13 = 1) d3 (wu_k13 hk)
  rw [show 3850 * 13 = 50050 from rfl] at d4
  have d5 : 50050 * 31 ∣ k := Nat.Coprime.mul_dvd_of_dvd_of_dvd (by decide : Nat.gcd 50050 31 = 1) d4 (wu_k31 hk)
  rw [show 50050 * 31 = 1551550 from rfl] at d5
  have d6 : 1551550 * 41 ∣ k := Nat.Coprime.mul_dvd_of_dvd_of_dvd (by decide : Nat.gcd 1551550 41 = 1) d5 (wu_k41 hk)
  rw [show 1551550 * 41 = 63613550 from rfl] at d6
  have d7 : 63613550 * 61 ∣ k := Nat.Coprime.mul_dvd_of_dvd_of_dvd (by decide : Nat.gcd 63613550 61 = 1) d6 (wu_k61 hk)
  rw [show 63613550 * 61 = 3880426550 from rfl] at d7
  have d8 : 3880426550 * 151 ∣ k := Nat.Coprime.mul_dvd_of_dvd_of_dvd (by decide : Nat.gcd 3880426550 151 = 1) d7 (wu_k151 hk)
  rw [show 3880426550 * 151 = 585944409050 from rfl] at d8
  have d9 : 585944409050 * 331 ∣ k := Nat.Coprime.mul_dvd_of_dvd_of_dvd (by decide : Nat.gcd 585944409050 331 = 1) d8 (wu_k331 hk)
  rw [show 585944409050 * 331 = 193947599395550 from rfl] at d9
  have d10 : 193947599395550 * 1321 ∣ k := Nat.Coprime.mul_dvd_of_dvd_of_dvd (by decide : Nat.gcd 193947599395550 1321 = 1) d9 (wu_k1321 hk)
  exact d10
theorem wu_eq {a b : Nat} (h : 3 ^ a % 2305843009213693951 = 3 ^ (a + b) % 2305843009213693951) : w_un b := by
  have e : w_un (256204778801521550 * a) := wu_mul wu_ord a
  have e1 : 256204778801521550 * a = 256204778801521549 * a + a := by omega
  have q : w_un (256204778801521550 * a + b) := by
    have : 3 ^ (256204778801521549 * a) * 3 ^ (a + b) % 2305843009213693951 = 1 := by
      rw [Nat.mul_mod, ← h, ← Nat.mul_mod, ← Nat.pow_add, ← e1]
      exact e
    unfold w_un
    rw [← Nat.pow_add] at this
    rw [e1, Nat.add_assoc]
    exact this
  exact wu_add e q
theorem wu_int {a b : Nat} (h : 3 ^ a % 2305843009213693951 = 3 ^ b % 2305843009213693951) : ∃ z : Int, (a : Int) - (b : Int) = 256204778801521550 * z := by
  by_cases q : a ≤ b
  · obtain ⟨t, et⟩ := wu_all (wu_eq (a := a) (b := b - a) (by rw [show a + (b - a) = b by omega]; exact h))
    exact ⟨-(t : Int), by omega⟩
  · obtain ⟨t, et⟩ := wu_all (wu_eq (a := b) (b := a - b) (by rw [show b + (a - b) = a by omega]; exact h.symm))
    exact ⟨(t : Int), by omega⟩
