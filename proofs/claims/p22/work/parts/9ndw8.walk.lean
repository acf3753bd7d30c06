/-! the walk: no two draws of neighbours have one PUBLIC number -/
theorem wz_v {a : Nat} (h : a < w_big) : w_2v a = w_v 2048 (fun k => a / 2 ^ (128 * k) % 2 ^ 128 % 18446744073709551616) := by
  unfold w_2v
  rw [w2_c]
  have e : a = w_v 2048 (fun k => a / 2 ^ (128 * k) % 2 ^ 128) := wv_of (n := 2048) h
  have e2 : Nat.land a (w_v 2048 (fun _ => nat_lit 18446744073709551615)) = Nat.land (w_v 2048 (fun k => a / 2 ^ (128 * k) % 2 ^ 128)) (w_v 2048 (fun _ => nat_lit 18446744073709551615)) := congrArg (fun z => Nat.land z (w_v 2048 (fun _ => nat_lit 18446744073709551615))) e
  rw [e2, wr_and (fun k q => Nat.mod_lt _ (Nat.two_pow_pos _)) (wl_c (by decide))]
  exact wv_congr (fun k _ => wm_64 _)
theorem wz_c {b x : Bool} (h : cond b false x = true) : b = false ∧ x = true := by
  cases b
  · exact ⟨rfl, h⟩
  · exact absurd (show false = true from h) (by decide)
theorem wz_a {x y : Bool} (h : and x y = true) : x = true ∧ y = true := by
  cases x
  · exact absurd (show false = true from h) (by decide)
  · exact ⟨rfl, h⟩
theorem wz_lt {a : Nat} (h : w_2 a = true) : a < w_big := by
  unfold w_2 at h
  have z := (wz_c h).1
  refine Nat.lt_of_not_le (fun w => ?_)
  rw [Nat.ble_eq_true_of_le w] at z
  exact absurd z (by decide)
theorem wz_2 {a d : Nat} (h : w_2 a = true) (d1 : 1 ≤ d) (d5 : d ≤ 5) : w_2t (w_2v a) d = true := by
  unfold w_2 at h
  have h1 := (wz_c h).2
  have h2 := (wz_a h1).2
  have h3 := (wz_a h2).2
  have h4 := (wz_a h3).2
  have : d = 1 ∨ d = 2 ∨ d = 3 ∨ d = 4 ∨ d = 5 := by omega
  rcases this with e | e | e | e | e
  · rw [e]; exact (wz_a h1).1
  · rw [e]; exact (wz_a h2).1
  · rw [e]; exact (wz_a h3).1
  · rw [e]; exact (wz_a h4).1
  · rw [e]; exact (wz_a h4).2
/-- one that was gathered -/
theorem wz_in {a S d i j : Nat} (h : w_2 a = true) (hS : w_in a (S + 1)) (hs : S + 1 < 18446744073709551616) (d1 : 1 ≤ d) (d5 : d ≤ 5) (i1 : 1 ≤ i) (i2 : i ≤ 141) (j1 : 1 ≤ j) (j2 : j ≤ 141) : ¬ w_eq S d i j := by
  intro w
  have lt := wz_lt h
  obtain ⟨k, ek⟩ := hS
  obtain ⟨n, y, v, e, v1, v2⟩ := wd_main w
  have hk : k < 2048 := by
    refine Nat.lt_of_not_le (fun q => ?_)
    have : a / 2 ^ (128 * k) = 0 := Nat.div_eq_of_lt (Nat.lt_of_lt_of_le lt (Nat.pow_le_pow_right (by decide) (Nat.mul_le_mul_left 128 q)))
    rw [this, Nat.zero_mod] at ek
    exact absurd ek.symm (Nat.succ_ne_zero S)
  have t := wz_2 h d1 d5
  rw [wz_v lt] at t
  have far := w2_t (fun k _ => Nat.mod_lt _ (by decide)) d5 t k hk (i - 1) (by omega)
  rw [ek, Nat.mod_eq_of_lt hs, show i - 1 + 1 = i by omega] at far
  unfold k_j at far
  rw [wd_h, wd_g e v1 v2 (by omega) (by omega)] at far
  exact absurd n (Nat.not_lt_of_le far)
/-- one that was far -/
theorem wz_ok {S d i j : Nat} (h : w_ok S) (d1 : 1 ≤ d) (d5 : d ≤ 5) (i1 : 1 ≤ i) (i2 : i ≤ 141) (j1 : 1 ≤ j) (j2 : j ≤ 141) : ¬ w_eq S d i j := by
  intro w
  obtain ⟨n, y, v, e, v1, v2⟩ := wd_main w
  rcases h d d1 d5 with q | q
  · exact wd_far1 e v1 v2 (by omega) (by omega) q
  · exact wd_far2 e v1 v2 (by omega) (by omega) q
set_option maxRecDepth 20000 in
theorem wz_g {g b t s k : Nat} (h : w_g g = true) (hg : g < 10000) (hb : b = g * 330) (hk : k < 165) (ht : t < 4096) (hs : s < 2) {d i j : Nat} (d1 : 1 ≤ d) (d5 : d ≤ 5) (i1 : 1 ≤ i) (i2 : i ≤ 141) (j1 : 1 ≤ j) (j2 : j ≤ 141) : ¬ w_eq ((b + 2 * k + s) * 4096 + t) d i j := by
  have e : w_g g = w_2 (w_gr 165 (g * 330) 0) := rfl
  have b1 : g * 330 + 2 * 165 < 2000000000 := by omega
  have b2 : (b + 2 * k + s) * 4096 + t + 1 < 18446744073709551616 := by omega
  rw [e] at h
  have lt := wz_lt h
  obtain ⟨_, i2'⟩ := wg_gr 165 (g * 330) 0 b1 lt
  rw [← hb] at h i2'
  cases z : Nat.testBit (w_F (b + 2 * k)) (128 * t + 30 + 32 * s) with
  | true => exact wz_ok (wx_ok ht hs z) d1 d5 i1 i2 j1 j2
  | false => exact wz_in h (i2' k hk t s ht hs z) b2 d1 d5 i1 i2 j1 j2
/-- of one user's own draws -/
noncomputable def w_oc (n : Nat) : Bool := Nat.rec true (fun m r => and (Nat.ble (nat_lit 4947802327041) (Nat.mod (Nat.mul (nat_lit 8180687416807346520) (Nat.succ m)) (nat_lit 18446744073709551616))) (and (Nat.ble (Nat.mod (Nat.mul (nat_lit 8180687416807346520) (Nat.succ m)) (nat_lit 18446744073709551616)) (nat_lit 18446739125907224575)) r)) n
theorem w_oc_ok : w_oc (nat_lit 140) = true := by decide +kernel
theorem w_oc_1 : ∀ n : Nat, w_oc n = true → ∀ m : Nat, m < n → 4947802327041 ≤ 8180687416807346520 * (m + 1) % 18446744073709551616 ∧ 8180687416807346520 * (m + 1) % 18446744073709551616 ≤ 18446739125907224575 := by
  intro n
  induction n with
  | zero =>
    intro _ m q
    exact absurd q (Nat.not_lt_zero m)
  | succ n ih =>
    intro h m q
    have e : w_oc (n + 1) = (and (Nat.ble 4947802327041 (8180687416807346520 * (n + 1) % 18446744073709551616)) (and (Nat.ble (8180687416807346520 * (n + 1) % 18446744073709551616) 18446739125907224575) (w_oc n))) := rfl
    rw [e] at h
    obtain ⟨h1, h'⟩ := wz_a h
    obtain ⟨h2, h3⟩ := wz_a h'
    by_cases z : m < n
    · exact ih h3 m z
    · have : m = n := by omega
      rw [this]
      exact ⟨Nat.le_of_ble_eq_true h1, Nat.le_of_ble_eq_true h2⟩
theorem wz_o0 {r q : Nat} {y v : Int} (h1 : 4947802327041 ≤ r) (h2 : r ≤ 18446739125907224575) (e : 18446744073709551616 * (q : Int) + (r : Int) = 18446744073709551616 * y + v) (v1 : -4947802327040 ≤ v) (v2 : v ≤ 4947802327040) : False := by
  omega
theorem wz_o {n : Nat} {y v : Int} (h1 : 4947802327041 ≤ 8180687416807346520 * n % 18446744073709551616) (h2 : 8180687416807346520 * n % 18446744073709551616 ≤ 18446739125907224575) (e : 8180687416807346520 * (n : Int) = 18446744073709551616 * y + v) (v1 : -4947802327040 ≤ v) (v2 : v ≤ 4947802327040) : False := by
  have e1 := Nat.div_add_mod (8180687416807346520 * n) 18446744073709551616
  refine wz_o0 (q := 8180687416807346520 * n / 18446744073709551616) (y := y) (v := v) h1 h2 ?_ v1 v2
  rw [← e]
  omega
theorem wz_0 {S i j : Nat} (i1 : 1 ≤ i) (i2 : i ≤ 141) (j1 : 1 ≤ j) (j2 : j ≤ 141) (ne : i ≠ j) : ¬ w_eq S 0 i j := by
  intro w
  obtain ⟨n, y, v, e, v1, v2⟩ := wd_main w
  rw [Nat.add_zero, Int.sub_self, Int.zero_add] at e
  by_cases q : i < j
  · obtain ⟨a1, a2⟩ := w_oc_1 140 w_oc_ok (j - i - 1) (by omega)
    rw [show j - i - 1 + 1 = j - i by omega] at a1 a2
    rw [show ((j : Int) - (i : Int)) = ((j - i : Nat) : Int) by omega] at e
    exact wz_o a1 a2 e (by omega) (by omega)
  · obtain ⟨a1, a2⟩ := w_oc_1 140 w_oc_ok (i - j - 1) (by omega)
    rw [show i - j - 1 + 1 = i - j by omega] at a1 a2
    have e' : 8180687416807346520 * (((i - j : Nat) : Int)) = 18446744073709551616 * (-y) + (-v) := by omega
    exact wz_o a1 a2 e' (by omega) (by omega)
def w_rg (n : Nat) : Prop := ∀ g, g < n → w_g g = true
theorem w_rg_0 : w_rg 0 := fun g q => absurd q (Nat.not_lt_zero g)
theorem w_rg_s {n : Nat} (h : w_rg n) (e : w_g n = true) : w_rg (n + 1) := fun g q => by
  by_cases z : g < n
  · exact h g z
  · rw [show g = n by omega]
    exact e
theorem wz_all (h : w_rg 3178) {S d i j : Nat} (hS : S < 4295639040) (d5 : d ≤ 5) (i1 : 1 ≤ i) (i2 : i ≤ 141) (j1 : 1 ≤ j) (j2 : j ≤ 141) (ne : d = 0 → i ≠ j) : ¬ w_eq S d i j := by
  by_cases z : d = 0
  · rw [z]
    exact wz_0 i1 i2 j1 j2 (ne z)
  · have := wz_g (g := S / 4096 / 330) (b := S / 4096 / 330 * 330) (t := S % 4096) (s := S / 4096 % 330 % 2) (k := S / 4096 % 330 / 2) (h _ (by omega)) (by omega) rfl (by omega) (by omega) (by omega) (d := d) (i := i) (j := j) (by omega) d5 i1 i2 j1 j2
    rw [show (S / 4096 / 330 * 330 + 2 * (S / 4096 % 330 / 2) + S / 4096 % 330 % 2) * 4096 + S % 4096 = S by omega] at this
    exact this
