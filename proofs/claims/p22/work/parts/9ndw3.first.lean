/-! the walk's first look: what each place of a row is -/
theorem wm_64 (x : Nat) : x &&& 18446744073709551615 = x % 18446744073709551616 := Nat.and_two_pow_sub_one_eq_mod x 64
theorem wm_35 (x : Nat) : x &&& 34359738367 = x % 34359738368 := Nat.and_two_pow_sub_one_eq_mod x 35
theorem wm_32 (x : Nat) : x &&& 4294967295 = x % 4294967296 := Nat.and_two_pow_sub_one_eq_mod x 32
theorem wm_30 (x : Nat) : x &&& 1073741823 = x % 1073741824 := Nat.and_two_pow_sub_one_eq_mod x 30
theorem wl_c {n c : Nat} (h : c < 2 ^ 128) : ∀ t, t < n → (fun _ : Nat => c) t < 2 ^ 128 := fun _ _ => h
theorem wx_L : w_L = w_v 4096 (fun _ => 1) := by
  unfold w_L
  exact (wv_on 12).trans (congrArg (fun n => w_v n (fun _ => 1)) (by decide : 2 ^ 12 = 4096))
theorem wx_i : w_io (nat_lit 12) = w_v 4096 (fun t => t) := (wv_io 12).trans (congrArg (fun n => w_v n (fun t => t)) (by decide : 2 ^ 12 = 4096))
theorem wx_o5 : w_v 5 (fun _ => 1) = 13407807929942597099574024998205846127518767826788787856935840483821907643878742508161577061030275292079286267865836871732200710569334406545855621894242305 := by
  rw [wv_s, wv_s, wv_s, wv_s, wv_s, wv_0]
  rfl
theorem wx_O : w_O = w_v 4101 (fun _ => 1) := by
  have e := wv_app (fun _ => 1) 4096 5
  rw [wx_o5, ← wx_L] at e
  refine Eq.trans ?_ e.symm
  unfold w_O
  exact congrArg (fun z => w_L + z) (Nat.shiftLeft_eq 13407807929942597099574024998205846127518767826788787856935840483821907643878742508161577061030275292079286267865836871732200710569334406545855621894242305 (128 * 4096))
theorem wx_c (c : Nat) : Nat.mul w_O c = w_v 4101 (fun _ => c) := by
  refine Eq.trans ?_ (wv_c 4101 c)
  exact congrArg (fun z => z * c) wx_O
theorem wx_Lc (c : Nat) : Nat.mul w_L c = w_v 4096 (fun _ => c) := by
  refine Eq.trans ?_ (wv_c 4096 c)
  exact congrArg (fun z => z * c) wx_L
/-- a place's number inside its block -/
def ws_i (t : Nat) : Nat := if t < 4096 then t else t - 4096
theorem wx_i5 : w_v 5 (fun t => ws_i (4096 + t)) = 53631231719770388398296099992823384510035669300958756948531082895187486961709658709197368165062305732942881973876142715500956532078983405250777738022748160 := by
  rw [wv_s, wv_s, wv_s, wv_s, wv_s, wv_0]
  rfl
theorem wx_I : w_I = w_v 4101 ws_i := by
  have e := wv_app ws_i 4096 5
  rw [wx_i5, wv_congr (f := ws_i) (g := fun t => t) (fun t q => if_pos q), ← wx_i] at e
  refine Eq.trans ?_ e.symm
  unfold w_I
  exact congrArg (fun z => w_io (nat_lit 12) + z) (Nat.shiftLeft_eq 53631231719770388398296099992823384510035669300958756948531082895187486961709658709197368165062305732942881973876142715500956532078983405250777738022748160 (128 * 4096))
theorem ws_i_lt {t : Nat} (h : t < 4101) : ws_i t < 4096 := by
  unfold ws_i
  split <;> omega
theorem wb_12 {t : Nat} (h : t < 4096) : t < 2 ^ 128 := Nat.lt_of_lt_of_le h (by decide)
def ws_e (t : Nat) : Nat := (ws_i t ^^^ 3885) * 11400714819323198485
theorem ws_e_lt {t : Nat} (h : t < 4101) : ws_e t < 4096 * 11400714819323198485 := by
  unfold ws_e
  exact Nat.mul_lt_mul_of_pos_right (Nat.xor_lt_two_pow (n := 12) (ws_i_lt h) (by decide)) (by decide)
theorem wx_E : w_E = w_v 4101 ws_e := by
  unfold w_E
  rw [wx_c, wx_I, wr_xor (fun t q => wb_12 (ws_i_lt q)) (wl_c (by decide)), wr_mul]
  exact wv_congr (fun t _ => rfl)
noncomputable def ws_a (b t : Nat) : Nat := if t < 4096 then w_A b else w_A (b + 1)
theorem wA_lt (b : Nat) : w_A b < 18446744073709551616 := Nat.mod_lt _ (by decide)
theorem ws_a_lt (b t : Nat) : ws_a b t < 18446744073709551616 := by
  unfold ws_a
  split <;> exact wA_lt _
theorem wx_A (b : Nat) : Nat.add (Nat.mul w_L (w_A b)) (Nat.shiftLeft (Nat.mul (nat_lit 13407807929942597099574024998205846127518767826788787856935840483821907643878742508161577061030275292079286267865836871732200710569334406545855621894242305) (w_A (Nat.succ b))) (Nat.mul (nat_lit 128) (nat_lit 4096))) = w_v 4101 (ws_a b) := by
  have e := wv_app (ws_a b) 4096 5
  rw [wv_congr (f := ws_a b) (g := fun _ => w_A b) (fun t q => if_pos q), ← wx_Lc, wv_congr (f := fun t => ws_a b (4096 + t)) (g := fun _ => w_A (b + 1)) (fun t _ => if_neg (by omega)), ← wv_c, wx_o5] at e
  refine Eq.trans ?_ e.symm
  exact congrArg (fun z => Nat.mul w_L (w_A b) + z) (Nat.shiftLeft_eq (13407807929942597099574024998205846127518767826788787856935840483821907643878742508161577061030275292079286267865836871732200710569334406545855621894242305 * w_A (b + 1)) (128 * 4096))
theorem wx_X (b : Nat) : w_X b = w_v 4101 (fun t => (ws_a b t + ws_e t) % 18446744073709551616) := by
  unfold w_X w_m64
  rw [wx_A, wx_E, wx_c]
  have e1 : Nat.add (w_v 4101 (ws_a b)) (w_v 4101 ws_e) = w_v 4101 (fun t => ws_a b t + ws_e t) := wv_add _ _ _
  rw [e1]
  refine Eq.trans (wv_and (fun t q => ?_) (wl_c (by decide))) (wv_congr (fun t _ => wm_64 _))
  have h1 := ws_a_lt b t
  have h2 := ws_e_lt q
  exact Nat.lt_trans (Nat.add_lt_add h1 h2) (by decide)
/-- of a seed (2^31 above it, so that it is not below 0) the number that its draws begin with -/
def ws_x (S : Nat) : Nat := (((S + 18446744071562067968) % 18446744073709551616 ^^^ 6364136223846793005) * 11400714819323198485) % 18446744073709551616
theorem wx_split (q t : Nat) (ht : t < 4096) : (4096 * q + t) ^^^ 6364136223846793005 = (4096 * q ^^^ 6364136223846789120) + (t ^^^ 3885) := by
  have e1 := wp_xor (k := 12) (x := q) (y := 1553744195275095) (a := t) (b := 3885) ht (by decide)
  have e2 := wp_xor (k := 12) (x := q) (y := 1553744195275095) (a := 0) (b := 0) (by decide) (by decide)
  have e3 : (4096 * q ^^^ 6364136223846789120) = 4096 * (q ^^^ 1553744195275095) := e2
  rw [e3]
  exact e1
set_option maxRecDepth 20000 in
theorem wx_in (b t : Nat) (ht : t < 4096) : (w_A b + (t ^^^ 3885) * 11400714819323198485) % 18446744073709551616 = ws_x (b * 4096 + t) := by
  have e1 : (b * 4096 + t + 18446744071562067968) % 18446744073709551616 = 4096 * ((b + 4503599626846208) % 4503599627370496) + t := by omega
  have e2 : (b * 4096 + 18446744071562067968) % 18446744073709551616 = 4096 * ((b + 4503599626846208) % 4503599627370496) := by omega
  have e3 : w_A b = ((b * 4096 + 18446744071562067968) % 18446744073709551616 ^^^ 6364136223846789120) * 11400714819323198485 % 18446744073709551616 := rfl
  unfold ws_x
  rw [e3, e1, e2, wx_split _ _ ht, Nat.add_mul, Nat.mod_add_mod]
theorem wx_xs (b t : Nat) (ht : t < 4101) : (ws_a b t + ws_e t) % 18446744073709551616 = ws_x (b * 4096 + t) := by
  unfold ws_a ws_e ws_i
  by_cases q : t < 4096
  · rw [if_pos q, if_pos q]
    exact wx_in b t q
  · rw [if_neg q, if_neg q, wx_in (b + 1) (t - 4096) (by omega)]
    exact congrArg ws_x (by omega)
def ws_h (S : Nat) : Nat := ws_x S ^^^ (ws_x S >>> 32)
theorem ws_x_lt (S : Nat) : ws_x S < 18446744073709551616 := Nat.mod_lt _ (by decide)
theorem ws_s32 {x : Nat} (h : x < 18446744073709551616) : (x >>> 32) &&& 4294967295 = x >>> 32 := by
  rw [wm_32, Nat.shiftRight_eq_div_pow]
  omega
theorem ws_h_lt (S : Nat) : ws_h S < 18446744073709551616 := by
  have h := ws_x_lt S
  refine Nat.xor_lt_two_pow (n := 64) h ?_
  rw [Nat.shiftRight_eq_div_pow]
  omega
theorem wb_64 {x : Nat} (h : x < 18446744073709551616) : x < 2 ^ 128 := Nat.lt_of_lt_of_le h (by decide)
theorem wx_H (b : Nat) : w_H b = w_v 4101 (fun t => ws_h (b * 4096 + t)) := by
  have eX : w_X b = w_v 4101 (fun t => ws_x (b * 4096 + t)) := (wx_X b).trans (wv_congr (fun t q => wx_xs b t q))
  unfold w_H w_m32
  rw [eX, wx_c]
  have e1 : Nat.land (Nat.shiftRight (w_v 4101 (fun t => ws_x (b * 4096 + t))) (nat_lit 32)) (w_v 4101 (fun _ => nat_lit 4294967295)) = w_v 4101 (fun t => ws_x (b * 4096 + t) >>> 32) :=
    Eq.trans (wv_sra (k := 32) (fun t _ => wb_64 (ws_x_lt _)) (by decide) (fun _ _ => by decide)) (wv_congr (fun t _ => ws_s32 (ws_x_lt _)))
  rw [e1]
  refine wv_xor (fun t _ => wb_64 (ws_x_lt _)) (fun t _ => wb_64 ?_)
  have h := ws_x_lt (b * 4096 + t)
  rw [Nat.shiftRight_eq_div_pow]
  omega
def ws_p (u S : Nat) : Nat := (ws_h S * u) >>> 34 % 1073741824
theorem ws_p_lt (u S : Nat) : ws_p u S < 1073741824 := Nat.mod_lt _ (by decide)
theorem wx_p {u : Nat} (hu : u < 18446744073709551616) (b : Nat) : Nat.land (Nat.shiftRight (Nat.mul (w_H b) u) (nat_lit 34)) w_m30 = w_v 4101 (fun t => ws_p u (b * 4096 + t)) := by
  unfold w_m30
  rw [wx_H, wx_c]
  have e1 : Nat.mul (w_v 4101 (fun t => ws_h (b * 4096 + t))) u = w_v 4101 (fun t => ws_h (b * 4096 + t) * u) := wv_mul _ _ _
  rw [e1]
  refine Eq.trans (wv_sra (k := 34) (fun t _ => ?_) (by decide) (fun _ _ => by decide)) (wv_congr (fun t _ => wm_30 _))
  exact Nat.lt_of_lt_of_le (Nat.mul_lt_mul'' (ws_h_lt _) hu) (by decide)
theorem wx_P (b : Nat) : w_P b = w_v 4101 (fun t => ws_p 18446004347986313072 (b * 4096 + t) + ws_p 18446460819989164424 (b * 4096 + t) * 18446744073709551616) := by
  unfold w_P
  rw [wx_p (by decide) b, wx_p (by decide) b]
  have e1 : Nat.shiftLeft (w_v 4101 (fun t => ws_p (nat_lit 18446460819989164424) (b * 4096 + t))) (nat_lit 64) = w_v 4101 (fun t => ws_p 18446460819989164424 (b * 4096 + t) * 18446744073709551616) := Eq.trans (Nat.shiftLeft_eq _ 64) (wv_mul _ _ _)
  rw [e1]
  exact wv_add _ _ _
def ws_q (b t : Nat) : Nat := ws_p 18446004347986313072 (b * 4096 + t) + ws_p 18446460819989164424 (b * 4096 + t) * 18446744073709551616 + (ws_p 18446004347986313072 ((b + 1) * 4096 + t) + ws_p 18446460819989164424 ((b + 1) * 4096 + t) * 18446744073709551616) * 4294967296
theorem wx_Q (b : Nat) : w_Q b = w_v 4101 (ws_q b) := by
  unfold w_Q
  rw [wx_P, wx_P]
  have e1 : Nat.shiftLeft (w_v 4101 (fun t => ws_p 18446004347986313072 ((Nat.succ b) * 4096 + t) + ws_p 18446460819989164424 ((Nat.succ b) * 4096 + t) * 18446744073709551616)) (nat_lit 32) = w_v 4101 (fun t => (ws_p 18446004347986313072 ((b + 1) * 4096 + t) + ws_p 18446460819989164424 ((b + 1) * 4096 + t) * 18446744073709551616) * 4294967296) := Eq.trans (Nat.shiftLeft_eq _ 32) (wv_mul _ _ _)
  rw [e1]
  exact wv_add _ _ _
theorem ws_q_le (b t : Nat) : ws_q b t ≤ 85855561645933111008130704972779921008 := by
  unfold ws_q
  have h1 := ws_p_lt 18446004347986313072 (b * 4096 + t)
  have h2 := ws_p_lt 18446460819989164424 (b * 4096 + t)
  have h3 := ws_p_lt 18446004347986313072 ((b + 1) * 4096 + t)
  have h4 := ws_p_lt 18446460819989164424 ((b + 1) * 4096 + t)
  omega
theorem wx_N (b : Nat) : w_N b = w_v 4101 (fun t => 85855561645933111008130704972779921008 - ws_q b t) := by
  unfold w_N w_cc
  rw [wx_c, wx_Q]
  exact wv_sub (fun t _ => ws_q_le b t)
def ws_v (b d t : Nat) : Nat := (if t + d < 4101 then ws_q b (t + d) else 0) + (85855561645933111008130704972779921008 - ws_q b t)
theorem ws_v_lt (b d t : Nat) : ws_v b d t < 2 ^ 128 := by
  unfold ws_v
  have h2 : 85855561645933111008130704972779921008 - ws_q b t ≤ 85855561645933111008130704972779921008 := Nat.sub_le _ _
  split
  · exact Nat.lt_of_le_of_lt (Nat.add_le_add (ws_q_le b (t + d)) h2) (by decide)
  · exact Nat.lt_of_le_of_lt (Nat.add_le_add (Nat.le_refl 0) h2) (by decide)
theorem wx_Y (b d : Nat) : w_Y b d = w_v 4101 (fun t => (ws_v b d t &&& 85070591670813493966310340604280700927) + 83500651879030584948091775210379199263) := by
  unfold w_Y w_mal w_bb
  rw [wx_c, wx_c, wx_N, wx_Q]
  have e1 : Nat.shiftRight (w_v 4101 (ws_q b)) (Nat.mul (nat_lit 128) d) = w_v 4101 (fun t => if t + d < 4101 then ws_q b (t + d) else 0) :=
    wv_lane d (fun t _ => Nat.lt_of_le_of_lt (ws_q_le b t) (by decide))
  rw [e1]
  have e2 : Nat.add (w_v 4101 (fun t => if t + d < 4101 then ws_q b (t + d) else 0)) (w_v 4101 (fun t => 85855561645933111008130704972779921008 - ws_q b t)) = w_v 4101 (ws_v b d) := wv_add _ _ _
  rw [e2]
  have e3 : Nat.land (w_v 4101 (ws_v b d)) (w_v 4101 (fun _ => nat_lit 85070591670813493966310340604280700927)) = w_v 4101 (fun t => ws_v b d t &&& 85070591670813493966310340604280700927) := wv_and (fun t _ => ws_v_lt b d t) (wl_c (by decide))
  rw [e3]
  exact wv_add _ _ _
