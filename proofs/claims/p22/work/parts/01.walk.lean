/-! the walk over all seeds: definitions -/
noncomputable def w_on (k : Nat) : Nat := Nat.rec (nat_lit 1) (fun k r => Nat.add r (Nat.shiftLeft r (Nat.mul (nat_lit 128) (Nat.pow (nat_lit 2) k)))) k
noncomputable def w_io (k : Nat) : Nat := Nat.rec (nat_lit 0) (fun k r => Nat.add r (Nat.shiftLeft (Nat.add r (Nat.mul (w_on k) (Nat.pow (nat_lit 2) k))) (Nat.mul (nat_lit 128) (Nat.pow (nat_lit 2) k)))) k
noncomputable def w_L : Nat := w_on (nat_lit 12)
noncomputable def w_O : Nat := Nat.add w_L (Nat.shiftLeft (nat_lit 13407807929942597099574024998205846127518767826788787856935840483821907643878742508161577061030275292079286267865836871732200710569334406545855621894242305) (nat_lit 524288))
noncomputable def w_I : Nat := Nat.add (w_io (nat_lit 12)) (Nat.shiftLeft (nat_lit 53631231719770388398296099992823384510035669300958756948531082895187486961709658709197368165062305732942881973876142715500956532078983405250777738022748160) (nat_lit 524288))
noncomputable def w_E : Nat := Nat.mul (Nat.xor w_I (Nat.mul w_O (nat_lit 3885))) (nat_lit 11400714819323198485)
noncomputable def w_m64 : Nat := Nat.mul w_O (nat_lit 18446744073709551615)
noncomputable def w_m32 : Nat := Nat.mul w_O (nat_lit 4294967295)
noncomputable def w_mlo : Nat := Nat.mul w_O (nat_lit 1073741823)
noncomputable def w_mhi : Nat := Nat.mul w_O (nat_lit 19807040610119340324676435968)
noncomputable def w_mal : Nat := Nat.mul w_O (nat_lit 85070591670813493966310340604280700927)
noncomputable def w_cc : Nat := Nat.mul w_O (nat_lit 85855561645933111008130704972779921008)
noncomputable def w_bb : Nat := Nat.mul w_O (nat_lit 83500651879030584948091775210379199263)
noncomputable def w_bit : Nat := Nat.mul w_L (nat_lit 4611686019501129728)
noncomputable def w_A (b : Nat) : Nat := Nat.mod (Nat.mul (Nat.xor (Nat.mod (Nat.add (Nat.mul b (nat_lit 4096)) (nat_lit 18446744071562067968)) (nat_lit 18446744073709551616)) (nat_lit 6364136223846789120)) (nat_lit 11400714819323198485)) (nat_lit 18446744073709551616)
noncomputable def w_X (b : Nat) : Nat := Nat.land (Nat.add (Nat.add (Nat.mul w_L (w_A b)) (Nat.shiftLeft (Nat.mul (nat_lit 13407807929942597099574024998205846127518767826788787856935840483821907643878742508161577061030275292079286267865836871732200710569334406545855621894242305) (w_A (Nat.succ b))) (nat_lit 524288))) w_E) w_m64
noncomputable def w_H (b : Nat) : Nat := Nat.xor (w_X b) (Nat.land (Nat.shiftRight (w_X b) (nat_lit 32)) w_m32)
noncomputable def w_P (b : Nat) : Nat := Nat.add (Nat.land (Nat.shiftRight (Nat.mul (w_H b) (nat_lit 18446004347986313072)) (nat_lit 34)) w_mlo) (Nat.land (Nat.shiftLeft (Nat.mul (w_H b) (nat_lit 18446460819989164424)) (nat_lit 30)) w_mhi)
noncomputable def w_Q (b : Nat) : Nat := Nat.add (w_P b) (Nat.shiftLeft (w_P (Nat.succ b)) (nat_lit 32))
noncomputable def w_N (b : Nat) : Nat := Nat.sub w_cc (w_Q b)
noncomputable def w_Y (b d : Nat) : Nat := Nat.add (Nat.land (Nat.add (Nat.shiftRight (w_Q b) d) (w_N b)) w_mal) w_bb
noncomputable def w_Z (b d : Nat) : Nat := Nat.lor (w_Y b d) (Nat.shiftRight (w_Y b d) (nat_lit 64))
noncomputable def w_F (b : Nat) : Nat := Nat.land (w_Z b (nat_lit 128)) (Nat.land (w_Z b (nat_lit 256)) (Nat.land (w_Z b (nat_lit 384)) (Nat.land (w_Z b (nat_lit 512)) (Nat.land (w_Z b (nat_lit 640)) w_bit))))
noncomputable def w_h (S : Nat) : Nat := (fun x => Nat.xor x (Nat.shiftRight x (nat_lit 32))) (Nat.mod (Nat.mul (Nat.xor (Nat.mod (Nat.add S (nat_lit 18446744071562067968)) (nat_lit 18446744073709551616)) (nat_lit 6364136223846793005)) (nat_lit 11400714819323198485)) (nat_lit 18446744073709551616))
noncomputable def w_y (S d : Nat) : Nat := Nat.mod (Nat.mul (Nat.add (w_h (Nat.add S d)) (Nat.sub (nat_lit 18446744073709551616) (w_h S))) (nat_lit 8180687416807346520)) (nat_lit 18446744073709551616)
noncomputable def w_f1 (y : Nat) : Nat := Nat.mod (Nat.add (Nat.mul y (nat_lit 3786)) (nat_lit 122293980863569600)) (nat_lit 18446744073709551616)
noncomputable def w_f2 (y : Nat) : Nat := Nat.mod (Nat.add (Nat.mul y (nat_lit 26387)) (nat_lit 170213180857811360)) (nat_lit 18446744073709551616)
noncomputable def w_m (f1 f2 : Nat) : Nat := Nat.div (Nat.sub (Nat.add (Nat.mul f1 (nat_lit 26387)) (nat_lit 15864199903390214389760)) (Nat.mul f2 (nat_lit 3786))) (nat_lit 18446744073709551616)
noncomputable def w_o8 : Nat := w_on (nat_lit 8)
noncomputable def w_i8 : Nat := Nat.mul (w_io (nat_lit 8)) (nat_lit 15485907386658061715)
noncomputable def w_8m : Nat := Nat.mul w_o8 (nat_lit 18446744073709551615)
noncomputable def w_8s : Nat := Nat.mul w_o8 (nat_lit 34359738367)
noncomputable def w_8c : Nat := Nat.mul w_o8 (nat_lit 18446744073709551616)
noncomputable def w_8d : Nat := Nat.mul w_o8 (nat_lit 18446744073709547520)
noncomputable def w_8b : Nat := Nat.mul w_o8 (nat_lit 18446744073709551616)
noncomputable def w_8e : Nat := Nat.mul w_o8 (nat_lit 2048)
noncomputable def w_hv (g : Nat) : Nat := Nat.land (Nat.add (Nat.mul w_o8 (Nat.mod (Nat.mul g (nat_lit 15485907386658061715)) (nat_lit 18446744073709551616))) w_i8) w_8m
noncomputable def w_ov (g : Nat) : Nat := Nat.xor (w_hv g) (Nat.land (Nat.shiftRight (w_hv g) (nat_lit 29)) w_8s)
noncomputable def w_ex (g g2 : Nat) : Bool := Nat.beq (Nat.land (Nat.add (Nat.land (Nat.add (Nat.mul (Nat.add (w_ov g) (Nat.sub w_8c (w_ov g2))) (nat_lit 72)) w_8e) w_8m) w_8d) w_8b) w_8b
noncomputable def w_nr (S d y m : Nat) : Bool := cond (Nat.ble (nat_lit 860) m) (cond (Nat.ble m (nat_lit 1140)) (cond (Nat.ble (Nat.mod (Nat.add y (Nat.add (Nat.mul m (nat_lit 8180687416807346520)) (nat_lit 9666956867496724544))) (nat_lit 18446744073709551616)) (nat_lit 9895604654080)) (w_ex (w_h S) (Nat.add (w_h (Nat.add S d)) (Nat.sub (Nat.add (nat_lit 18446744073709551616) m) (nat_lit 1000)))) true) true) true
noncomputable def w_sd (S d : Nat) : Bool := (fun y => (fun f1 f2 => cond (Nat.ble f1 (nat_lit 244587961727139200)) (cond (Nat.ble f2 (nat_lit 340426361715622720)) (w_nr S d y (w_m f1 f2)) true) true) (w_f1 y) (w_f2 y)) (w_y S d)
noncomputable def w_s (S : Nat) : Bool := and (w_sd S (nat_lit 1)) (and (w_sd S (nat_lit 2)) (and (w_sd S (nat_lit 3)) (and (w_sd S (nat_lit 4)) (w_sd S (nat_lit 5)))))
noncomputable def w_c0 (S z : Nat) : Bool := cond (Nat.beq z (nat_lit 0)) true (w_s S)
noncomputable def w_go (b k : Nat) : Nat → Nat → Bool := Nat.rec (motive := fun _ => Nat → Nat → Bool) (fun z t => and (w_c0 (Nat.add (Nat.mul b (nat_lit 4096)) t) (Nat.mod z (nat_lit 4294967296))) (w_c0 (Nat.add (Nat.mul (Nat.succ b) (nat_lit 4096)) t) (Nat.shiftRight z (nat_lit 32)))) (fun k r z t => cond (Nat.beq z (nat_lit 0)) true (and (r (Nat.mod z (Nat.pow (nat_lit 2) (Nat.mul (nat_lit 128) (Nat.pow (nat_lit 2) k)))) t) (r (Nat.shiftRight z (Nat.mul (nat_lit 128) (Nat.pow (nat_lit 2) k))) (Nat.add t (Nat.pow (nat_lit 2) k))))) k
noncomputable def w_b (b : Nat) : Bool := w_go b (nat_lit 12) (Nat.xor (w_F b) w_bit) (nat_lit 0)
noncomputable def w_bs (n b : Nat) : Bool := Nat.rec (motive := fun _ => Nat → Bool) (fun _ => true) (fun _ r b => and (w_b b) (r (Nat.add b (nat_lit 2)))) n b
set_option maxRecDepth 100000 in
theorem w_t0 : w_bs (nat_lit 1) (nat_lit 0) = true := by decide +kernel
set_option maxRecDepth 100000 in
theorem w_t1 : w_bs (nat_lit 200) (nat_lit 2000) = true := by decide +kernel
set_option maxRecDepth 100000 in
theorem w_t2 : w_bs (nat_lit 200) (nat_lit 2400) = true := by decide +kernel
set_option maxRecDepth 100000 in
theorem w_t3 : w_bs (nat_lit 200) (nat_lit 2800) = true := by decide +kernel
set_option maxRecDepth 100000 in
theorem w_t4 : w_bs (nat_lit 200) (nat_lit 3200) = true := by decide +kernel
set_option maxRecDepth 100000 in
theorem w_t5 : w_bs (nat_lit 200) (nat_lit 3600) = true := by decide +kernel
