/-! steps that touch locals and stack alone -/
abbrev ev_Z : Type := Option (Nat × List (Nat × ev_A) × List ev_A)
def ev_ldI (n i : Nat) (lv : List (Nat × ev_A)) (st : List ev_A) : ev_Z := match ev_look lv i with
  | some a => if a.1 == 0 then some (n, lv, a :: st) else none
  | none => none
def ev_ldL (n i : Nat) (lv : List (Nat × ev_A)) (st : List ev_A) : ev_Z := match ev_look lv i with
  | some a => if a.1 == 1 then some (n, lv, a :: st) else none
  | none => none
def ev_ldA (n i : Nat) (lv : List (Nat × ev_A)) (st : List ev_A) : ev_Z := match ev_look lv i with
  | some a => if a.1 == 0 || a.1 == 1 then none else some (n, lv, a :: st)
  | none => none
def ev_stI (nL n i : Nat) (lv : List (Nat × ev_A)) (st : List ev_A) : ev_Z := match st with
  | a :: r => if a.1 == 0 && decide (i < nL) then some (n, ev_put1 lv i a, r) else none
  | [] => none
def ev_stL (nL n i : Nat) (lv : List (Nat × ev_A)) (st : List ev_A) : ev_Z := match st with
  | a :: r => if a.1 == 1 && decide (i + 1 < nL) then some (n, ev_put2 lv i a, r) else none
  | [] => none
def ev_stA (nL n i : Nat) (lv : List (Nat × ev_A)) (st : List ev_A) : ev_Z := match st with
  | a :: r => if !(a.1 == 0 || a.1 == 1) && decide (i < nL) then some (n, ev_put1 lv i a, r) else none
  | [] => none
def ev_op1 (t : Nat) (f : Int → Int → ev_A) (lv : List (Nat × ev_A)) (st : List ev_A) : ev_Z := match st with
  | (t1, l1, h1) :: r => if t1 == t then some (1, lv, f l1 h1 :: r) else none
  | _ => none
def ev_op2 (t u : Nat) (f : Int → Int → Int → Int → ev_A) (lv : List (Nat × ev_A)) (st : List ev_A) : ev_Z := match st with
  | (t2, l2, h2) :: (t1, l1, h1) :: r => if t1 == t && t2 == u then some (1, lv, f l1 h1 l2 h2 :: r) else none
  | _ => none
/-- a divisor that is not 0 -/
def ev_opd (t : Nat) (f : Int → Int → Int → Int → ev_A) (lv : List (Nat × ev_A)) (st : List ev_A) : ev_Z := match st with
  | (t2, l2, h2) :: (t1, l1, h1) :: r => if t1 == t && t2 == t && (decide (0 < l2) || decide (h2 < 0)) then some (1, lv, f l1 h1 l2 h2 :: r) else none
  | _ => none
def ev_dup (lv : List (Nat × ev_A)) (st : List ev_A) : ev_Z := match st with
  | a :: r => if a.1 == 1 then none else some (1, lv, a :: a :: r)
  | _ => none
def ev_dup2 (lv : List (Nat × ev_A)) (st : List ev_A) : ev_Z := match st with
  | a :: r => if a.1 == 1 then some (1, lv, a :: a :: r) else match r with
    | a' :: r' => if a'.1 == 1 then none else some (1, lv, a :: a' :: a :: a' :: r')
    | [] => none
  | [] => none
def ev_inc (nL i : Nat) (n : Int) (lv : List (Nat × ev_A)) (st : List ev_A) : ev_Z := match ev_look lv i with
  | some (t, l, h) => if t == 0 && decide (i < nL) then some (3, ev_put1 lv i (ev_add l h (Int32.ofInt n).toInt (Int32.ofInt n).toInt), st) else none
  | none => none
def ev_pop (lv : List (Nat × ev_A)) (st : List ev_A) : ev_Z := match st with
  | a :: r => if a.1 == 1 then none else some (1, lv, r)
  | _ => none
def ev_pure (nL : Nat) (ins : Instr) (lv : List (Nat × ev_A)) (st : List ev_A) : ev_Z := match ins with
  | .iconst n => some (1, lv, ev_I (Int32.ofInt n).toInt :: st)
  | .bipush n => some (2, lv, ev_I (Int8.ofInt n).toInt32.toInt :: st)
  | .sipush n => some (3, lv, ev_I (Int16.ofInt n).toInt32.toInt :: st)
  | .lconst n => some (1, lv, ev_J (Int64.ofNat (n : Nat)).toInt :: st)
  | .aconst_null => some (1, lv, (3, 0, 0) :: st)
  | .iload_n k => ev_ldI 1 (k : Nat) lv st
  | .iload i => ev_ldI 2 i lv st
  | .istore_n k => ev_stI nL 1 (k : Nat) lv st
  | .istore i => ev_stI nL 2 i lv st
  | .lload_n k => ev_ldL 1 (k : Nat) lv st
  | .lload i => ev_ldL 2 i lv st
  | .lstore_n k => ev_stL nL 1 (k : Nat) lv st
  | .lstore i => ev_stL nL 2 i lv st
  | .aload_n k => ev_ldA 1 (k : Nat) lv st
  | .aload i => ev_ldA 2 i lv st
  | .astore_n k => ev_stA nL 1 (k : Nat) lv st
  | .astore i => ev_stA nL 2 i lv st
  | .iinc i n => ev_inc nL i n lv st
  | .iadd => ev_op2 0 0 ev_add lv st
  | .isub => ev_op2 0 0 ev_sub lv st
  | .imul => ev_op2 0 0 (ev_ib (fun x y => x * y)) lv st
  | .iand => ev_op2 0 0 (ev_ib (fun x y => x &&& y)) lv st
  | .ior => ev_op2 0 0 (ev_ib (fun x y => x ||| y)) lv st
  | .ixor => ev_op2 0 0 (ev_ib (fun x y => x ^^^ y)) lv st
  | .ishl => ev_op2 0 0 (ev_ib (fun x y => x <<< (y &&& 31))) lv st
  | .ishr => ev_op2 0 0 (ev_ib (fun x y => x >>> (y &&& 31))) lv st
  | .iushr => ev_op2 0 0 (ev_ib (fun x y => (x.toUInt32 >>> (y.toUInt32 &&& Int32.toUInt32 31)).toInt32)) lv st
  | .ladd => ev_op2 1 1 (ev_lb (fun x y => x + y)) lv st
  | .lsub => ev_op2 1 1 (ev_lb (fun x y => x - y)) lv st
  | .lmul => ev_op2 1 1 (ev_lb (fun x y => x * y)) lv st
  | .land => ev_op2 1 1 (ev_lb (fun x y => x &&& y)) lv st
  | .lor => ev_op2 1 1 (ev_lb (fun x y => x ||| y)) lv st
  | .lxor => ev_op2 1 1 (ev_lb (fun x y => x ^^^ y)) lv st
  | .lshl => ev_op2 1 0 (ev_ls (fun x y => x <<< (y.toInt64 &&& 63))) lv st
  | .lshr => ev_op2 1 0 (ev_ls (fun x y => x >>> (y.toInt64 &&& 63))) lv st
  | .lushr => ev_op2 1 0 (ev_ls (fun x y => (x.toUInt64 >>> (y.toInt64.toUInt64 &&& Int64.toUInt64 63)).toInt64)) lv st
  | .idiv => ev_opd 0 (ev_ib (fun x y => x / y)) lv st
  | .irem => ev_opd 0 (ev_ib (fun x y => x - x / y * y)) lv st
  | .ldiv => ev_opd 1 (ev_lb (fun x y => x / y)) lv st
  | .lrem => ev_opd 1 (ev_lb (fun x y => x - x / y * y)) lv st
  | .lcmp => ev_op2 1 1 ev_cmp lv st
  | .i2l => ev_op1 0 ev_i2l lv st
  | .l2i => ev_op1 1 ev_l2i lv st
  | .dup => ev_dup lv st
  | .dup2 => ev_dup2 lv st
  | .pop => ev_pop lv st
  | _ => none
theorem ev_op1_inv {t : Nat} {f : Int → Int → ev_A} {lv lv' : List (Nat × ev_A)} {st st' : List ev_A} {len : Nat} (h : ev_op1 t f lv st = some (len, lv', st')) : ∃ l1 h1 r, st = (t, l1, h1) :: r ∧ len = 1 ∧ lv' = lv ∧ st' = f l1 h1 :: r := by
  unfold ev_op1 at h
  split at h
  · split at h
    · rename_i l1 h1 r ht
      cases h
      exact ⟨l1, h1, r, by simp at ht; rw [ht], rfl, rfl, rfl⟩
    · cases h
  · cases h
theorem ev_op2_inv {t u : Nat} {f : Int → Int → Int → Int → ev_A} {lv lv' : List (Nat × ev_A)} {st st' : List ev_A} {len : Nat} (h : ev_op2 t u f lv st = some (len, lv', st')) : ∃ l1 h1 l2 h2 r, st = (u, l2, h2) :: (t, l1, h1) :: r ∧ len = 1 ∧ lv' = lv ∧ st' = f l1 h1 l2 h2 :: r := by
  unfold ev_op2 at h
  split at h
  · split at h
    · rename_i l2 h2 t1 l1 h1 r ht
      cases h
      exact ⟨l1, h1, l2, h2, r, by simp at ht; rw [ht.1, ht.2], rfl, rfl, rfl⟩
    · cases h
  · cases h
theorem ev_opd_inv {t : Nat} {f : Int → Int → Int → Int → ev_A} {lv lv' : List (Nat × ev_A)} {st st' : List ev_A} {len : Nat} (h : ev_opd t f lv st = some (len, lv', st')) : ∃ l1 h1 l2 h2 r, st = (t, l2, h2) :: (t, l1, h1) :: r ∧ (0 < l2 ∨ h2 < 0) ∧ len = 1 ∧ lv' = lv ∧ st' = f l1 h1 l2 h2 :: r := by
  unfold ev_opd at h
  split at h
  · split at h
    · rename_i l2 h2 t1 l1 h1 r ht
      cases h
      simp at ht
      exact ⟨l1, h1, l2, h2, r, by rw [ht.1.1, ht.1.2], ht.2, rfl, rfl, rfl⟩
    · cases h
  · cases h
theorem ev_n0 {y : Int32} {l h : Int} (a1 : l ≤ y.toInt) (a2 : y.toInt ≤ h) (q : 0 < l ∨ h < 0) : ¬ y = 0 := by
  intro e
  subst e
  have : (0 : Int32).toInt = 0 := rfl
  omega
theorem ev_n0L {y : Int64} {l h : Int} (a1 : l ≤ y.toInt) (a2 : y.toInt ≤ h) (q : 0 < l ∨ h < 0) : ¬ y = 0 := by
  intro e
  subst e
  have : (0 : Int64).toInt = 0 := rfl
  omega
theorem ev_isI {B b : Nat} {v : Value} {a : ev_A} (h : ev_g B b v a) (ha : (a.1 == 0) = true) : ∃ x : Int32, v = .int x ∧ a.2.1 ≤ x.toInt ∧ x.toInt ≤ a.2.2 := by
  obtain ⟨t, l, h'⟩ := a
  have : t = 0 := by simpa using ha
  subst this
  exact h
theorem ev_isL {B b : Nat} {v : Value} {a : ev_A} (h : ev_g B b v a) (ha : (a.1 == 1) = true) : ∃ x : Int64, v = .long x ∧ a.2.1 ≤ x.toInt ∧ x.toInt ≤ a.2.2 := by
  obtain ⟨t, l, h'⟩ := a
  have : t = 1 := by simpa using ha
  subst this
  exact h
theorem ev_isA {B b : Nat} {v : Value} {a : ev_A} (h : ev_g B b v a) (ha : (a.1 == 0 || a.1 == 1) = false) : v = .null ∨ ∃ q, v = .ref q := by
  obtain ⟨t, l, h'⟩ := a
  simp at ha
  unfold ev_g at h
  split at h
  · exact absurd (by assumption) ha.1
  · exact absurd (by assumption) ha.2
  · exact Or.inr ⟨_, h⟩
  · exact Or.inl h
  · exact Or.inr ⟨_, h⟩
section EVP
variable {p : Program} {l : Launch} {e : Env} {R : Room} {s : State} {m : MethodId} {args : Array Value} {below : List Frame} {meth : Method} {c : Code} {H : Heap} {locs : List Loc} {cells slots : Nat} {Q : State → Prop}
variable {cc : ByteArray} {pc : Nat} {ls : Array Slot} {B b nL len : Nat} {lv lv' : List (Nat × ev_A)} {st st' : List ev_A} {clv : List (Nat × Value)} {cst : List Value}
theorem ev_r_iload_n {k : Fin 4} (hx : p.tables.exec = Jvm.exec) (hb : c.code = cc) (hd : decode cc pc = .ok (.iload_n k, len)) (hp : ev_ldI 1 (k : Nat) lv st = some (len, lv', st')) (hl : lv_has ls nL clv) (h2 : ev_g2 B b clv lv) (h1 : ev_g1 B b cst st) (kk : ∀ (ls' : Array Slot) (clv' : List (Nat × Value)) (cst' : List Value), lv_has ls' nL clv' → ev_g2 B b clv' lv' → ev_g1 B b cst' st' → W p l e R s m args below meth c H locs cells slots Q (F0 m (pc + len) ls' cst')) : W p l e R s m args below meth c H locs cells slots Q (F0 m pc ls cst) := by
  unfold ev_ldI at hp
  split at hp
  · split at hp
    · rename_i a ha ht
      cases hp
      obtain ⟨z, v, e1, e2⟩ := ev_look_ok h2 ha
      obtain ⟨x, rfl, -⟩ := ev_isI e2 ht
      exact lv_iload_n hx hb hd rfl (lv_at hl z e1) (kk _ _ _ hl h2 ⟨e2, h1⟩)
    · cases hp
  · cases hp
theorem ev_r_iload {i : Nat} (hx : p.tables.exec = Jvm.exec) (hb : c.code = cc) (hd : decode cc pc = .ok (.iload i, len)) (hp : ev_ldI 2 i lv st = some (len, lv', st')) (hl : lv_has ls nL clv) (h2 : ev_g2 B b clv lv) (h1 : ev_g1 B b cst st) (kk : ∀ (ls' : Array Slot) (clv' : List (Nat × Value)) (cst' : List Value), lv_has ls' nL clv' → ev_g2 B b clv' lv' → ev_g1 B b cst' st' → W p l e R s m args below meth c H locs cells slots Q (F0 m (pc + len) ls' cst')) : W p l e R s m args below meth c H locs cells slots Q (F0 m pc ls cst) := by
  unfold ev_ldI at hp
  split at hp
  · split at hp
    · rename_i a ha ht
      cases hp
      obtain ⟨z, v, e1, e2⟩ := ev_look_ok h2 ha
      obtain ⟨x, rfl, -⟩ := ev_isI e2 ht
      exact lv_iload hx hb hd (lv_at hl z e1) (kk _ _ _ hl h2 ⟨e2, h1⟩)
    · cases hp
  · cases hp
theorem ev_r_lload_n {k : Fin 4} (hx : p.tables.exec = Jvm.exec) (hb : c.code = cc) (hd : decode cc pc = .ok (.lload_n k, len)) (hp : ev_ldL 1 (k : Nat) lv st = some (len, lv', st')) (hl : lv_has ls nL clv) (h2 : ev_g2 B b clv lv) (h1 : ev_g1 B b cst st) (kk : ∀ (ls' : Array Slot) (clv' : List (Nat × Value)) (cst' : List Value), lv_has ls' nL clv' → ev_g2 B b clv' lv' → ev_g1 B b cst' st' → W p l e R s m args below meth c H locs cells slots Q (F0 m (pc + len) ls' cst')) : W p l e R s m args below meth c H locs cells slots Q (F0 m pc ls cst) := by
  unfold ev_ldL at hp
  split at hp
  · split at hp
    · rename_i a ha ht
      cases hp
      obtain ⟨z, v, e1, e2⟩ := ev_look_ok h2 ha
      obtain ⟨x, rfl, -⟩ := ev_isL e2 ht
      exact lv_lload_n hx hb hd rfl (lv_at hl z e1) (kk _ _ _ hl h2 ⟨e2, h1⟩)
    · cases hp
  · cases hp
theorem ev_r_lload {i : Nat} (hx : p.tables.exec = Jvm.exec) (hb : c.code = cc) (hd : decode cc pc = .ok (.lload i, len)) (hp : ev_ldL 2 i lv st = some (len, lv', st')) (hl : lv_has ls nL clv) (h2 : ev_g2 B b clv lv) (h1 : ev_g1 B b cst st) (kk : ∀ (ls' : Array Slot) (clv' : List (Nat × Value)) (cst' : List Value), lv_has ls' nL clv' → ev_g2 B b clv' lv' → ev_g1 B b cst' st' → W p l e R s m args below meth c H locs cells slots Q (F0 m (pc + len) ls' cst')) : W p l e R s m args below meth c H locs cells slots Q (F0 m pc ls cst) := by
  unfold ev_ldL at hp
  split at hp
  · split at hp
    · rename_i a ha ht
      cases hp
      obtain ⟨z, v, e1, e2⟩ := ev_look_ok h2 ha
      obtain ⟨x, rfl, -⟩ := ev_isL e2 ht
      exact lv_lload hx hb hd (lv_at hl z e1) (kk _ _ _ hl h2 ⟨e2, h1⟩)
    · cases hp
  · cases hp
theorem ev_r_aload_n {k : Fin 4} (hx : p.tables.exec = Jvm.exec) (hb : c.code = cc) (hd : decode cc pc = .ok (.aload_n k, len)) (hp : ev_ldA 1 (k : Nat) lv st = some (len, lv', st')) (hl : lv_has ls nL clv) (h2 : ev_g2 B b clv lv) (h1 : ev_g1 B b cst st) (kk : ∀ (ls' : Array Slot) (clv' : List (Nat × Value)) (cst' : List Value), lv_has ls' nL clv' → ev_g2 B b clv' lv' → ev_g1 B b cst' st' → W p l e R s m args below meth c H locs cells slots Q (F0 m (pc + len) ls' cst')) : W p l e R s m args below meth c H locs cells slots Q (F0 m pc ls cst) := by
  unfold ev_ldA at hp
  split at hp
  · split at hp
    · cases hp
    · rename_i a ha ht
      cases hp
      obtain ⟨z, v, e1, e2⟩ := ev_look_ok h2 ha
      rcases ev_isA e2 (by simpa using ht) with rfl | ⟨q, rfl⟩
      · exact lv_aload_nN hx hb hd rfl (lv_at hl z e1) (kk _ _ _ hl h2 ⟨e2, h1⟩)
      · exact lv_aload_n hx hb hd rfl (lv_at hl z e1) (kk _ _ _ hl h2 ⟨e2, h1⟩)
  · cases hp
theorem ev_r_aload {i : Nat} (hx : p.tables.exec = Jvm.exec) (hb : c.code = cc) (hd : decode cc pc = .ok (.aload i, len)) (hp : ev_ldA 2 i lv st = some (len, lv', st')) (hl : lv_has ls nL clv) (h2 : ev_g2 B b clv lv) (h1 : ev_g1 B b cst st) (kk : ∀ (ls' : Array Slot) (clv' : List (Nat × Value)) (cst' : List Value), lv_has ls' nL clv' → ev_g2 B b clv' lv' → ev_g1 B b cst' st' → W p l e R s m args below meth c H locs cells slots Q (F0 m (pc + len) ls' cst')) : W p l e R s m args below meth c H locs cells slots Q (F0 m pc ls cst) := by
  unfold ev_ldA at hp
  split at hp
  · split at hp
    · cases hp
    · rename_i a ha ht
      cases hp
      obtain ⟨z, v, e1, e2⟩ := ev_look_ok h2 ha
      rcases ev_isA e2 (by simpa using ht) with rfl | ⟨q, rfl⟩
      · exact lv_aloadN hx hb hd (lv_at hl z e1) (kk _ _ _ hl h2 ⟨e2, h1⟩)
      · exact lv_aload hx hb hd (lv_at hl z e1) (kk _ _ _ hl h2 ⟨e2, h1⟩)
  · cases hp
theorem ev_r_istore_n {k : Fin 4} (hx : p.tables.exec = Jvm.exec) (hb : c.code = cc) (hd : decode cc pc = .ok (.istore_n k, len)) (hp : ev_stI nL 1 (k : Nat) lv st = some (len, lv', st')) (hl : lv_has ls nL clv) (h2 : ev_g2 B b clv lv) (h1 : ev_g1 B b cst st) (kk : ∀ (ls' : Array Slot) (clv' : List (Nat × Value)) (cst' : List Value), lv_has ls' nL clv' → ev_g2 B b clv' lv' → ev_g1 B b cst' st' → W p l e R s m args below meth c H locs cells slots Q (F0 m (pc + len) ls' cst')) : W p l e R s m args below meth c H locs cells slots Q (F0 m pc ls cst) := by
  unfold ev_stI at hp
  split at hp
  · split at hp
    · rename_i a r ht
      cases hp
      simp only [Bool.and_eq_true, decide_eq_true_eq] at ht
      obtain ⟨v, vs, rfl, e2, h1b⟩ := ev_cons h1
      obtain ⟨x, rfl, -⟩ := ev_isI e2 ht.1
      exact lv_istore_n hx hb hd rfl hl ht.2 rfl (fun ls' hl' => kk _ _ _ hl' (ev_put1_ok h2 e2) h1b)
    · cases hp
  · cases hp
theorem ev_r_istore {i : Nat} (hx : p.tables.exec = Jvm.exec) (hb : c.code = cc) (hd : decode cc pc = .ok (.istore i, len)) (hp : ev_stI nL 2 i lv st = some (len, lv', st')) (hl : lv_has ls nL clv) (h2 : ev_g2 B b clv lv) (h1 : ev_g1 B b cst st) (kk : ∀ (ls' : Array Slot) (clv' : List (Nat × Value)) (cst' : List Value), lv_has ls' nL clv' → ev_g2 B b clv' lv' → ev_g1 B b cst' st' → W p l e R s m args below meth c H locs cells slots Q (F0 m (pc + len) ls' cst')) : W p l e R s m args below meth c H locs cells slots Q (F0 m pc ls cst) := by
  unfold ev_stI at hp
  split at hp
  · split at hp
    · rename_i a r ht
      cases hp
      simp only [Bool.and_eq_true, decide_eq_true_eq] at ht
      obtain ⟨v, vs, rfl, e2, h1c⟩ := ev_cons h1
      obtain ⟨x, rfl, -⟩ := ev_isI e2 ht.1
      exact lv_istore hx hb hd hl ht.2 rfl (fun ls' hl' => kk _ _ _ hl' (ev_put1_ok h2 e2) h1c)
    · cases hp
  · cases hp
theorem ev_r_lstore_n {k : Fin 4} (hx : p.tables.exec = Jvm.exec) (hb : c.code = cc) (hd : decode cc pc = .ok (.lstore_n k, len)) (hp : ev_stL nL 1 (k : Nat) lv st = some (len, lv', st')) (hl : lv_has ls nL clv) (h2 : ev_g2 B b clv lv) (h1 : ev_g1 B b cst st) (kk : ∀ (ls' : Array Slot) (clv' : List (Nat × Value)) (cst' : List Value), lv_has ls' nL clv' → ev_g2 B b clv' lv' → ev_g1 B b cst' st' → W p l e R s m args below meth c H locs cells slots Q (F0 m (pc + len) ls' cst')) : W p l e R s m args below meth c H locs cells slots Q (F0 m pc ls cst) := by
  unfold ev_stL at hp
  split at hp
  · split at hp
    · rename_i a r ht
      cases hp
      simp only [Bool.and_eq_true, decide_eq_true_eq] at ht
      obtain ⟨v, vs, rfl, e2, h1d⟩ := ev_cons h1
      obtain ⟨x, rfl, -⟩ := ev_isL e2 ht.1
      exact lv_lstore_n hx hb hd rfl hl ht.2 rfl (fun ls' hl' => kk _ _ _ hl' (ev_put2_ok h2 e2) h1d)
    · cases hp
  · cases hp
theorem ev_r_lstore {i : Nat} (hx : p.tables.exec = Jvm.exec) (hb : c.code = cc) (hd : decode cc pc = .ok (.lstore i, len)) (hp : ev_stL nL 2 i lv st = some (len, lv', st')) (hl : lv_has ls nL clv) (h2 : ev_g2 B b clv lv) (h1 : ev_g1 B b cst st) (kk : ∀ (ls' : Array Slot) (clv' : List (Nat × Value)) (cst' : List Value), lv_has ls' nL clv' → ev_g2 B b clv' lv' → ev_g1 B b cst' st' → W p l e R s m args below meth c H locs cells slots Q (F0 m (pc + len) ls' cst')) : W p l e R s m args below meth c H locs cells slots Q (F0 m pc ls cst) := by
  unfold ev_stL at hp
  split at hp
  · split at hp
    · rename_i a r ht
      cases hp
      simp only [Bool.and_eq_true, decide_eq_true_eq] at ht
      obtain ⟨v, vs, rfl, e2, h1e⟩ := ev_cons h1
      obtain ⟨x, rfl, -⟩ := ev_isL e2 ht.1
      exact lv_lstore hx hb hd hl ht.2 rfl (fun ls' hl' => kk _ _ _ hl' (ev_put2_ok h2 e2) h1e)
    · cases hp
  · cases hp
theorem ev_r_astore_n {k : Fin 4} (hx : p.tables.exec = Jvm.exec) (hb : c.code = cc) (hd : decode cc pc = .ok (.astore_n k, len)) (hp : ev_stA nL 1 (k : Nat) lv st = some (len, lv', st')) (hl : lv_has ls nL clv) (h2 : ev_g2 B b clv lv) (h1 : ev_g1 B b cst st) (kk : ∀ (ls' : Array Slot) (clv' : List (Nat × Value)) (cst' : List Value), lv_has ls' nL clv' → ev_g2 B b clv' lv' → ev_g1 B b cst' st' → W p l e R s m args below meth c H locs cells slots Q (F0 m (pc + len) ls' cst')) : W p l e R s m args below meth c H locs cells slots Q (F0 m pc ls cst) := by
  unfold ev_stA at hp
  split at hp
  · split at hp
    · rename_i a r ht
      cases hp
      rw [Bool.and_eq_true, decide_eq_true_eq] at ht
      obtain ⟨v, vs, rfl, e2, h1f⟩ := ev_cons h1
      rcases ev_isA e2 (by simpa using ht.1) with rfl | ⟨q, rfl⟩
      · exact lv_astore_nN hx hb hd rfl hl ht.2 rfl (fun ls' hl' => kk _ _ _ hl' (ev_put1_ok h2 e2) h1f)
      · exact lv_astore_n hx hb hd rfl hl ht.2 rfl (fun ls' hl' => kk _ _ _ hl' (ev_put1_ok h2 e2) h1f)
    · cases hp
  · cases hp
theorem ev_r_astore {i : Nat} (hx : p.tables.exec = Jvm.exec) (hb : c.code = cc) (hd : decode cc pc = .ok (.astore i, len)) (hp : ev_stA nL 2 i lv st = some (len, lv', st')) (hl : lv_has ls nL clv) (h2 : ev_g2 B b clv lv) (h1 : ev_g1 B b cst st) (kk : ∀ (ls' : Array Slot) (clv' : List (Nat × Value)) (cst' : List Value), lv_has ls' nL clv' → ev_g2 B b clv' lv' → ev_g1 B b cst' st' → W p l e R s m args below meth c H locs cells slots Q (F0 m (pc + len) ls' cst')) : W p l e R s m args below meth c H locs cells slots Q (F0 m pc ls cst) := by
  unfold ev_stA at hp
  split at hp
  · split at hp
    · rename_i a r ht
      cases hp
      rw [Bool.and_eq_true, decide_eq_true_eq] at ht
      obtain ⟨v, vs, rfl, e2, h1g⟩ := ev_cons h1
      rcases ev_isA e2 (by simpa using ht.1) with rfl | ⟨q, rfl⟩
      · exact lv_astoreN hx hb hd hl ht.2 rfl (fun ls' hl' => kk _ _ _ hl' (ev_put1_ok h2 e2) h1g)
      · exact lv_astore hx hb hd hl ht.2 rfl (fun ls' hl' => kk _ _ _ hl' (ev_put1_ok h2 e2) h1g)
    · cases hp
  · cases hp
theorem ev_r_iinc {i : Nat} {n : Int} (hx : p.tables.exec = Jvm.exec) (hb : c.code = cc) (hd : decode cc pc = .ok (.iinc i n, len)) (hp : ev_inc nL i n lv st = some (len, lv', st')) (hl : lv_has ls nL clv) (h2 : ev_g2 B b clv lv) (h1 : ev_g1 B b cst st) (kk : ∀ (ls' : Array Slot) (clv' : List (Nat × Value)) (cst' : List Value), lv_has ls' nL clv' → ev_g2 B b clv' lv' → ev_g1 B b cst' st' → W p l e R s m args below meth c H locs cells slots Q (F0 m (pc + len) ls' cst')) : W p l e R s m args below meth c H locs cells slots Q (F0 m pc ls cst) := by
  unfold ev_inc at hp
  split at hp
  · split at hp
    · rename_i t l' h' ha ht
      cases hp
      simp only [Bool.and_eq_true, decide_eq_true_eq] at ht
      obtain ⟨z, v, e1, e2⟩ := ev_look_ok h2 ha
      obtain ⟨x, rfl, a1, a2⟩ := ev_isI e2 ht.1
      exact lv_iinc hx hb hd hl e1 rfl ht.2 rfl (fun ls' hl' => kk _ _ _ hl' (ev_put1_ok h2 (ev_add_ok a1 a2 (Int.le_refl _) (Int.le_refl _))) h1)
    · cases hp
  · cases hp
theorem ev_r_iadd (hx : p.tables.exec = Jvm.exec) (hb : c.code = cc) (hd : decode cc pc = .ok (.iadd, len)) (hp : ev_op2 0 0 ev_add lv st = some (len, lv', st')) (hl : lv_has ls nL clv) (h2 : ev_g2 B b clv lv) (h1 : ev_g1 B b cst st) (kk : ∀ (ls' : Array Slot) (clv' : List (Nat × Value)) (cst' : List Value), lv_has ls' nL clv' → ev_g2 B b clv' lv' → ev_g1 B b cst' st' → W p l e R s m args below meth c H locs cells slots Q (F0 m (pc + len) ls' cst')) : W p l e R s m args below meth c H locs cells slots Q (F0 m pc ls cst) := by
  obtain ⟨l1, g1, l2, g2, r, rfl, rfl, rfl, rfl⟩ := ev_op2_inv hp
  obtain ⟨v2, vs, rfl, e2, h1h⟩ := ev_cons h1
  obtain ⟨v1, vs, rfl, e1, h1a⟩ := ev_cons h1h
  obtain ⟨y, rfl, b1, b2⟩ := ev_int e2
  obtain ⟨x, rfl, a1, a2⟩ := ev_int e1
  exact lv_iadd hx hb hd (kk _ _ _ hl h2 ⟨ev_add_ok a1 a2 b1 b2, h1a⟩)
theorem ev_r_isub (hx : p.tables.exec = Jvm.exec) (hb : c.code = cc) (hd : decode cc pc = .ok (.isub, len)) (hp : ev_op2 0 0 ev_sub lv st = some (len, lv', st')) (hl : lv_has ls nL clv) (h2 : ev_g2 B b clv lv) (h1 : ev_g1 B b cst st) (kk : ∀ (ls' : Array Slot) (clv' : List (Nat × Value)) (cst' : List Value), lv_has ls' nL clv' → ev_g2 B b clv' lv' → ev_g1 B b cst' st' → W p l e R s m args below meth c H locs cells slots Q (F0 m (pc + len) ls' cst')) : W p l e R s m args below meth c H locs cells slots Q (F0 m pc ls cst) := by
  obtain ⟨l1, g1, l2, g2, r, rfl, rfl, rfl, rfl⟩ := ev_op2_inv hp
  obtain ⟨v2, vs, rfl, e2, h1b⟩ := ev_cons h1
  obtain ⟨v1, vs, rfl, e1, h1c⟩ := ev_cons h1b
  obtain ⟨y, rfl, b1, b2⟩ := ev_int e2
  obtain ⟨x, rfl, a1, a2⟩ := ev_int e1
  exact lv_isub hx hb hd (kk _ _ _ hl h2 ⟨ev_sub_ok a1 a2 b1 b2, h1c⟩)
theorem ev_r_imul (hx : p.tables.exec = Jvm.exec) (hb : c.code = cc) (hd : decode cc pc = .ok (.imul, len)) (hp : ev_op2 0 0 (ev_ib (fun x y => x * y)) lv st = some (len, lv', st')) (hl : lv_has ls nL clv) (h2 : ev_g2 B b clv lv) (h1 : ev_g1 B b cst st) (kk : ∀ (ls' : Array Slot) (clv' : List (Nat × Value)) (cst' : List Value), lv_has ls' nL clv' → ev_g2 B b clv' lv' → ev_g1 B b cst' st' → W p l e R s m args below meth c H locs cells slots Q (F0 m (pc + len) ls' cst')) : W p l e R s m args below meth c H locs cells slots Q (F0 m pc ls cst) := by
  obtain ⟨l1, g1, l2, g2, r, rfl, rfl, rfl, rfl⟩ := ev_op2_inv hp
  obtain ⟨v2, vs, rfl, e2, h1d⟩ := ev_cons h1
  obtain ⟨v1, vs, rfl, e1, h1e⟩ := ev_cons h1d
  obtain ⟨y, rfl, b1, b2⟩ := ev_int e2
  obtain ⟨x, rfl, a1, a2⟩ := ev_int e1
  exact lv_imul hx hb hd (kk _ _ _ hl h2 ⟨ev_ib_ok (fun x y => x * y) a1 a2 b1 b2, h1e⟩)
theorem ev_r_iand (hx : p.tables.exec = Jvm.exec) (hb : c.code = cc) (hd : decode cc pc = .ok (.iand, len)) (hp : ev_op2 0 0 (ev_ib (fun x y => x &&& y)) lv st = some (len, lv', st')) (hl : lv_has ls nL clv) (h2 : ev_g2 B b clv lv) (h1 : ev_g1 B b cst st) (kk : ∀ (ls' : Array Slot) (clv' : List (Nat × Value)) (cst' : List Value), lv_has ls' nL clv' → ev_g2 B b clv' lv' → ev_g1 B b cst' st' → W p l e R s m args below meth c H locs cells slots Q (F0 m (pc + len) ls' cst')) : W p l e R s m args below meth c H locs cells slots Q (F0 m pc ls cst) := by
  obtain ⟨l1, g1, l2, g2, r, rfl, rfl, rfl, rfl⟩ := ev_op2_inv hp
  obtain ⟨v2, vs, rfl, e2, h1f⟩ := ev_cons h1
  obtain ⟨v1, vs, rfl, e1, h1g⟩ := ev_cons h1f
  obtain ⟨y, rfl, b1, b2⟩ := ev_int e2
  obtain ⟨x, rfl, a1, a2⟩ := ev_int e1
  exact lv_iand hx hb hd (kk _ _ _ hl h2 ⟨ev_ib_ok (fun x y => x &&& y) a1 a2 b1 b2, h1g⟩)
theorem ev_r_ior (hx : p.tables.exec = Jvm.exec) (hb : c.code = cc) (hd : decode cc pc = .ok (.ior, len)) (hp : ev_op2 0 0 (ev_ib (fun x y => x ||| y)) lv st = some (len, lv', st')) (hl : lv_has ls nL clv) (h2 : ev_g2 B b clv lv) (h1 : ev_g1 B b cst st) (kk : ∀ (ls' : Array Slot) (clv' : List (Nat × Value)) (cst' : List Value), lv_has ls' nL clv' → ev_g2 B b clv' lv' → ev_g1 B b cst' st' → W p l e R s m args below meth c H locs cells slots Q (F0 m (pc + len) ls' cst')) : W p l e R s m args below meth c H locs cells slots Q (F0 m pc ls cst) := by
  obtain ⟨l1, g1, l2, g2, r, rfl, rfl, rfl, rfl⟩ := ev_op2_inv hp
  obtain ⟨v2, vs, rfl, e2, h1h⟩ := ev_cons h1
  obtain ⟨v1, vs, rfl, e1, h1a⟩ := ev_cons h1h
  obtain ⟨y, rfl, b1, b2⟩ := ev_int e2
  obtain ⟨x, rfl, a1, a2⟩ := ev_int e1
  exact lv_ior hx hb hd (kk _ _ _ hl h2 ⟨ev_ib_ok (fun x y => x ||| y) a1 a2 b1 b2, h1a⟩)
theorem ev_r_ixor (hx : p.tables.exec = Jvm.exec) (hb : c.code = cc) (hd : decode cc pc = .ok (.ixor, len)) (hp : ev_op2 0 0 (ev_ib (fun x y => x ^^^ y)) lv st = some (len, lv', st')) (hl : lv_has ls nL clv) (h2 : ev_g2 B b clv lv) (h1 : ev_g1 B b cst st) (kk : ∀ (ls' : Array Slot) (clv' : List (Nat × Value)) (cst' : List Value), lv_has ls' nL clv' → ev_g2 B b clv' lv' → ev_g1 B b cst' st' → W p l e R s m args below meth c H locs cells slots Q (F0 m (pc + len) ls' cst')) : W p l e R s m args below meth c H locs cells slots Q (F0 m pc ls cst) := by
  obtain ⟨l1, g1, l2, g2, r, rfl, rfl, rfl, rfl⟩ := ev_op2_inv hp
  obtain ⟨v2, vs, rfl, e2, h1b⟩ := ev_cons h1
  obtain ⟨v1, vs, rfl, e1, h1c⟩ := ev_cons h1b
  obtain ⟨y, rfl, b1, b2⟩ := ev_int e2
  obtain ⟨x, rfl, a1, a2⟩ := ev_int e1
  exact lv_ixor hx hb hd (kk _ _ _ hl h2 ⟨ev_ib_ok (fun x y => x ^^^ y) a1 a2 b1 b2, h1c⟩)
theorem ev_r_ishl (hx : p.tables.exec = Jvm.exec) (hb : c.code = cc) (hd : decode cc pc = .ok (.ishl, len)) (hp : ev_op2 0 0 (ev_ib (fun x y => x <<< (y &&& 31))) lv st = some (len, lv', st')) (hl : lv_has ls nL clv) (h2 : ev_g2 B b clv lv) (h1 : ev_g1 B b cst st) (kk : ∀ (ls' : Array Slot) (clv' : List (Nat × Value)) (cst' : List Value), lv_has ls' nL clv' → ev_g2 B b clv' lv' → ev_g1 B b cst' st' → W p l e R s m args below meth c H locs cells slots Q (F0 m (pc + len) ls' cst')) : W p l e R s m args below meth c H locs cells slots Q (F0 m pc ls cst) := by
  obtain ⟨l1, g1, l2, g2, r, rfl, rfl, rfl, rfl⟩ := ev_op2_inv hp
  obtain ⟨v2, vs, rfl, e2, h1d⟩ := ev_cons h1
  obtain ⟨v1, vs, rfl, e1, h1e⟩ := ev_cons h1d
  obtain ⟨y, rfl, b1, b2⟩ := ev_int e2
  obtain ⟨x, rfl, a1, a2⟩ := ev_int e1
  exact lv_ishl hx hb hd (kk _ _ _ hl h2 ⟨ev_ib_ok (fun x y => x <<< (y &&& 31)) a1 a2 b1 b2, h1e⟩)
theorem ev_r_ishr (hx : p.tables.exec = Jvm.exec) (hb : c.code = cc) (hd : decode cc pc = .ok (.ishr, len)) (hp : ev_op2 0 0 (ev_ib (fun x y => x >>> (y &&& 31))) lv st = some (len, lv', st')) (hl : lv_has ls nL clv) (h2 : ev_g2 B b clv lv) (h1 : ev_g1 B b cst st) (kk : ∀ (ls' : Array Slot) (clv' : List (Nat × Value)) (cst' : List Value), lv_has ls' nL clv' → ev_g2 B b clv' lv' → ev_g1 B b cst' st' → W p l e R s m args below meth c H locs cells slots Q (F0 m (pc + len) ls' cst')) : W p l e R s m args below meth c H locs cells slots Q (F0 m pc ls cst) := by
  obtain ⟨l1, g1, l2, g2, r, rfl, rfl, rfl, rfl⟩ := ev_op2_inv hp
  obtain ⟨v2, vs, rfl, e2, h1f⟩ := ev_cons h1
  obtain ⟨v1, vs, rfl, e1, h1g⟩ := ev_cons h1f
  obtain ⟨y, rfl, b1, b2⟩ := ev_int e2
  obtain ⟨x, rfl, a1, a2⟩ := ev_int e1
  exact lv_ishr hx hb hd (kk _ _ _ hl h2 ⟨ev_ib_ok (fun x y => x >>> (y &&& 31)) a1 a2 b1 b2, h1g⟩)
theorem ev_r_iushr (hx : p.tables.exec = Jvm.exec) (hb : c.code = cc) (hd : decode cc pc = .ok (.iushr, len)) (hp : ev_op2 0 0 (ev_ib (fun x y => (x.toUInt32 >>> (y.toUInt32 &&& Int32.toUInt32 31)).toInt32)) lv st = some (len, lv', st')) (hl : lv_has ls nL clv) (h2 : ev_g2 B b clv lv) (h1 : ev_g1 B b cst st) (kk : ∀ (ls' : Array Slot) (clv' : List (Nat × Value)) (cst' : List Value), lv_has ls' nL clv' → ev_g2 B b clv' lv' → ev_g1 B b cst' st' → W p l e R s m args below meth c H locs cells slots Q (F0 m (pc + len) ls' cst')) : W p l e R s m args below meth c H locs cells slots Q (F0 m pc ls cst) := by
  obtain ⟨l1, g1, l2, g2, r, rfl, rfl, rfl, rfl⟩ := ev_op2_inv hp
  obtain ⟨v2, vs, rfl, e2, h1h⟩ := ev_cons h1
  obtain ⟨v1, vs, rfl, e1, h1a⟩ := ev_cons h1h
  obtain ⟨y, rfl, b1, b2⟩ := ev_int e2
  obtain ⟨x, rfl, a1, a2⟩ := ev_int e1
  exact lv_iushr hx hb hd rfl (kk _ _ _ hl h2 ⟨ev_ib_ok (fun x y => (x.toUInt32 >>> (y.toUInt32 &&& Int32.toUInt32 31)).toInt32) a1 a2 b1 b2, h1a⟩)
theorem ev_r_ladd (hx : p.tables.exec = Jvm.exec) (hb : c.code = cc) (hd : decode cc pc = .ok (.ladd, len)) (hp : ev_op2 1 1 (ev_lb (fun x y => x + y)) lv st = some (len, lv', st')) (hl : lv_has ls nL clv) (h2 : ev_g2 B b clv lv) (h1 : ev_g1 B b cst st) (kk : ∀ (ls' : Array Slot) (clv' : List (Nat × Value)) (cst' : List Value), lv_has ls' nL clv' → ev_g2 B b clv' lv' → ev_g1 B b cst' st' → W p l e R s m args below meth c H locs cells slots Q (F0 m (pc + len) ls' cst')) : W p l e R s m args below meth c H locs cells slots Q (F0 m pc ls cst) := by
  obtain ⟨l1, g1, l2, g2, r, rfl, rfl, rfl, rfl⟩ := ev_op2_inv hp
  obtain ⟨v2, vs, rfl, e2, h1b⟩ := ev_cons h1
  obtain ⟨v1, vs, rfl, e1, h1c⟩ := ev_cons h1b
  obtain ⟨y, rfl, b1, b2⟩ := ev_long e2
  obtain ⟨x, rfl, a1, a2⟩ := ev_long e1
  exact lv_ladd hx hb hd (kk _ _ _ hl h2 ⟨ev_lb_ok (fun x y => x + y) a1 a2 b1 b2, h1c⟩)
theorem ev_r_lsub (hx : p.tables.exec = Jvm.exec) (hb : c.code = cc) (hd : decode cc pc = .ok (.lsub, len)) (hp : ev_op2 1 1 (ev_lb (fun x y => x - y)) lv st = some (len, lv', st')) (hl : lv_has ls nL clv) (h2 : ev_g2 B b clv lv) (h1 : ev_g1 B b cst st) (kk : ∀ (ls' : Array Slot) (clv' : List (Nat × Value)) (cst' : List Value), lv_has ls' nL clv' → ev_g2 B b clv' lv' → ev_g1 B b cst' st' → W p l e R s m args below meth c H locs cells slots Q (F0 m (pc + len) ls' cst')) : W p l e R s m args below meth c H locs cells slots Q (F0 m pc ls cst) := by
  obtain ⟨l1, g1, l2, g2, r, rfl, rfl, rfl, rfl⟩ := ev_op2_inv hp
  obtain ⟨v2, vs, rfl, e2, h1d⟩ := ev_cons h1
  obtain ⟨v1, vs, rfl, e1, h1e⟩ := ev_cons h1d
  obtain ⟨y, rfl, b1, b2⟩ := ev_long e2
  obtain ⟨x, rfl, a1, a2⟩ := ev_long e1
  exact lv_lsub hx hb hd (kk _ _ _ hl h2 ⟨ev_lb_ok (fun x y => x - y) a1 a2 b1 b2, h1e⟩)
theorem ev_r_lmul (hx : p.tables.exec = Jvm.exec) (hb : c.code = cc) (hd : decode cc pc = .ok (.lmul, len)) (hp : ev_op2 1 1 (ev_lb (fun x y => x * y)) lv st = some (len, lv', st')) (hl : lv_has ls nL clv) (h2 : ev_g2 B b clv lv) (h1 : ev_g1 B b cst st) (kk : ∀ (ls' : Array Slot) (clv' : List (Nat × Value)) (cst' : List Value), lv_has ls' nL clv' → ev_g2 B b clv' lv' → ev_g1 B b cst' st' → W p l e R s m args below meth c H locs cells slots Q (F0 m (pc + len) ls' cst')) : W p l e R s m args below meth c H locs cells slots Q (F0 m pc ls cst) := by
  obtain ⟨l1, g1, l2, g2, r, rfl, rfl, rfl, rfl⟩ := ev_op2_inv hp
  obtain ⟨v2, vs, rfl, e2, h1f⟩ := ev_cons h1
  obtain ⟨v1, vs, rfl, e1, h1g⟩ := ev_cons h1f
  obtain ⟨y, rfl, b1, b2⟩ := ev_long e2
  obtain ⟨x, rfl, a1, a2⟩ := ev_long e1
  exact lv_lmul hx hb hd (kk _ _ _ hl h2 ⟨ev_lb_ok (fun x y => x * y) a1 a2 b1 b2, h1g⟩)
theorem ev_r_land (hx : p.tables.exec = Jvm.exec) (hb : c.code = cc) (hd : decode cc pc = .ok (.land, len)) (hp : ev_op2 1 1 (ev_lb (fun x y => x &&& y)) lv st = some (len, lv', st')) (hl : lv_has ls nL clv) (h2 : ev_g2 B b clv lv) (h1 : ev_g1 B b cst st) (kk : ∀ (ls' : Array Slot) (clv' : List (Nat × Value)) (cst' : List Value), lv_has ls' nL clv' → ev_g2 B b clv' lv' → ev_g1 B b cst' st' → W p l e R s m args below meth c H locs cells slots Q (F0 m (pc + len) ls' cst')) : W p l e R s m args below meth c H locs cells slots Q (F0 m pc ls cst) := by
  obtain ⟨l1, g1, l2, g2, r, rfl, rfl, rfl, rfl⟩ := ev_op2_inv hp
  obtain ⟨v2, vs, rfl, e2, h1h⟩ := ev_cons h1
  obtain ⟨v1, vs, rfl, e1, h1a⟩ := ev_cons h1h
  obtain ⟨y, rfl, b1, b2⟩ := ev_long e2
  obtain ⟨x, rfl, a1, a2⟩ := ev_long e1
  exact lv_land hx hb hd (kk _ _ _ hl h2 ⟨ev_lb_ok (fun x y => x &&& y) a1 a2 b1 b2, h1a⟩)
theorem ev_r_lor (hx : p.tables.exec = Jvm.exec) (hb : c.code = cc) (hd : decode cc pc = .ok (.lor, len)) (hp : ev_op2 1 1 (ev_lb (fun x y => x ||| y)) lv st = some (len, lv', st')) (hl : lv_has ls nL clv) (h2 : ev_g2 B b clv lv) (h1 : ev_g1 B b cst st) (kk : ∀ (ls' : Array Slot) (clv' : List (Nat × Value)) (cst' : List Value), lv_has ls' nL clv' → ev_g2 B b clv' lv' → ev_g1 B b cst' st' → W p l e R s m args below meth c H locs cells slots Q (F0 m (pc + len) ls' cst')) : W p l e R s m args below meth c H locs cells slots Q (F0 m pc ls cst) := by
  obtain ⟨l1, g1, l2, g2, r, rfl, rfl, rfl, rfl⟩ := ev_op2_inv hp
  obtain ⟨v2, vs, rfl, e2, h1b⟩ := ev_cons h1
  obtain ⟨v1, vs, rfl, e1, h1c⟩ := ev_cons h1b
  obtain ⟨y, rfl, b1, b2⟩ := ev_long e2
  obtain ⟨x, rfl, a1, a2⟩ := ev_long e1
  exact lv_lor hx hb hd (kk _ _ _ hl h2 ⟨ev_lb_ok (fun x y => x ||| y) a1 a2 b1 b2, h1c⟩)
theorem ev_r_lxor (hx : p.tables.exec = Jvm.exec) (hb : c.code = cc) (hd : decode cc pc = .ok (.lxor, len)) (hp : ev_op2 1 1 (ev_lb (fun x y => x ^^^ y)) lv st = some (len, lv', st')) (hl : lv_has ls nL clv) (h2 : ev_g2 B b clv lv) (h1 : ev_g1 B b cst st) (kk : ∀ (ls' : Array Slot) (clv' : List (Nat × Value)) (cst' : List Value), lv_has ls' nL clv' → ev_g2 B b clv' lv' → ev_g1 B b cst' st' → W p l e R s m args below meth c H locs cells slots Q (F0 m (pc + len) ls' cst')) : W p l e R s m args below meth c H locs cells slots Q (F0 m pc ls cst) := by
  obtain ⟨l1, g1, l2, g2, r, rfl, rfl, rfl, rfl⟩ := ev_op2_inv hp
  obtain ⟨v2, vs, rfl, e2, h1d⟩ := ev_cons h1
  obtain ⟨v1, vs, rfl, e1, h1e⟩ := ev_cons h1d
  obtain ⟨y, rfl, b1, b2⟩ := ev_long e2
  obtain ⟨x, rfl, a1, a2⟩ := ev_long e1
  exact lv_lxor hx hb hd (kk _ _ _ hl h2 ⟨ev_lb_ok (fun x y => x ^^^ y) a1 a2 b1 b2, h1e⟩)
theorem ev_r_lshl (hx : p.tables.exec = Jvm.exec) (hb : c.code = cc) (hd : decode cc pc = .ok (.lshl, len)) (hp : ev_op2 1 0 (ev_ls (fun x y => x <<< (y.toInt64 &&& 63))) lv st = some (len, lv', st')) (hl : lv_has ls nL clv) (h2 : ev_g2 B b clv lv) (h1 : ev_g1 B b cst st) (kk : ∀ (ls' : Array Slot) (clv' : List (Nat × Value)) (cst' : List Value), lv_has ls' nL clv' → ev_g2 B b clv' lv' → ev_g1 B b cst' st' → W p l e R s m args below meth c H locs cells slots Q (F0 m (pc + len) ls' cst')) : W p l e R s m args below meth c H locs cells slots Q (F0 m pc ls cst) := by
  obtain ⟨l1, g1, l2, g2, r, rfl, rfl, rfl, rfl⟩ := ev_op2_inv hp
  obtain ⟨v2, vs, rfl, e2, h1f⟩ := ev_cons h1
  obtain ⟨v1, vs, rfl, e1, h1g⟩ := ev_cons h1f
  obtain ⟨y, rfl, b1, b2⟩ := ev_int e2
  obtain ⟨x, rfl, a1, a2⟩ := ev_long e1
  exact lv_lshl hx hb hd rfl (kk _ _ _ hl h2 ⟨ev_ls_ok (fun x y => x <<< (y.toInt64 &&& 63)) a1 a2 b1 b2, h1g⟩)
theorem ev_r_lshr (hx : p.tables.exec = Jvm.exec) (hb : c.code = cc) (hd : decode cc pc = .ok (.lshr, len)) (hp : ev_op2 1 0 (ev_ls (fun x y => x >>> (y.toInt64 &&& 63))) lv st = some (len, lv', st')) (hl : lv_has ls nL clv) (h2 : ev_g2 B b clv lv) (h1 : ev_g1 B b cst st) (kk : ∀ (ls' : Array Slot) (clv' : List (Nat × Value)) (cst' : List Value), lv_has ls' nL clv' → ev_g2 B b clv' lv' → ev_g1 B b cst' st' → W p l e R s m args below meth c H locs cells slots Q (F0 m (pc + len) ls' cst')) : W p l e R s m args below meth c H locs cells slots Q (F0 m pc ls cst) := by
  obtain ⟨l1, g1, l2, g2, r, rfl, rfl, rfl, rfl⟩ := ev_op2_inv hp
  obtain ⟨v2, vs, rfl, e2, h1h⟩ := ev_cons h1
  obtain ⟨v1, vs, rfl, e1, h1a⟩ := ev_cons h1h
  obtain ⟨y, rfl, b1, b2⟩ := ev_int e2
  obtain ⟨x, rfl, a1, a2⟩ := ev_long e1
  exact lv_lshr hx hb hd rfl (kk _ _ _ hl h2 ⟨ev_ls_ok (fun x y => x >>> (y.toInt64 &&& 63)) a1 a2 b1 b2, h1a⟩)
theorem ev_r_lushr (hx : p.tables.exec = Jvm.exec) (hb : c.code = cc) (hd : decode cc pc = .ok (.lushr, len)) (hp : ev_op2 1 0 (ev_ls (fun x y => (x.toUInt64 >>> (y.toInt64.toUInt64 &&& Int64.toUInt64 63)).toInt64)) lv st = some (len, lv', st')) (hl : lv_has ls nL clv) (h2 : ev_g2 B b clv lv) (h1 : ev_g1 B b cst st) (kk : ∀ (ls' : Array Slot) (clv' : List (Nat × Value)) (cst' : List Value), lv_has ls' nL clv' → ev_g2 B b clv' lv' → ev_g1 B b cst' st' → W p l e R s m args below meth c H locs cells slots Q (F0 m (pc + len) ls' cst')) : W p l e R s m args below meth c H locs cells slots Q (F0 m pc ls cst) := by
  obtain ⟨l1, g1, l2, g2, r, rfl, rfl, rfl, rfl⟩ := ev_op2_inv hp
  obtain ⟨v2, vs, rfl, e2, h1b⟩ := ev_cons h1
  obtain ⟨v1, vs, rfl, e1, h1c⟩ := ev_cons h1b
  obtain ⟨y, rfl, b1, b2⟩ := ev_int e2
  obtain ⟨x, rfl, a1, a2⟩ := ev_long e1
  exact lv_lushr hx hb hd rfl (kk _ _ _ hl h2 ⟨ev_ls_ok (fun x y => (x.toUInt64 >>> (y.toInt64.toUInt64 &&& Int64.toUInt64 63)).toInt64) a1 a2 b1 b2, h1c⟩)
theorem ev_r_lcmp (hx : p.tables.exec = Jvm.exec) (hb : c.code = cc) (hd : decode cc pc = .ok (.lcmp, len)) (hp : ev_op2 1 1 ev_cmp lv st = some (len, lv', st')) (hl : lv_has ls nL clv) (h2 : ev_g2 B b clv lv) (h1 : ev_g1 B b cst st) (kk : ∀ (ls' : Array Slot) (clv' : List (Nat × Value)) (cst' : List Value), lv_has ls' nL clv' → ev_g2 B b clv' lv' → ev_g1 B b cst' st' → W p l e R s m args below meth c H locs cells slots Q (F0 m (pc + len) ls' cst')) : W p l e R s m args below meth c H locs cells slots Q (F0 m pc ls cst) := by
  obtain ⟨l1, g1, l2, g2, r, rfl, rfl, rfl, rfl⟩ := ev_op2_inv hp
  obtain ⟨v2, vs, rfl, e2, h1d⟩ := ev_cons h1
  obtain ⟨v1, vs, rfl, e1, h1e⟩ := ev_cons h1d
  obtain ⟨y, rfl, b1, b2⟩ := ev_long e2
  obtain ⟨x, rfl, a1, a2⟩ := ev_long e1
  exact W.lcmp hx hb hd (kk _ _ _ hl h2 ⟨ev_cmp_ok a1 a2 b1 b2, h1e⟩)
theorem ev_r_idiv (hx : p.tables.exec = Jvm.exec) (hb : c.code = cc) (hd : decode cc pc = .ok (.idiv, len)) (hp : ev_opd 0 (ev_ib (fun x y => x / y)) lv st = some (len, lv', st')) (hl : lv_has ls nL clv) (h2 : ev_g2 B b clv lv) (h1 : ev_g1 B b cst st) (kk : ∀ (ls' : Array Slot) (clv' : List (Nat × Value)) (cst' : List Value), lv_has ls' nL clv' → ev_g2 B b clv' lv' → ev_g1 B b cst' st' → W p l e R s m args below meth c H locs cells slots Q (F0 m (pc + len) ls' cst')) : W p l e R s m args below meth c H locs cells slots Q (F0 m pc ls cst) := by
  obtain ⟨l1, g1, l2, g2, r, rfl, hz, rfl, rfl, rfl⟩ := ev_opd_inv hp
  obtain ⟨v2, vs, rfl, e2, h1f⟩ := ev_cons h1
  obtain ⟨v1, vs, rfl, e1, h1g⟩ := ev_cons h1f
  obtain ⟨y, rfl, b1, b2⟩ := ev_int e2
  obtain ⟨x, rfl, a1, a2⟩ := ev_int e1
  exact lv_idiv hx hb hd (ev_n0 b1 b2 hz) (kk _ _ _ hl h2 ⟨ev_ib_ok (fun x y => x / y) a1 a2 b1 b2, h1g⟩)
theorem ev_r_irem (hx : p.tables.exec = Jvm.exec) (hb : c.code = cc) (hd : decode cc pc = .ok (.irem, len)) (hp : ev_opd 0 (ev_ib (fun x y => x - x / y * y)) lv st = some (len, lv', st')) (hl : lv_has ls nL clv) (h2 : ev_g2 B b clv lv) (h1 : ev_g1 B b cst st) (kk : ∀ (ls' : Array Slot) (clv' : List (Nat × Value)) (cst' : List Value), lv_has ls' nL clv' → ev_g2 B b clv' lv' → ev_g1 B b cst' st' → W p l e R s m args below meth c H locs cells slots Q (F0 m (pc + len) ls' cst')) : W p l e R s m args below meth c H locs cells slots Q (F0 m pc ls cst) := by
  obtain ⟨l1, g1, l2, g2, r, rfl, hz, rfl, rfl, rfl⟩ := ev_opd_inv hp
  obtain ⟨v2, vs, rfl, e2, h1h⟩ := ev_cons h1
  obtain ⟨v1, vs, rfl, e1, h1a⟩ := ev_cons h1h
  obtain ⟨y, rfl, b1, b2⟩ := ev_int e2
  obtain ⟨x, rfl, a1, a2⟩ := ev_int e1
  exact lv_irem hx hb hd (ev_n0 b1 b2 hz) (kk _ _ _ hl h2 ⟨ev_ib_ok (fun x y => x - x / y * y) a1 a2 b1 b2, h1a⟩)
theorem ev_r_ldiv (hx : p.tables.exec = Jvm.exec) (hb : c.code = cc) (hd : decode cc pc = .ok (.ldiv, len)) (hp : ev_opd 1 (ev_lb (fun x y => x / y)) lv st = some (len, lv', st')) (hl : lv_has ls nL clv) (h2 : ev_g2 B b clv lv) (h1 : ev_g1 B b cst st) (kk : ∀ (ls' : Array Slot) (clv' : List (Nat × Value)) (cst' : List Value), lv_has ls' nL clv' → ev_g2 B b clv' lv' → ev_g1 B b cst' st' → W p l e R s m args below meth c H locs cells slots Q (F0 m (pc + len) ls' cst')) : W p l e R s m args below meth c H locs cells slots Q (F0 m pc ls cst) := by
  obtain ⟨l1, g1, l2, g2, r, rfl, hz, rfl, rfl, rfl⟩ := ev_opd_inv hp
  obtain ⟨v2, vs, rfl, e2, h1b⟩ := ev_cons h1
  obtain ⟨v1, vs, rfl, e1, h1c⟩ := ev_cons h1b
  obtain ⟨y, rfl, b1, b2⟩ := ev_long e2
  obtain ⟨x, rfl, a1, a2⟩ := ev_long e1
  exact lv_ldiv hx hb hd (ev_n0L b1 b2 hz) (kk _ _ _ hl h2 ⟨ev_lb_ok (fun x y => x / y) a1 a2 b1 b2, h1c⟩)
theorem ev_r_lrem (hx : p.tables.exec = Jvm.exec) (hb : c.code = cc) (hd : decode cc pc = .ok (.lrem, len)) (hp : ev_opd 1 (ev_lb (fun x y => x - x / y * y)) lv st = some (len, lv', st')) (hl : lv_has ls nL clv) (h2 : ev_g2 B b clv lv) (h1 : ev_g1 B b cst st) (kk : ∀ (ls' : Array Slot) (clv' : List (Nat × Value)) (cst' : List Value), lv_has ls' nL clv' → ev_g2 B b clv' lv' → ev_g1 B b cst' st' → W p l e R s m args below meth c H locs cells slots Q (F0 m (pc + len) ls' cst')) : W p l e R s m args below meth c H locs cells slots Q (F0 m pc ls cst) := by
  obtain ⟨l1, g1, l2, g2, r, rfl, hz, rfl, rfl, rfl⟩ := ev_opd_inv hp
  obtain ⟨v2, vs, rfl, e2, h1d⟩ := ev_cons h1
  obtain ⟨v1, vs, rfl, e1, h1e⟩ := ev_cons h1d
  obtain ⟨y, rfl, b1, b2⟩ := ev_long e2
  obtain ⟨x, rfl, a1, a2⟩ := ev_long e1
  exact lv_lrem hx hb hd (ev_n0L b1 b2 hz) (kk _ _ _ hl h2 ⟨ev_lb_ok (fun x y => x - x / y * y) a1 a2 b1 b2, h1e⟩)
theorem ev_r_i2l (hx : p.tables.exec = Jvm.exec) (hb : c.code = cc) (hd : decode cc pc = .ok (.i2l, len)) (hp : ev_op1 0 ev_i2l lv st = some (len, lv', st')) (hl : lv_has ls nL clv) (h2 : ev_g2 B b clv lv) (h1 : ev_g1 B b cst st) (kk : ∀ (ls' : Array Slot) (clv' : List (Nat × Value)) (cst' : List Value), lv_has ls' nL clv' → ev_g2 B b clv' lv' → ev_g1 B b cst' st' → W p l e R s m args below meth c H locs cells slots Q (F0 m (pc + len) ls' cst')) : W p l e R s m args below meth c H locs cells slots Q (F0 m pc ls cst) := by
  obtain ⟨l1, g1, r, rfl, rfl, rfl, rfl⟩ := ev_op1_inv hp
  obtain ⟨v1, vs, rfl, e1, h1f⟩ := ev_cons h1
  obtain ⟨x, rfl, a1, a2⟩ := ev_int e1
  exact lv_i2l hx hb hd rfl (kk _ _ _ hl h2 ⟨ev_i2l_ok a1 a2, h1f⟩)
theorem ev_r_l2i (hx : p.tables.exec = Jvm.exec) (hb : c.code = cc) (hd : decode cc pc = .ok (.l2i, len)) (hp : ev_op1 1 ev_l2i lv st = some (len, lv', st')) (hl : lv_has ls nL clv) (h2 : ev_g2 B b clv lv) (h1 : ev_g1 B b cst st) (kk : ∀ (ls' : Array Slot) (clv' : List (Nat × Value)) (cst' : List Value), lv_has ls' nL clv' → ev_g2 B b clv' lv' → ev_g1 B b cst' st' → W p l e R s m args below meth c H locs cells slots Q (F0 m (pc + len) ls' cst')) : W p l e R s m args below meth c H locs cells slots Q (F0 m pc ls cst) := by
  obtain ⟨l1, g1, r, rfl, rfl, rfl, rfl⟩ := ev_op1_inv hp
  obtain ⟨v1, vs, rfl, e1, h1g⟩ := ev_cons h1
  obtain ⟨x, rfl, a1, a2⟩ := ev_long e1
  exact lv_l2i hx hb hd rfl (kk _ _ _ hl h2 ⟨ev_l2i_ok a1 a2, h1g⟩)
theorem ev_r_dup (hx : p.tables.exec = Jvm.exec) (hb : c.code = cc) (hd : decode cc pc = .ok (.dup, len)) (hp : ev_dup lv st = some (len, lv', st')) (hl : lv_has ls nL clv) (h2 : ev_g2 B b clv lv) (h1 : ev_g1 B b cst st) (kk : ∀ (ls' : Array Slot) (clv' : List (Nat × Value)) (cst' : List Value), lv_has ls' nL clv' → ev_g2 B b clv' lv' → ev_g1 B b cst' st' → W p l e R s m args below meth c H locs cells slots Q (F0 m (pc + len) ls' cst')) : W p l e R s m args below meth c H locs cells slots Q (F0 m pc ls cst) := by
  unfold ev_dup at hp
  split at hp
  · split at hp
    · cases hp
    · rename_i a r ht
      cases hp
      obtain ⟨v, vs, rfl, e2, h1h⟩ := ev_cons h1
      exact lv_dup hx hb hd (ev_cat1 e2 (by simpa using ht)) (kk _ _ _ hl h2 ⟨e2, e2, h1h⟩)
  · cases hp
theorem ev_r_pop (hx : p.tables.exec = Jvm.exec) (hb : c.code = cc) (hd : decode cc pc = .ok (.pop, len)) (hp : ev_pop lv st = some (len, lv', st')) (hl : lv_has ls nL clv) (h2 : ev_g2 B b clv lv) (h1 : ev_g1 B b cst st) (kk : ∀ (ls' : Array Slot) (clv' : List (Nat × Value)) (cst' : List Value), lv_has ls' nL clv' → ev_g2 B b clv' lv' → ev_g1 B b cst' st' → W p l e R s m args below meth c H locs cells slots Q (F0 m (pc + len) ls' cst')) : W p l e R s m args below meth c H locs cells slots Q (F0 m pc ls cst) := by
  unfold ev_pop at hp
  split at hp
  · split at hp
    · cases hp
    · rename_i a r ht
      cases hp
      obtain ⟨v, vs, rfl, e2, h1a⟩ := ev_cons h1
      exact lv_pop hx hb hd (ev_cat1 e2 (by simpa using ht)) (kk _ _ _ hl h2 h1a)
  · cases hp
theorem ev_r_dup2 (hx : p.tables.exec = Jvm.exec) (hb : c.code = cc) (hd : decode cc pc = .ok (.dup2, len)) (hp : ev_dup2 lv st = some (len, lv', st')) (hl : lv_has ls nL clv) (h2 : ev_g2 B b clv lv) (h1 : ev_g1 B b cst st) (kk : ∀ (ls' : Array Slot) (clv' : List (Nat × Value)) (cst' : List Value), lv_has ls' nL clv' → ev_g2 B b clv' lv' → ev_g1 B b cst' st' → W p l e R s m args below meth c H locs cells slots Q (F0 m (pc + len) ls' cst')) : W p l e R s m args below meth c H locs cells slots Q (F0 m pc ls cst) := by
  unfold ev_dup2 at hp
  split at hp
  · split at hp
    · rename_i a r ht
      cases hp
      obtain ⟨v, vs, rfl, e2, u1⟩ := ev_cons h1
      exact lv_dup2_2 hx hb hd (ev_cat2 e2 ht) (kk _ _ _ hl h2 ⟨e2, e2, u1⟩)
    · rename_i a r ht
      split at hp
      · split at hp
        · cases hp
        · rename_i a' r' ht'
          cases hp
          obtain ⟨v, vs, rfl, e2, u1⟩ := ev_cons h1
          obtain ⟨v', vs, rfl, e3, u2⟩ := ev_cons u1
          exact lv_dup2_11 hx hb hd (ev_cat1 e2 (by simpa using ht)) (ev_cat1 e3 (by simpa using ht')) (kk _ _ _ hl h2 ⟨e2, e3, e2, e3, u2⟩)
      · cases hp
  · cases hp
theorem ev_pure_ok {ins : Instr} (hx : p.tables.exec = Jvm.exec) (hb : c.code = cc) (hd : decode cc pc = .ok (ins, len)) (hp : ev_pure nL ins lv st = some (len, lv', st')) (hl : lv_has ls nL clv) (h2 : ev_g2 B b clv lv) (h1 : ev_g1 B b cst st) (kk : ∀ (ls' : Array Slot) (clv' : List (Nat × Value)) (cst' : List Value), lv_has ls' nL clv' → ev_g2 B b clv' lv' → ev_g1 B b cst' st' → W p l e R s m args below meth c H locs cells slots Q (F0 m (pc + len) ls' cst')) : W p l e R s m args below meth c H locs cells slots Q (F0 m pc ls cst) := by
  cases ins
  case iconst n => cases hp; exact lv_iconst hx hb hd rfl (kk _ _ _ hl h2 ⟨ev_I_ok _, h1⟩)
  case bipush n => cases hp; exact lv_bipush hx hb hd rfl (kk _ _ _ hl h2 ⟨ev_I_ok _, h1⟩)
  case sipush n => cases hp; exact lv_sipush hx hb hd rfl (kk _ _ _ hl h2 ⟨ev_I_ok _, h1⟩)
  case lconst n => cases hp; exact lv_lconst hx hb hd rfl (kk _ _ _ hl h2 ⟨ev_J_ok _, h1⟩)
  case aconst_null => cases hp; exact lv_null hx hb hd (kk _ _ _ hl h2 ⟨rfl, h1⟩)
  case iload_n k => exact ev_r_iload_n hx hb hd hp hl h2 h1 kk
  case iload i => exact ev_r_iload hx hb hd hp hl h2 h1 kk
  case istore_n k => exact ev_r_istore_n hx hb hd hp hl h2 h1 kk
  case istore i => exact ev_r_istore hx hb hd hp hl h2 h1 kk
  case lload_n k => exact ev_r_lload_n hx hb hd hp hl h2 h1 kk
  case lload i => exact ev_r_lload hx hb hd hp hl h2 h1 kk
  case lstore_n k => exact ev_r_lstore_n hx hb hd hp hl h2 h1 kk
  case lstore i => exact ev_r_lstore hx hb hd hp hl h2 h1 kk
  case aload_n k => exact ev_r_aload_n hx hb hd hp hl h2 h1 kk
  case aload i => exact ev_r_aload hx hb hd hp hl h2 h1 kk
  case astore_n k => exact ev_r_astore_n hx hb hd hp hl h2 h1 kk
  case astore i => exact ev_r_astore hx hb hd hp hl h2 h1 kk
  case iinc i n => exact ev_r_iinc hx hb hd hp hl h2 h1 kk
  case iadd => exact ev_r_iadd hx hb hd hp hl h2 h1 kk
  case isub => exact ev_r_isub hx hb hd hp hl h2 h1 kk
  case imul => exact ev_r_imul hx hb hd hp hl h2 h1 kk
  case iand => exact ev_r_iand hx hb hd hp hl h2 h1 kk
  case ior => exact ev_r_ior hx hb hd hp hl h2 h1 kk
  case ixor => exact ev_r_ixor hx hb hd hp hl h2 h1 kk
  case ishl => exact ev_r_ishl hx hb hd hp hl h2 h1 kk
  case ishr => exact ev_r_ishr hx hb hd hp hl h2 h1 kk
  case iushr => exact ev_r_iushr hx hb hd hp hl h2 h1 kk
  case ladd => exact ev_r_ladd hx hb hd hp hl h2 h1 kk
  case lsub => exact ev_r_lsub hx hb hd hp hl h2 h1 kk
  case lmul => exact ev_r_lmul hx hb hd hp hl h2 h1 kk
  case land => exact ev_r_land hx hb hd hp hl h2 h1 kk
  case lor => exact ev_r_lor hx hb hd hp hl h2 h1 kk
  case lxor => exact ev_r_lxor hx hb hd hp hl h2 h1 kk
  case lshl => exact ev_r_lshl hx hb hd hp hl h2 h1 kk
  case lshr => exact ev_r_lshr hx hb hd hp hl h2 h1 kk
  case lushr => exact ev_r_lushr hx hb hd hp hl h2 h1 kk
  case idiv => exact ev_r_idiv hx hb hd hp hl h2 h1 kk
  case irem => exact ev_r_irem hx hb hd hp hl h2 h1 kk
  case ldiv => exact ev_r_ldiv hx hb hd hp hl h2 h1 kk
  case lrem => exact ev_r_lrem hx hb hd hp hl h2 h1 kk
  case lcmp => exact ev_r_lcmp hx hb hd hp hl h2 h1 kk
  case i2l => exact ev_r_i2l hx hb hd hp hl h2 h1 kk
  case l2i => exact ev_r_l2i hx hb hd hp hl h2 h1 kk
  case dup => exact ev_r_dup hx hb hd hp hl h2 h1 kk
  case dup2 => exact ev_r_dup2 hx hb hd hp hl h2 h1 kk
  case pop => exact ev_r_pop hx hb hd hp hl h2 h1 kk
  all_goals (exact absurd hp (by simp [ev_pure]))
end EVP
