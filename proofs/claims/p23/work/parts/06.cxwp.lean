/-! what must hold ahead of a row of instructions, for what is wanted behind it -/
def cx_rg (n : Int) : Prop := -2147483648 ≤ n ∧ n ≤ 2147483647
def cx_ldI : cx_L → Nat → (Int → Prop) → Prop
  | some (.inl n) :: _, 0, f => f n
  | _ :: r, i + 1, f => cx_ldI r i f
  | _, _, _ => False
def cx_ldJ : cx_L → Nat → (Int64 → Prop) → Prop
  | some (.inr (.inl y)) :: _, 0, f => f y
  | _ :: r, i + 1, f => cx_ldJ r i f
  | _, _, _ => False
def cx_ldA : cx_L → Nat → (Option Nat → Prop) → Prop
  | some (.inr (.inr a)) :: _, 0, f => f a
  | _ :: r, i + 1, f => cx_ldA r i f
  | _, _, _ => False
/-- the place is there -/
def cx_has : cx_L → Nat → Prop
  | _ :: _, 0 => True
  | _ :: r, i + 1 => cx_has r i
  | [], _ => False
abbrev cx_Nx : Type := cx_L → List cx_V → cx_Q → Nat → Nat → Prop
def cx_2i (f : Int → Int → Int) (st : List cx_V) (k : List cx_V → Prop) : Prop := match st with
  | .inl y :: .inl x :: r => k (.inl (f x y) :: r)
  | _ => False
/-- no number leaves its range -/
def cx_2r (f : Int → Int → Int) (st : List cx_V) (k : List cx_V → Prop) : Prop := match st with
  | .inl y :: .inl x :: r => cx_rg (f x y) ∧ k (.inl (f x y) :: r)
  | _ => False
def cx_2j (f : Int64 → Int64 → Int64) (st : List cx_V) (k : List cx_V → Prop) : Prop := match st with
  | .inr (.inl y) :: .inr (.inl x) :: r => k (.inr (.inl (f x y)) :: r)
  | _ => False
def cx_2s (f : Int64 → Int32 → Int64) (st : List cx_V) (k : List cx_V → Prop) : Prop := match st with
  | .inl y :: .inr (.inl x) :: r => k (.inr (.inl (f x (Int32.ofInt y))) :: r)
  | _ => False
def cx_bi (f : Int32 → Int32 → Int32) (x y : Int) : Int := (f (Int32.ofInt x) (Int32.ofInt y)).toInt
def cx_and : Int → Int → Int := cx_bi (fun x y => x &&& y)
def cx_ior : Int → Int → Int := cx_bi (fun x y => x ||| y)
def cx_xor : Int → Int → Int := cx_bi (fun x y => x ^^^ y)
def cx_shl : Int → Int → Int := cx_bi (fun x y => x <<< (y &&& 31))
def cx_shr : Int → Int → Int := cx_bi (fun x y => x >>> (y &&& 31))
def cx_ush : Int → Int → Int := cx_bi (fun x y => (x.toUInt32 >>> (y.toUInt32 &&& Int32.toUInt32 31)).toInt32)
def cx_rem : Int → Int → Int := cx_bi (fun x y => x - x / y * y)
def cx_div : Int → Int → Int := cx_bi (fun x y => x / y)
def cx_lsl (x : Int64) (y : Int32) : Int64 := x <<< (y.toInt64 &&& 63)
def cx_lsr (x : Int64) (y : Int32) : Int64 := x >>> (y.toInt64 &&& 63)
def cx_lus (x : Int64) (y : Int32) : Int64 := (x.toUInt64 >>> (y.toInt64.toUInt64 &&& Int64.toUInt64 63)).toInt64
def cx_lrm (x y : Int64) : Int64 := x - x / y * y
def cx_lcp (x y : Int64) : Int := (lg_cmp x y).toInt
def cx_rel (cd : ClassFile.Cond) (x y : Int) : Prop := match cd with
  | .eq => x = y
  | .ne => x ≠ y
  | .lt => x < y
  | .ge => y ≤ x
  | .gt => y < x
  | .le => x ≤ y
def cx_tgt (pc : Nat) (off : Int) : Nat := ((pc : Int) + off).toNat
/-- of a reference's class, or null -/
def cx_isC (h : cx_Q) (c : Nat) (r : Option Nat) : Prop := match r with
  | none => True
  | some j => cq_s h j = c
def cx_wr (z : Nat) (h : cx_Q) (i : Nat) (j : Int) (a : cx_V) (k : cx_Q → Prop) : Prop := match z, a with
  | 0, .inl n => k (cq_sI h i j n)
  | 1, .inr (.inl y) => k (cq_sJ h i j y)
  | 2, .inl n => (n = 0 ∨ n = 1) ∧ k (cq_sI h i j n)
  | 3, .inr (.inr r) => k (cq_sA h i j r)
  | _, _ => False
def cx_getf (u v z : Nat) (h : cx_Q) (st : List cx_V) (k : List cx_V → Prop) : Prop := match st with
  | .inr (.inr (some i)) :: r => cq_s h i = u ∧ k (cx_rd z h i v :: r)
  | _ => False
def cx_putf (u v z : Nat) (h : cx_Q) (st : List cx_V) (k : List cx_V → cx_Q → Prop) : Prop := match st with
  | a :: .inr (.inr (some i)) :: r => cq_s h i = u ∧ cx_wr z h i v a (k r)
  | _ => False
/-- an element; of ints also of the script -/
def cx_aldf (ra : cx_A) (kd : Nat) (h : cx_Q) (st : List cx_V) (k : List cx_V → Prop) : Prop := match st with
  | .inl j :: .inr (.inr (some i)) :: r => ((ra (cq_s h i)).1 = kd ∧ 0 ≤ j ∧ j < cq_z h i) ∧ k (cx_rd kd h i j :: r)
  | _ => False
def cx_astf (ra : cx_A) (kd : Nat) (h : cx_Q) (st : List cx_V) (k : List cx_V → cx_Q → Prop) : Prop := match st with
  | a :: .inl j :: .inr (.inr (some i)) :: r => ((ra (cq_s h i)).1 = kd ∧ cq_s h i ≠ 98 ∧ 0 ≤ j ∧ j < cq_z h i) ∧ cx_wr kd h i j a (k r)
  | _ => False
def cx_aasf (ra : cx_A) (h : cx_Q) (st : List cx_V) (k : List cx_V → cx_Q → Prop) : Prop := match st with
  | .inr (.inr r) :: .inl j :: .inr (.inr (some i)) :: q => ((ra (cq_s h i)).1 = 3 ∧ 0 ≤ j ∧ j < cq_z h i ∧ cx_isC h (ra (cq_s h i)).2.2 r) ∧ k q (cq_sA h i j r)
  | _ => False
def cx_lenf (ra : cx_A) (h : cx_Q) (st : List cx_V) (k : List cx_V → Prop) : Prop := match st with
  | .inr (.inr (some i)) :: r => (ra (cq_s h i)).1 < 4 ∧ k (.inl (cq_z h i) :: r)
  | _ => False
def cx_nwaf (v : Nat) (h : cx_Q) (st : List cx_V) (bc bs : Nat) (k : List cx_V → cx_Q → Nat → Nat → Prop) : Prop := match st with
  | .inl n :: r => (1 ≤ bc ∧ 0 ≤ n ∧ n ≤ 60000 ∧ n ≤ (bs : Int)) ∧ k (.inr (.inr (some h.1)) :: r) (cq_nw h v n) (bc - 1) (bs - n.toNat)
  | _ => False
/-- the end of a method -/
def cx_rtf (ins : Instr) (ty : Option FieldType) (st : List cx_V) (P : Option cx_V → Prop) : Prop := match ins, ty, st with
  | .return_, none, [] => P none
  | .ireturn, some .int, [.inl n] => P (some (.inl n))
  | .ireturn, some .boolean, [.inl n] => (n = 0 ∨ n = 1) ∧ P (some (.inl n))
  | .lreturn, some .long, [.inr (.inl y)] => P (some (.inr (.inl y)))
  | .areturn, some (.object _), [.inr (.inr r)] => P (some (.inr (.inr r)))
  | .areturn, some (.array _), [.inr (.inr r)] => P (some (.inr (.inr r)))
  | _, _, _ => False
def cx_swf (pc : Nat) (J : Nat → Prop) : List Int → Int → Int → Prop
  | [], _, _ => True
  | off :: r, k, x => (x = k → J (cx_tgt pc off)) ∧ cx_swf pc J r (k + 1) x
abbrev cx_J : Type := Nat → cx_L → List cx_V → cx_Q → Nat → Nat → Prop
/-- sort of the call (0 static, 1 virtual, 2 special), the method's number, the receiver's class, how many words of the stack it takes; then as it goes on -/
abbrev cx_Cl : Type := Nat → Nat → Nat → List cx_V → Nat → cx_L → List cx_V → cx_Q → Nat → Nat → Prop
def cx_mmf (f : Int → Int → Int) (mF mO : Nat) (st : List cx_V) (k : List cx_V → Prop) : Prop := match st with
  | .inl y :: .inl x :: r => (1 ≤ mF ∧ cx_sz r + 13 ≤ mO) ∧ k (.inl (f x y) :: r)
  | _ => False
def cx_obf (mF mO : Nat) (st : List cx_V) (k : List cx_V → Prop) : Prop := match st with
  | .inr (.inr (some _)) :: r => (1 ≤ mF ∧ cx_sz r + 12 ≤ mO) ∧ k r
  | _ => False
/-- methods that are known as functions of the stack -/
abbrev cx_Pf : Type := Nat → Option (List cx_V → (List cx_V → Prop) → Prop)
def cx_ins (ra : cx_A) (pf : cx_Pf) (mF mO : Nat) (ty : Option FieldType) (J : cx_J) (C : cx_Cl) (P : Option cx_V → cx_Q → Prop) (E : ev_E) (pc : Nat) (lv : cx_L) (st : List cx_V) (h : cx_Q) (bc bs : Nat) (nx : cx_Nx) : Prop := match E.1 with
  | .iconst n => nx lv (.inl n :: st) h bc bs
  | .bipush n => nx lv (.inl n :: st) h bc bs
  | .sipush n => nx lv (.inl n :: st) h bc bs
  | .ldc _ => nx lv (.inl E.2.2.2.2 :: st) h bc bs
  | .lconst n => nx lv (.inr (.inl (Int64.ofInt (n : Nat))) :: st) h bc bs
  | .ldc2_w _ => nx lv (.inr (.inl (Int64.ofInt E.2.2.2.2)) :: st) h bc bs
  | .aconst_null => nx lv (.inr (.inr none) :: st) h bc bs
  | .iload_n k => cx_ldI lv k fun n => nx lv (.inl n :: st) h bc bs
  | .iload k => cx_ldI lv k fun n => nx lv (.inl n :: st) h bc bs
  | .lload_n k => cx_ldJ lv k fun y => nx lv (.inr (.inl y) :: st) h bc bs
  | .lload k => cx_ldJ lv k fun y => nx lv (.inr (.inl y) :: st) h bc bs
  | .aload_n k => cx_ldA lv k fun r => nx lv (.inr (.inr r) :: st) h bc bs
  | .aload k => cx_ldA lv k fun r => nx lv (.inr (.inr r) :: st) h bc bs
  | .istore_n k => (match st with
    | .inl n :: r => cx_has lv k ∧ nx (cx_put1 lv k (.inl n)) r h bc bs
    | _ => False)
  | .istore k => (match st with
    | .inl n :: r => cx_has lv k ∧ nx (cx_put1 lv k (.inl n)) r h bc bs
    | _ => False)
  | .lstore_n k => (match st with
    | .inr (.inl y) :: r => cx_has lv (k + 1) ∧ nx (cx_put2 lv k (.inr (.inl y))) r h bc bs
    | _ => False)
  | .lstore k => (match st with
    | .inr (.inl y) :: r => cx_has lv (k + 1) ∧ nx (cx_put2 lv k (.inr (.inl y))) r h bc bs
    | _ => False)
  | .astore_n k => (match st with
    | .inr (.inr a) :: r => cx_has lv k ∧ nx (cx_put1 lv k (.inr (.inr a))) r h bc bs
    | _ => False)
  | .astore k => (match st with
    | .inr (.inr a) :: r => cx_has lv k ∧ nx (cx_put1 lv k (.inr (.inr a))) r h bc bs
    | _ => False)
  | .iinc k n => cx_ldI lv k fun x => cx_rg (x + n) ∧ nx (cx_put1 lv k (.inl (x + n))) st h bc bs
  | .iadd => cx_2r (fun x y => x + y) st fun q => nx lv q h bc bs
  | .isub => cx_2r (fun x y => x - y) st fun q => nx lv q h bc bs
  | .imul => cx_2r (fun x y => x * y) st fun q => nx lv q h bc bs
  | .iand => cx_2i cx_and st fun q => nx lv q h bc bs
  | .ior => cx_2i cx_ior st fun q => nx lv q h bc bs
  | .ixor => cx_2i cx_xor st fun q => nx lv q h bc bs
  | .ishl => cx_2i cx_shl st fun q => nx lv q h bc bs
  | .ishr => cx_2i cx_shr st fun q => nx lv q h bc bs
  | .iushr => cx_2i cx_ush st fun q => nx lv q h bc bs
  | .irem => (match st with
    | .inl y :: .inl x :: r => (cx_rg y ∧ y ≠ 0) ∧ nx lv (.inl (cx_rem x y) :: r) h bc bs
    | _ => False)
  | .ladd => cx_2j (fun x y => x + y) st fun q => nx lv q h bc bs
  | .lsub => cx_2j (fun x y => x - y) st fun q => nx lv q h bc bs
  | .lmul => cx_2j (fun x y => x * y) st fun q => nx lv q h bc bs
  | .land => cx_2j (fun x y => x &&& y) st fun q => nx lv q h bc bs
  | .lor => cx_2j (fun x y => x ||| y) st fun q => nx lv q h bc bs
  | .lxor => cx_2j (fun x y => x ^^^ y) st fun q => nx lv q h bc bs
  | .lshl => cx_2s cx_lsl st fun q => nx lv q h bc bs
  | .lshr => cx_2s cx_lsr st fun q => nx lv q h bc bs
  | .lushr => cx_2s cx_lus st fun q => nx lv q h bc bs
  | .lrem => (match st with
    | .inr (.inl y) :: .inr (.inl x) :: r => y ≠ 0 ∧ nx lv (.inr (.inl (cx_lrm x y)) :: r) h bc bs
    | _ => False)
  | .lcmp => (match st with
    | .inr (.inl y) :: .inr (.inl x) :: r => nx lv (.inl (cx_lcp x y) :: r) h bc bs
    | _ => False)
  | .i2l => (match st with
    | .inl x :: r => nx lv (.inr (.inl (Int64.ofInt x)) :: r) h bc bs
    | _ => False)
  | .l2i => (match st with
    | .inr (.inl x) :: r => nx lv (.inl x.toInt32.toInt :: r) h bc bs
    | _ => False)
  | .dup => (match st with
    | .inl a :: r => nx lv (.inl a :: .inl a :: r) h bc bs
    | .inr (.inr a) :: r => nx lv (.inr (.inr a) :: .inr (.inr a) :: r) h bc bs
    | _ => False)
  | .dup2 => (match st with
    | .inr (.inl a) :: r => nx lv (.inr (.inl a) :: .inr (.inl a) :: r) h bc bs
    | .inl a :: .inr (.inr b) :: r => nx lv (.inl a :: .inr (.inr b) :: .inl a :: .inr (.inr b) :: r) h bc bs
    | _ => False)
  | .pop => (match st with
    | .inl _ :: r => nx lv r h bc bs
    | .inr (.inr _) :: r => nx lv r h bc bs
    | _ => False)
  | .pop2 => (match st with
    | .inr (.inl _) :: r => nx lv r h bc bs
    | _ => False)
  | .goto off => J (cx_tgt pc off) lv st h bc bs
  | .ifCond cd off => (match st with
    | .inl x :: r => (cx_rel cd x 0 → J (cx_tgt pc off) lv r h bc bs) ∧ (¬ cx_rel cd x 0 → nx lv r h bc bs)
    | _ => False)
  | .if_icmp cd off => (match st with
    | .inl y :: .inl x :: r => (cx_rel cd x y → J (cx_tgt pc off) lv r h bc bs) ∧ (¬ cx_rel cd x y → nx lv r h bc bs)
    | _ => False)
  | .ifnull off => (match st with
    | .inr (.inr a) :: r => (a = none → J (cx_tgt pc off) lv r h bc bs) ∧ (∀ i, a = some i → nx lv r h bc bs)
    | _ => False)
  | .ifnonnull off => (match st with
    | .inr (.inr a) :: r => (∀ i, a = some i → J (cx_tgt pc off) lv r h bc bs) ∧ (a = none → nx lv r h bc bs)
    | _ => False)
  | .if_acmp cd off => (match cd, st with
    | .eq, .inr (.inr b) :: .inr (.inr a) :: r => (a = b → J (cx_tgt pc off) lv r h bc bs) ∧ (¬ a = b → nx lv r h bc bs)
    | .ne, .inr (.inr b) :: .inr (.inr a) :: r => (¬ a = b → J (cx_tgt pc off) lv r h bc bs) ∧ (a = b → nx lv r h bc bs)
    | _, _ => False)
  | .tableswitch dflt lo hi offs => (match st with
    | .inl x :: r => (x < lo ∨ hi < x → J (cx_tgt pc dflt) lv r h bc bs) ∧ cx_swf pc (fun t => J t lv r h bc bs) offs.toList lo x
    | _ => False)
  | .getfield _ => cx_getf E.2.2.1 E.2.2.2.1 E.2.2.2.2.toNat h st fun q => nx lv q h bc bs
  | .putfield _ => cx_putf E.2.2.1 E.2.2.2.1 E.2.2.2.2.toNat h st fun q h' => nx lv q h' bc bs
  | .new _ => (1 ≤ bc ∧ E.2.2.2.1 ≤ bs) ∧ nx lv (.inr (.inr (some h.1)) :: st) (cq_nw h E.2.2.1 0) (bc - 1) (bs - E.2.2.2.1)
  | .newarray _ => cx_nwaf E.2.2.2.1 h st bc bs fun q h' bc' bs' => nx lv q h' bc' bs'
  | .anewarray _ => cx_nwaf E.2.2.2.1 h st bc bs fun q h' bc' bs' => nx lv q h' bc' bs'
  | .arraylength => cx_lenf ra h st fun q => nx lv q h bc bs
  | .iaload => cx_aldf ra 0 h st fun q => nx lv q h bc bs
  | .laload => cx_aldf ra 1 h st fun q => nx lv q h bc bs
  | .baload => cx_aldf ra 2 h st fun q => nx lv q h bc bs
  | .aaload => cx_aldf ra 3 h st fun q => nx lv q h bc bs
  | .iastore => cx_astf ra 0 h st fun q h' => nx lv q h' bc bs
  | .lastore => cx_astf ra 1 h st fun q h' => nx lv q h' bc bs
  | .bastore => cx_astf ra 2 h st fun q h' => nx lv q h' bc bs
  | .aastore => cx_aasf ra h st fun q h' => nx lv q h' bc bs
  | .return_ => cx_rtf .return_ ty st fun a => P a h
  | .ireturn => cx_rtf .ireturn ty st fun a => P a h
  | .lreturn => cx_rtf .lreturn ty st fun a => P a h
  | .areturn => cx_rtf .areturn ty st fun a => P a h
  | .invokestatic _ => (match E.2.2.1 with
    | 998 => cx_mmf (fun x y => if x < y then y else x) mF mO st fun q => nx lv q h bc bs
    | 997 => cx_mmf (fun x y => if y < x then y else x) mF mO st fun q => nx lv q h bc bs
    | u => (match pf u with
      | some f => f st fun q => nx lv q h bc bs
      | none => C 0 u E.2.2.2.1 (st.take E.2.2.2.2.toNat) (pc + 3) lv (st.drop E.2.2.2.2.toNat) h bc bs))
  | .invokevirtual _ => C 1 E.2.2.1 E.2.2.2.1 (st.take E.2.2.2.2.toNat) (pc + 3) lv (st.drop E.2.2.2.2.toNat) h bc bs
  | .invokespecial _ => (match E.2.2.1 with
    | 999 => cx_obf mF mO st fun q => nx lv q h bc bs
    | u => C 2 u E.2.2.2.1 (st.take E.2.2.2.2.toNat) (pc + 3) lv (st.drop E.2.2.2.2.toNat) h bc bs)
  | _ => False
def cx_wp (ra : cx_A) (pf : cx_Pf) (mF mO : Nat) (ty : Option FieldType) (J : cx_J) (C : cx_Cl) (P : Option cx_V → cx_Q → Prop) : List ev_E → Nat → cx_L → List cx_V → cx_Q → Nat → Nat → Prop
  | [], pc, lv, st, h, bc, bs => J pc lv st h bc bs
  | E :: r, pc, lv, st, h, bc, bs => cx_ins ra pf mF mO ty J C P E pc lv st h bc bs fun lv' st' h' bc' bs' => cx_wp ra pf mF mO ty J C P r (pc + E.2.1) lv' st' h' bc' bs'
/-- n instructions from a place on -/
def cx_take (M : ev_M) : Nat → Nat → List ev_E
  | _, 0 => []
  | pc, n + 1 => match ev_at M pc with
    | some E => E :: cx_take M (pc + E.2.1) n
    | none => []
