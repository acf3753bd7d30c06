/-! branches: what both ways may be -/
def ev_rel (cd : ClassFile.Cond) (l1 h1 l2 h2 : Int) : Bool × Bool := match cd with
  | .eq => (decide (l1 ≤ h2) && decide (l2 ≤ h1), !(decide (l1 = h1) && decide (l2 = h2) && decide (l1 = l2)))
  | .ne => (!(decide (l1 = h1) && decide (l2 = h2) && decide (l1 = l2)), decide (l1 ≤ h2) && decide (l2 ≤ h1))
  | .lt => (decide (l1 < h2), decide (l2 ≤ h1))
  | .ge => (decide (l2 ≤ h1), decide (l1 < h2))
  | .gt => (decide (l2 < h1), decide (l1 ≤ h2))
  | .le => (decide (l1 ≤ h2), decide (l2 < h1))
abbrev ev_T : Type := Option (List (Nat × List ev_A))
def ev_two (pc : Nat) (off : Int) (q : Bool × Bool) (r : List ev_A) : ev_T :=
  if 0 ≤ (pc : Int) + off then some ((if q.1 then [(((pc : Int) + off).toNat, r)] else []) ++ (if q.2 then [(pc + 3, r)] else [])) else none
def ev_sws (pc : Nat) (l h : Int) (r : List ev_A) : Int → List Int → ev_T
  | _, [] => some []
  | k, off :: os => match ev_sws pc l h r (k + 1) os with
    | none => none
    | some L => if l ≤ k ∧ k ≤ h then (if 0 ≤ (pc : Int) + off then some ((((pc : Int) + off).toNat, r) :: L) else none) else some L
def ev_sw (pc : Nat) (dflt lo hi : Int) (offs : List Int) (l h : Int) (r : List ev_A) : ev_T :=
  if (offs.length : Int) = hi - lo + 1 ∧ 0 ≤ (pc : Int) + dflt then match ev_sws pc l h r lo offs with
    | none => none
    | some L => if l < lo ∨ hi < h then some ((((pc : Int) + dflt).toNat, r) :: L) else some L
  else none
def ev_b1 (pc : Nat) (cd : ClassFile.Cond) (off : Int) (st : List ev_A) : ev_T := match st with
  | (t, l, h) :: r => if t == 0 then ev_two pc off (ev_rel cd l h 0 0) r else none
  | [] => none
def ev_b2 (pc : Nat) (cd : ClassFile.Cond) (off : Int) (st : List ev_A) : ev_T := match st with
  | (t2, l2, h2) :: (t1, l1, h1) :: r => if t1 == 0 && t2 == 0 then ev_two pc off (ev_rel cd l1 h1 l2 h2) r else none
  | _ => none
def ev_bn (pc : Nat) (w : Bool) (off : Int) (st : List ev_A) : ev_T := match st with
  | (t, _, _) :: r => if t == 0 || t == 1 then none else ev_two pc off ((t == 3) == w, !((t == 3) == w)) r
  | [] => none
def ev_bt (pc : Nat) (dflt lo hi : Int) (offs : Array Int) (st : List ev_A) : ev_T := match st with
  | (t, l, h) :: r => if t == 0 then ev_sw pc dflt lo hi offs.toList l h r else none
  | [] => none
def ev_br (pc len : Nat) (ins : Instr) (st : List ev_A) : ev_T := match ins with
  | .goto off => if len == 3 && decide (0 ≤ (pc : Int) + off) then some [(((pc : Int) + off).toNat, st)] else none
  | .ifCond cd off => if len == 3 then ev_b1 pc cd off st else none
  | .if_icmp cd off => if len == 3 then ev_b2 pc cd off st else none
  | .ifnull off => if len == 3 then ev_bn pc true off st else none
  | .ifnonnull off => if len == 3 then ev_bn pc false off st else none
  | .tableswitch dflt lo hi offs => ev_bt pc dflt lo hi offs st
  | _ => none
theorem ev_two_inv {pc : Nat} {off : Int} {q : Bool × Bool} {r : List ev_A} {L : List (Nat × List ev_A)} (h : ev_two pc off q r = some L) : (pc : Int) + off = ((((pc : Int) + off).toNat : Nat) : Int) ∧ (q.1 = true → (((pc : Int) + off).toNat, r) ∈ L) ∧ (q.2 = true → (pc + 3, r) ∈ L) := by
  unfold ev_two at h
  split at h
  · rename_i h0
    cases h
    refine ⟨by omega, fun e => ?_, fun e => ?_⟩
    · rw [e]; simp
    · rw [e]; simp
  · cases h
theorem ev_sws_mem {pc : Nat} {l h : Int} {r : List ev_A} : ∀ {os : List Int} {k : Int} {L : List (Nat × List ev_A)}, ev_sws pc l h r k os = some L → ∀ {j : Nat} {off : Int}, os[j]? = some off → l ≤ k + j → k + j ≤ h → 0 ≤ (pc : Int) + off ∧ (((pc : Int) + off).toNat, r) ∈ L
  | [], _, _, _, j, off, hj, _, _ => by simp at hj
  | o :: os, k, L, hs, j, off, hj, h1, h2 => by
    unfold ev_sws at hs
    split at hs
    · cases hs
    · rename_i L' hL'
      cases j with
      | zero =>
        have e : o = off := by simpa using hj
        subst e
        rw [if_pos (by constructor <;> omega)] at hs
        split at hs
        · rename_i h0
          cases hs
          exact ⟨h0, List.mem_cons_self⟩
        · cases hs
      | succ j =>
        have ih := ev_sws_mem hL' (j := j) (off := off) (by simpa using hj) (by push_cast at h1; omega) (by push_cast at h2; omega)
        split at hs
        · split at hs
          · cases hs
            exact ⟨ih.1, List.mem_cons_of_mem _ ih.2⟩
          · cases hs
        · cases hs
          exact ih
section EVB
variable {p : Program} {l : Launch} {e : Env} {R : Room} {s : State} {m : MethodId} {args : Array Value} {below : List Frame} {meth : Method} {c : Code} {H : Heap} {locs : List Loc} {cells slots : Nat} {Q : State → Prop}
variable {cc : ByteArray} {pc : Nat} {ls : Array Slot} {B b len : Nat} {st : List ev_A} {L : List (Nat × List ev_A)} {cst : List Value}
theorem ev_cI {x y : Int32} : (x = y ↔ x.toInt = y.toInt) ∧ (x < y ↔ x.toInt < y.toInt) ∧ (x ≤ y ↔ x.toInt ≤ y.toInt) := ⟨Int32.toInt_inj.symm, Int32.lt_iff_toInt_lt, Int32.le_iff_toInt_le⟩
theorem ev_r_if_eq {off : Int} (hx : p.tables.exec = Jvm.exec) (hb : c.code = cc) (hd : decode cc pc = .ok (.ifCond .eq off, 3)) (hp : ev_b1 pc .eq off st = some L) (h1 : ev_g1 B b cst st) (kk : ∀ q ∈ L, ∀ cst' : List Value, ev_g1 B b cst' q.2 → W p l e R s m args below meth c H locs cells slots Q (F0 m q.1 ls cst')) : W p l e R s m args below meth c H locs cells slots Q (F0 m pc ls cst) := by
  unfold ev_b1 at hp
  split at hp
  · split at hp
    · rename_i t lo hi r ht
      obtain ⟨hz, k1, k2⟩ := ev_two_inv hp
      obtain ⟨v, vs, rfl, e2, h1b⟩ := ev_cons h1
      obtain ⟨x, rfl, a1, a2⟩ := ev_isI e2 ht
      dsimp only at a1 a2
      have z0 : (0 : Int32).toInt = 0 := rfl
      refine lv_if_eq hx hb hd hz (fun hc => kk _ (k1 ?_) vs h1b) (fun hc => kk _ (k2 ?_) vs h1b) <;>
        (simp only [ge_iff_le, gt_iff_lt, ne_eq, (ev_cI (x := x) (y := 0)).1, (ev_cI (x := x) (y := 0)).2.1, (ev_cI (x := x) (y := 0)).2.2, (ev_cI (x := 0) (y := x)).2.1, (ev_cI (x := 0) (y := x)).2.2, z0] at hc
         simp [ev_rel]
         try omega)
    · cases hp
  · cases hp
theorem ev_r_ic_eq {off : Int} (hx : p.tables.exec = Jvm.exec) (hb : c.code = cc) (hd : decode cc pc = .ok (.if_icmp .eq off, 3)) (hp : ev_b2 pc .eq off st = some L) (h1 : ev_g1 B b cst st) (kk : ∀ q ∈ L, ∀ cst' : List Value, ev_g1 B b cst' q.2 → W p l e R s m args below meth c H locs cells slots Q (F0 m q.1 ls cst')) : W p l e R s m args below meth c H locs cells slots Q (F0 m pc ls cst) := by
  unfold ev_b2 at hp
  split at hp
  · split at hp
    · rename_i t2 l2 g2 t1 l1 g1 r ht
      obtain ⟨hz, k1, k2⟩ := ev_two_inv hp
      rw [Bool.and_eq_true] at ht
      obtain ⟨v, vs, rfl, e2, h1c⟩ := ev_cons h1
      obtain ⟨v', vs, rfl, e1, h1d⟩ := ev_cons h1c
      obtain ⟨y, rfl, b1, b2⟩ := ev_isI e2 ht.2
      obtain ⟨x, rfl, a1, a2⟩ := ev_isI e1 ht.1
      dsimp only at a1 a2 b1 b2
      refine lv_icmp_eq hx hb hd hz (fun hc => kk _ (k1 ?_) vs h1d) (fun hc => kk _ (k2 ?_) vs h1d) <;>
        (simp only [ge_iff_le, gt_iff_lt, ne_eq, (ev_cI (x := x) (y := y)).1, (ev_cI (x := x) (y := y)).2.1, (ev_cI (x := x) (y := y)).2.2, (ev_cI (x := y) (y := x)).2.1, (ev_cI (x := y) (y := x)).2.2] at hc
         simp [ev_rel]
         try omega)
    · cases hp
  · cases hp
theorem ev_r_if_ne {off : Int} (hx : p.tables.exec = Jvm.exec) (hb : c.code = cc) (hd : decode cc pc = .ok (.ifCond .ne off, 3)) (hp : ev_b1 pc .ne off st = some L) (h1 : ev_g1 B b cst st) (kk : ∀ q ∈ L, ∀ cst' : List Value, ev_g1 B b cst' q.2 → W p l e R s m args below meth c H locs cells slots Q (F0 m q.1 ls cst')) : W p l e R s m args below meth c H locs cells slots Q (F0 m pc ls cst) := by
  unfold ev_b1 at hp
  split at hp
  · split at hp
    · rename_i t lo hi r ht
      obtain ⟨hz, k1, k2⟩ := ev_two_inv hp
      obtain ⟨v, vs, rfl, e2, h1e⟩ := ev_cons h1
      obtain ⟨x, rfl, a1, a2⟩ := ev_isI e2 ht
      dsimp only at a1 a2
      have z0 : (0 : Int32).toInt = 0 := rfl
      refine lv_if_ne hx hb hd hz (fun hc => kk _ (k1 ?_) vs h1e) (fun hc => kk _ (k2 ?_) vs h1e) <;>
        (simp only [ge_iff_le, gt_iff_lt, ne_eq, (ev_cI (x := x) (y := 0)).1, (ev_cI (x := x) (y := 0)).2.1, (ev_cI (x := x) (y := 0)).2.2, (ev_cI (x := 0) (y := x)).2.1, (ev_cI (x := 0) (y := x)).2.2, z0] at hc
         simp [ev_rel]
         try omega)
    · cases hp
  · cases hp
theorem ev_r_ic_ne {off : Int} (hx : p.tables.exec = Jvm.exec) (hb : c.code = cc) (hd : decode cc pc = .ok (.if_icmp .ne off, 3)) (hp : ev_b2 pc .ne off st = some L) (h1 : ev_g1 B b cst st) (kk : ∀ q ∈ L, ∀ cst' : List Value, ev_g1 B b cst' q.2 → W p l e R s m args below meth c H locs cells slots Q (F0 m q.1 ls cst')) : W p l e R s m args below meth c H locs cells slots Q (F0 m pc ls cst) := by
  unfold ev_b2 at hp
  split at hp
  · split at hp
    · rename_i t2 l2 g2 t1 l1 g1 r ht
      obtain ⟨hz, k1, k2⟩ := ev_two_inv hp
      rw [Bool.and_eq_true] at ht
      obtain ⟨v, vs, rfl, e2, h1f⟩ := ev_cons h1
      obtain ⟨v', vs, rfl, e1, h1g⟩ := ev_cons h1f
      obtain ⟨y, rfl, b1, b2⟩ := ev_isI e2 ht.2
      obtain ⟨x, rfl, a1, a2⟩ := ev_isI e1 ht.1
      dsimp only at a1 a2 b1 b2
      refine lv_icmp_ne hx hb hd hz (fun hc => kk _ (k1 ?_) vs h1g) (fun hc => kk _ (k2 ?_) vs h1g) <;>
        (simp only [ge_iff_le, gt_iff_lt, ne_eq, (ev_cI (x := x) (y := y)).1, (ev_cI (x := x) (y := y)).2.1, (ev_cI (x := x) (y := y)).2.2, (ev_cI (x := y) (y := x)).2.1, (ev_cI (x := y) (y := x)).2.2] at hc
         simp [ev_rel]
         try omega)
    · cases hp
  · cases hp
theorem ev_r_if_lt {off : Int} (hx : p.tables.exec = Jvm.exec) (hb : c.code = cc) (hd : decode cc pc = .ok (.ifCond .lt off, 3)) (hp : ev_b1 pc .lt off st = some L) (h1 : ev_g1 B b cst st) (kk : ∀ q ∈ L, ∀ cst' : List Value, ev_g1 B b cst' q.2 → W p l e R s m args below meth c H locs cells slots Q (F0 m q.1 ls cst')) : W p l e R s m args below meth c H locs cells slots Q (F0 m pc ls cst) := by
  unfold ev_b1 at hp
  split at hp
  · split at hp
    · rename_i t lo hi r ht
      obtain ⟨hz, k1, k2⟩ := ev_two_inv hp
      obtain ⟨v, vs, rfl, e2, h1h⟩ := ev_cons h1
      obtain ⟨x, rfl, a1, a2⟩ := ev_isI e2 ht
      dsimp only at a1 a2
      have z0 : (0 : Int32).toInt = 0 := rfl
      refine lv_if_lt hx hb hd hz (fun hc => kk _ (k1 ?_) vs h1h) (fun hc => kk _ (k2 ?_) vs h1h) <;>
        (simp only [ge_iff_le, gt_iff_lt, ne_eq, (ev_cI (x := x) (y := 0)).1, (ev_cI (x := x) (y := 0)).2.1, (ev_cI (x := x) (y := 0)).2.2, (ev_cI (x := 0) (y := x)).2.1, (ev_cI (x := 0) (y := x)).2.2, z0] at hc
         simp [ev_rel]
         try omega)
    · cases hp
  · cases hp
theorem ev_r_ic_lt {off : Int} (hx : p.tables.exec = Jvm.exec) (hb : c.code = cc) (hd : decode cc pc = .ok (.if_icmp .lt off, 3)) (hp : ev_b2 pc .lt off st = some L) (h1 : ev_g1 B b cst st) (kk : ∀ q ∈ L, ∀ cst' : List Value, ev_g1 B b cst' q.2 → W p l e R s m args below meth c H locs cells slots Q (F0 m q.1 ls cst')) : W p l e R s m args below meth c H locs cells slots Q (F0 m pc ls cst) := by
  unfold ev_b2 at hp
  split at hp
  · split at hp
    · rename_i t2 l2 g2 t1 l1 g1 r ht
      obtain ⟨hz, k1, k2⟩ := ev_two_inv hp
      rw [Bool.and_eq_true] at ht
      obtain ⟨v, vs, rfl, e2, h1a⟩ := ev_cons h1
      obtain ⟨v', vs, rfl, e1, h1b⟩ := ev_cons h1a
      obtain ⟨y, rfl, b1, b2⟩ := ev_isI e2 ht.2
      obtain ⟨x, rfl, a1, a2⟩ := ev_isI e1 ht.1
      dsimp only at a1 a2 b1 b2
      refine lv_icmp_lt hx hb hd hz (fun hc => kk _ (k1 ?_) vs h1b) (fun hc => kk _ (k2 ?_) vs h1b) <;>
        (simp only [ge_iff_le, gt_iff_lt, ne_eq, (ev_cI (x := x) (y := y)).1, (ev_cI (x := x) (y := y)).2.1, (ev_cI (x := x) (y := y)).2.2, (ev_cI (x := y) (y := x)).2.1, (ev_cI (x := y) (y := x)).2.2] at hc
         simp [ev_rel]
         try omega)
    · cases hp
  · cases hp
theorem ev_r_if_ge {off : Int} (hx : p.tables.exec = Jvm.exec) (hb : c.code = cc) (hd : decode cc pc = .ok (.ifCond .ge off, 3)) (hp : ev_b1 pc .ge off st = some L) (h1 : ev_g1 B b cst st) (kk : ∀ q ∈ L, ∀ cst' : List Value, ev_g1 B b cst' q.2 → W p l e R s m args below meth c H locs cells slots Q (F0 m q.1 ls cst')) : W p l e R s m args below meth c H locs cells slots Q (F0 m pc ls cst) := by
  unfold ev_b1 at hp
  split at hp
  · split at hp
    · rename_i t lo hi r ht
      obtain ⟨hz, k1, k2⟩ := ev_two_inv hp
      obtain ⟨v, vs, rfl, e2, h1c⟩ := ev_cons h1
      obtain ⟨x, rfl, a1, a2⟩ := ev_isI e2 ht
      dsimp only at a1 a2
      have z0 : (0 : Int32).toInt = 0 := rfl
      refine lv_if_ge hx hb hd hz (fun hc => kk _ (k1 ?_) vs h1c) (fun hc => kk _ (k2 ?_) vs h1c) <;>
        (simp only [ge_iff_le, gt_iff_lt, ne_eq, (ev_cI (x := x) (y := 0)).1, (ev_cI (x := x) (y := 0)).2.1, (ev_cI (x := x) (y := 0)).2.2, (ev_cI (x := 0) (y := x)).2.1, (ev_cI (x := 0) (y := x)).2.2, z0] at hc
         simp [ev_rel]
         try omega)
    · cases hp
  · cases hp
theorem ev_r_ic_ge {off : Int} (hx : p.tables.exec = Jvm.exec) (hb : c.code = cc) (hd : decode cc pc = .ok (.if_icmp .ge off, 3)) (hp : ev_b2 pc .ge off st = some L) (h1 : ev_g1 B b cst st) (kk : ∀ q ∈ L, ∀ cst' : List Value, ev_g1 B b cst' q.2 → W p l e R s m args below meth c H locs cells slots Q (F0 m q.1 ls cst')) : W p l e R s m args below meth c H locs cells slots Q (F0 m pc ls cst) := by
  unfold ev_b2 at hp
  split at hp
  · split at hp
    · rename_i t2 l2 g2 t1 l1 g1 r ht
      obtain ⟨hz, k1, k2⟩ := ev_two_inv hp
      rw [Bool.and_eq_true] at ht
      obtain ⟨v, vs, rfl, e2, h1d⟩ := ev_cons h1
      obtain ⟨v', vs, rfl, e1, h1e⟩ := ev_cons h1d
      obtain ⟨y, rfl, b1, b2⟩ := ev_isI e2 ht.2
      obtain ⟨x, rfl, a1, a2⟩ := ev_isI e1 ht.1
      dsimp only at a1 a2 b1 b2
      refine lv_icmp_ge hx hb hd hz (fun hc => kk _ (k1 ?_) vs h1e) (fun hc => kk _ (k2 ?_) vs h1e) <;>
        (simp only [ge_iff_le, gt_iff_lt, ne_eq, (ev_cI (x := x) (y := y)).1, (ev_cI (x := x) (y := y)).2.1, (ev_cI (x := x) (y := y)).2.2, (ev_cI (x := y) (y := x)).2.1, (ev_cI (x := y) (y := x)).2.2] at hc
         simp [ev_rel]
         try omega)
    · cases hp
  · cases hp
theorem ev_r_if_gt {off : Int} (hx : p.tables.exec = Jvm.exec) (hb : c.code = cc) (hd : decode cc pc = .ok (.ifCond .gt off, 3)) (hp : ev_b1 pc .gt off st = some L) (h1 : ev_g1 B b cst st) (kk : ∀ q ∈ L, ∀ cst' : List Value, ev_g1 B b cst' q.2 → W p l e R s m args below meth c H locs cells slots Q (F0 m q.1 ls cst')) : W p l e R s m args below meth c H locs cells slots Q (F0 m pc ls cst) := by
  unfold ev_b1 at hp
  split at hp
  · split at hp
    · rename_i t lo hi r ht
      obtain ⟨hz, k1, k2⟩ := ev_two_inv hp
      obtain ⟨v, vs, rfl, e2, h1f⟩ := ev_cons h1
      obtain ⟨x, rfl, a1, a2⟩ := ev_isI e2 ht
      dsimp only at a1 a2
      have z0 : (0 : Int32).toInt = 0 := rfl
      refine lv_if_gt hx hb hd hz (fun hc => kk _ (k1 ?_) vs h1f) (fun hc => kk _ (k2 ?_) vs h1f) <;>
        (simp only [ge_iff_le, gt_iff_lt, ne_eq, (ev_cI (x := x) (y := 0)).1, (ev_cI (x := x) (y := 0)).2.1, (ev_cI (x := x) (y := 0)).2.2, (ev_cI (x := 0) (y := x)).2.1, (ev_cI (x := 0) (y := x)).2.2, z0] at hc
         simp [ev_rel]
         try omega)
    · cases hp
  · cases hp
theorem ev_r_ic_gt {off : Int} (hx : p.tables.exec = Jvm.exec) (hb : c.code = cc) (hd : decode cc pc = .ok (.if_icmp .gt off, 3)) (hp : ev_b2 pc .gt off st = some L) (h1 : ev_g1 B b cst st) (kk : ∀ q ∈ L, ∀ cst' : List Value, ev_g1 B b cst' q.2 → W p l e R s m args below meth c H locs cells slots Q (F0 m q.1 ls cst')) : W p l e R s m args below meth c H locs cells slots Q (F0 m pc ls cst) := by
  unfold ev_b2 at hp
  split at hp
  · split at hp
    · rename_i t2 l2 g2 t1 l1 g1 r ht
      obtain ⟨hz, k1, k2⟩ := ev_two_inv hp
      rw [Bool.and_eq_true] at ht
      obtain ⟨v, vs, rfl, e2, h1g⟩ := ev_cons h1
      obtain ⟨v', vs, rfl, e1, h1h⟩ := ev_cons h1g
      obtain ⟨y, rfl, b1, b2⟩ := ev_isI e2 ht.2
      obtain ⟨x, rfl, a1, a2⟩ := ev_isI e1 ht.1
      dsimp only at a1 a2 b1 b2
      refine lv_icmp_gt hx hb hd hz (fun hc => kk _ (k1 ?_) vs h1h) (fun hc => kk _ (k2 ?_) vs h1h) <;>
        (simp only [ge_iff_le, gt_iff_lt, ne_eq, (ev_cI (x := x) (y := y)).1, (ev_cI (x := x) (y := y)).2.1, (ev_cI (x := x) (y := y)).2.2, (ev_cI (x := y) (y := x)).2.1, (ev_cI (x := y) (y := x)).2.2] at hc
         simp [ev_rel]
         try omega)
    · cases hp
  · cases hp
theorem ev_r_if_le {off : Int} (hx : p.tables.exec = Jvm.exec) (hb : c.code = cc) (hd : decode cc pc = .ok (.ifCond .le off, 3)) (hp : ev_b1 pc .le off st = some L) (h1 : ev_g1 B b cst st) (kk : ∀ q ∈ L, ∀ cst' : List Value, ev_g1 B b cst' q.2 → W p l e R s m args below meth c H locs cells slots Q (F0 m q.1 ls cst')) : W p l e R s m args below meth c H locs cells slots Q (F0 m pc ls cst) := by
  unfold ev_b1 at hp
  split at hp
  · split at hp
    · rename_i t lo hi r ht
      obtain ⟨hz, k1, k2⟩ := ev_two_inv hp
      obtain ⟨v, vs, rfl, e2, h1a⟩ := ev_cons h1
      obtain ⟨x, rfl, a1, a2⟩ := ev_isI e2 ht
      dsimp only at a1 a2
      have z0 : (0 : Int32).toInt = 0 := rfl
      refine lv_if_le hx hb hd hz (fun hc => kk _ (k1 ?_) vs h1a) (fun hc => kk _ (k2 ?_) vs h1a) <;>
        (simp only [ge_iff_le, gt_iff_lt, ne_eq, (ev_cI (x := x) (y := 0)).1, (ev_cI (x := x) (y := 0)).2.1, (ev_cI (x := x) (y := 0)).2.2, (ev_cI (x := 0) (y := x)).2.1, (ev_cI (x := 0) (y := x)).2.2, z0] at hc
         simp [ev_rel]
         try omega)
    · cases hp
  · cases hp
theorem ev_r_ic_le {off : Int} (hx : p.tables.exec = Jvm.exec) (hb : c.code = cc) (hd : decode cc pc = .ok (.if_icmp .le off, 3)) (hp : ev_b2 pc .le off st = some L) (h1 : ev_g1 B b cst st) (kk : ∀ q ∈ L, ∀ cst' : List Value, ev_g1 B b cst' q.2 → W p l e R s m args below meth c H locs cells slots Q (F0 m q.1 ls cst')) : W p l e R s m args below meth c H locs cells slots Q (F0 m pc ls cst) := by
  unfold ev_b2 at hp
  split at hp
  · split at hp
    · rename_i t2 l2 g2 t1 l1 g1 r ht
      obtain ⟨hz, k1, k2⟩ := ev_two_inv hp
      rw [Bool.and_eq_true] at ht
      obtain ⟨v, vs, rfl, e2, h1b⟩ := ev_cons h1
      obtain ⟨v', vs, rfl, e1, h1c⟩ := ev_cons h1b
      obtain ⟨y, rfl, b1, b2⟩ := ev_isI e2 ht.2
      obtain ⟨x, rfl, a1, a2⟩ := ev_isI e1 ht.1
      dsimp only at a1 a2 b1 b2
      refine lv_icmp_le hx hb hd hz (fun hc => kk _ (k1 ?_) vs h1c) (fun hc => kk _ (k2 ?_) vs h1c) <;>
        (simp only [ge_iff_le, gt_iff_lt, ne_eq, (ev_cI (x := x) (y := y)).1, (ev_cI (x := x) (y := y)).2.1, (ev_cI (x := x) (y := y)).2.2, (ev_cI (x := y) (y := x)).2.1, (ev_cI (x := y) (y := x)).2.2] at hc
         simp [ev_rel]
         try omega)
    · cases hp
  · cases hp
theorem ev_r_ifnull {off : Int} (hx : p.tables.exec = Jvm.exec) (hb : c.code = cc) (hd : decode cc pc = .ok (.ifnull off, 3)) (hp : ev_bn pc true off st = some L) (h1 : ev_g1 B b cst st) (kk : ∀ q ∈ L, ∀ cst' : List Value, ev_g1 B b cst' q.2 → W p l e R s m args below meth c H locs cells slots Q (F0 m q.1 ls cst')) : W p l e R s m args below meth c H locs cells slots Q (F0 m pc ls cst) := by
  unfold ev_bn at hp
  split at hp
  · split at hp
    · cases hp
    · rename_i t lo hi r ht
      obtain ⟨hz, k1, k2⟩ := ev_two_inv hp
      obtain ⟨v, vs, rfl, e2, h1d⟩ := ev_cons h1
      unfold ev_g at e2
      dsimp only at e2 k1 k2
      split at e2
      · exact absurd rfl ht
      · exact absurd rfl ht
      · subst e2; exact lv_ifnull hx hb hd (kk _ (k2 rfl) vs h1d)
      · subst e2; exact lv_ifnullN hx hb hd hz (kk _ (k1 rfl) vs h1d)
      · rename_i n0 n1 n2 n3
        subst e2
        exact lv_ifnull hx hb hd (kk _ (k2 (by simpa using n3)) vs h1d)
  · cases hp
theorem ev_r_ifnonnull {off : Int} (hx : p.tables.exec = Jvm.exec) (hb : c.code = cc) (hd : decode cc pc = .ok (.ifnonnull off, 3)) (hp : ev_bn pc false off st = some L) (h1 : ev_g1 B b cst st) (kk : ∀ q ∈ L, ∀ cst' : List Value, ev_g1 B b cst' q.2 → W p l e R s m args below meth c H locs cells slots Q (F0 m q.1 ls cst')) : W p l e R s m args below meth c H locs cells slots Q (F0 m pc ls cst) := by
  unfold ev_bn at hp
  split at hp
  · split at hp
    · cases hp
    · rename_i t lo hi r ht
      obtain ⟨hz, k1, k2⟩ := ev_two_inv hp
      obtain ⟨v, vs, rfl, e2, h1e⟩ := ev_cons h1
      unfold ev_g at e2
      dsimp only at e2 k1 k2
      split at e2
      · exact absurd rfl ht
      · exact absurd rfl ht
      · subst e2; exact lv_ifnonnull hx hb hd hz (kk _ (k1 rfl) vs h1e)
      · subst e2; exact lv_ifnonnullN hx hb hd (kk _ (k2 rfl) vs h1e)
      · rename_i n0 n1 n2 n3
        subst e2
        exact lv_ifnonnull hx hb hd hz (kk _ (k1 (by simpa using n3)) vs h1e)
  · cases hp
theorem ev_r_tab {dflt lo hi : Int} {offs : Array Int} (hx : p.tables.exec = Jvm.exec) (hb : c.code = cc) (hd : decode cc pc = .ok (.tableswitch dflt lo hi offs, len)) (hp : ev_bt pc dflt lo hi offs st = some L) (h1 : ev_g1 B b cst st) (kk : ∀ q ∈ L, ∀ cst' : List Value, ev_g1 B b cst' q.2 → W p l e R s m args below meth c H locs cells slots Q (F0 m q.1 ls cst')) : W p l e R s m args below meth c H locs cells slots Q (F0 m pc ls cst) := by
  unfold ev_bt at hp
  split at hp
  · split at hp
    · rename_i t l0 g0 r ht
      obtain ⟨v, vs, rfl, e2, h1f⟩ := ev_cons h1
      obtain ⟨x, rfl, a1, a2⟩ := ev_isI e2 ht
      dsimp only at a1 a2
      unfold ev_sw at hp
      split at hp
      · rename_i hz
        split at hp
        · cases hp
        · rename_i L' hL'
          by_cases ho : x.toInt < lo ∨ hi < x.toInt
          · rw [if_pos (by omega)] at hp
            cases hp
            exact lv_tableOut hx hb hd ho (tgt := ((pc : Int) + dflt).toNat) (by omega) (kk _ List.mem_cons_self vs h1f)
          · have hlt : (x.toInt - lo).toNat < offs.toList.length := by omega
            have hj : offs.toList[(x.toInt - lo).toNat]? = some offs.toList[(x.toInt - lo).toNat] := List.getElem?_eq_getElem hlt
            obtain ⟨m1, m2⟩ := ev_sws_mem hL' hj (by omega) (by omega)
            have m3 : (((pc : Int) + offs.toList[(x.toInt - lo).toNat]).toNat, r) ∈ L := by
              split at hp
              · cases hp; exact List.mem_cons_of_mem _ m2
              · cases hp; exact m2
            exact lv_tableIn hx hb hd (by omega) (by omega) (by rw [← Array.getElem?_toList]; exact hj) (by omega) (kk _ m3 vs h1f)
      · cases hp
    · cases hp
  · cases hp
theorem ev_br_ok {ins : Instr} (hx : p.tables.exec = Jvm.exec) (hb : c.code = cc) (hd : decode cc pc = .ok (ins, len)) (hp : ev_br pc len ins st = some L) (h1 : ev_g1 B b cst st) (kk : ∀ q ∈ L, ∀ cst' : List Value, ev_g1 B b cst' q.2 → W p l e R s m args below meth c H locs cells slots Q (F0 m q.1 ls cst')) : W p l e R s m args below meth c H locs cells slots Q (F0 m pc ls cst) := by
  cases ins
  case goto off =>
    simp only [ev_br] at hp
    split at hp
    · rename_i hq
      rw [Bool.and_eq_true, decide_eq_true_eq, beq_iff_eq] at hq
      obtain ⟨rfl, hq⟩ := hq
      cases hp
      exact lv_goto (tgt := ((pc : Int) + off).toNat) hx hb hd (by omega) (kk _ List.mem_cons_self cst h1)
    · cases hp
  case ifCond cd off =>
    simp only [ev_br] at hp
    split at hp
    · rename_i hq
      rw [beq_iff_eq] at hq
      subst hq
      cases cd
      · exact ev_r_if_eq hx hb hd hp h1 kk
      · exact ev_r_if_ne hx hb hd hp h1 kk
      · exact ev_r_if_lt hx hb hd hp h1 kk
      · exact ev_r_if_ge hx hb hd hp h1 kk
      · exact ev_r_if_gt hx hb hd hp h1 kk
      · exact ev_r_if_le hx hb hd hp h1 kk
    · cases hp
  case if_icmp cd off =>
    simp only [ev_br] at hp
    split at hp
    · rename_i hq
      rw [beq_iff_eq] at hq
      subst hq
      cases cd
      · exact ev_r_ic_eq hx hb hd hp h1 kk
      · exact ev_r_ic_ne hx hb hd hp h1 kk
      · exact ev_r_ic_lt hx hb hd hp h1 kk
      · exact ev_r_ic_ge hx hb hd hp h1 kk
      · exact ev_r_ic_gt hx hb hd hp h1 kk
      · exact ev_r_ic_le hx hb hd hp h1 kk
    · cases hp
  case ifnull off =>
    simp only [ev_br] at hp
    split at hp
    · rename_i hq
      rw [beq_iff_eq] at hq
      subst hq
      exact ev_r_ifnull hx hb hd hp h1 kk
    · cases hp
  case ifnonnull off =>
    simp only [ev_br] at hp
    split at hp
    · rename_i hq
      rw [beq_iff_eq] at hq
      subst hq
      exact ev_r_ifnonnull hx hb hd hp h1 kk
    · cases hp
  case tableswitch dflt lo hi offs => exact ev_r_tab hx hb hd hp h1 kk
  all_goals (exact absurd hp (by simp [ev_br]))
end EVB
