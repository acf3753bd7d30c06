/-! the reference, exactly: a letter is opened in a SESSION -/
/-- what was read -/
def RD (x : Nat) (k : Int64) (g g' : cx_Q) : Prop := (∀ j, j ≠ 75 → cq_I g' x j = cq_I g x j) ∧ (cq_I g' x 75 = cq_I g x 83) ∧ (∀ i, 0 ≤ i → i < cq_I g x 83 → cq_I g' (x + 65) i = cx_and (Int64.ofInt (cq_I g (x + 62) (cq_I g x 77 + cq_I g x 82 + i)) ^^^ f_key 5 k (Int64.ofInt i)).toInt32.toInt 255)
theorem RD.x_ {x : Nat} {k : Int64} {g g' : cx_Q} (F_ : RD x k g g') : ∀ j, j ≠ 75 → cq_I g' x j = cq_I g x j := F_.1
theorem RD.x75 {x : Nat} {k : Int64} {g g' : cx_Q} (F_ : RD x k g g') : cq_I g' x 75 = cq_I g x 83 := F_.2.1
theorem RD.r_ {x : Nat} {k : Int64} {g g' : cx_Q} (F_ : RD x k g g') : ∀ i, 0 ≤ i → i < cq_I g x 83 → cq_I g' (x + 65) i = cx_and (Int64.ofInt (cq_I g (x + 62) (cq_I g x 77 + cq_I g x 82 + i)) ^^^ f_key 5 k (Int64.ofInt i)).toInt32.toInt 255 := F_.2.2
/-- what stays: s the SESSION, u who draws d numbers -/
def FRM (x : Nat) (s u d : Int) (g g' : cx_Q) : Prop := (∀ o j, 1 ≤ o → o ≤ 65 → o ∉ tL → ¬ inS s o j → o ≠ 65 → ¬ (o = 12 ∧ j = u) → cq_I g' (x + o) j = cq_I g (x + o) j) ∧ (∀ o j, 1 ≤ o → o ≤ 65 → o ∉ tL → ¬ inS s o j → cq_J g' (x + o) j = cq_J g (x + o) j) ∧ (cq_I g' (x + 12) u = cq_I g (x + 12) u + d)
theorem FRM.I_ {x : Nat} {s u d : Int} {g g' : cx_Q} (F_ : FRM x s u d g g') : ∀ o j, 1 ≤ o → o ≤ 65 → o ∉ tL → ¬ inS s o j → o ≠ 65 → ¬ (o = 12 ∧ j = u) → cq_I g' (x + o) j = cq_I g (x + o) j := F_.1
theorem FRM.J_ {x : Nat} {s u d : Int} {g g' : cx_Q} (F_ : FRM x s u d g g') : ∀ o j, 1 ≤ o → o ≤ 65 → o ∉ tL → ¬ inS s o j → cq_J g' (x + o) j = cq_J g (x + o) j := F_.2.1
theorem FRM.i12 {x : Nat} {s u d : Int} {g g' : cx_Q} (F_ : FRM x s u d g g') : cq_I g' (x + 12) u = cq_I g (x + 12) u + d := F_.2.2
section
variable {x : Nat} {s u : Int} {g gm gr : cx_Q} {k : Int64}
theorem RD.mk2 (hx : ∀ j, cq_I gm x j = cq_I g x j) (h62 : ∀ j, cq_I gm (x + 62) j = cq_I g (x + 62) j) (R : TQ2 x k gm gr) : RD x k g (cq_sI gr (x + 43) s 0) := by
  refine ⟨fun j w => ?_, ?_, fun i i0 i1 => ?_⟩
  · rw [mm_sI, if_neg (fun q => by omega), R.x_ j w, hx]
  · rw [mm_sI, if_neg (fun q => by omega), R.x75, hx]
  · rw [mm_sI, if_neg (fun q => by omega), R.r_ i i0 (by rw [hx]; exact i1), hx, hx, h62]
theorem open1_q {i : Int} (hi : 0 ≤ i ∧ i < cq_I g (x + 53) s) (hk : cq_I g (x + 53) s ≤ 20) : FRM x s u 0 g (m_openK g x s i k) ∧ RD x k g (m_openK g x s i k) ∧ OK1 x s i g (m_openK g x s i k) := by
  have D := drop_q (x := x) (g := g) hi hk
  have R := read_q (x := x) (k := k) (g := m_drop g x s i)
  unfold m_openK
  generalize m_drop g x s i = gm at D R ⊢
  generalize m_readText gm x k = gr at R ⊢
  have n53 : 53 ∉ tL := by decide
  have oI : ∀ o j, 1 ≤ o → o ≠ 65 → o ≠ 43 → cq_I (cq_sI gr (x + 43) s 0) (x + o) j = cq_I gm (x + o) j := fun o j w1 w2 w3 => by rw [mm_sI, if_neg (fun q => w3 (by omega)), R.I_ o j w1 w2]
  have oJ : ∀ a j, cq_J (cq_sI gr (x + 43) s 0) a j = cq_J gm a j := fun a j => by rw [mm_JI, R.J_]
  refine ⟨⟨fun o j w1 w2 w3 w4 w5 w6 => ?_, fun o j w1 w2 w3 w4 => ?_, ?_⟩, RD.mk2 D.x_ (fun j => D.I_ 62 j (by decide) (by omega) (by omega) (by decide)) R, ⟨fun o j w w1 w2 w3 => ?_, fun o j w w1 w2 => ?_, ?_, ?_, fun k' k0 k1 => ?_⟩⟩
  · unfold inS at w4
    by_cases e : o = 43
    · rw [mm_sI, if_neg (fun q => w4 (by omega)), R.I_ o j w1 w5, D.I_ o j w1 (fun q => w4 (by omega)) (fun q => w4 (by omega)) w3]
    · rw [oI o j w1 w5 e, D.I_ o j w1 (fun q => w4 (by omega)) (fun q => w4 (by omega)) w3]
  · unfold inS at w4
    rw [oJ, D.J_ o j w1 (fun q => w4 (by omega)) w3]
  · rw [oI 12 u (by decide) (by decide) (by decide), D.I_ 12 u (by decide) (by omega) (by omega) (by decide)]
    omega
  · obtain ⟨q1, q2, q3⟩ := inS_r w
    unfold inS at w
    rw [oI o j q1 (by omega) w1, D.I_ o j q1 (by omega) (by omega) q3]
  · obtain ⟨q1, q2, q3⟩ := inS_r w
    rw [oJ, D.J_ o j q1 (by omega) q3]
  · rw [mm_sI, if_pos ⟨rfl, rfl⟩]
  · rw [oI 53 s (by decide) (by decide) (by decide), D.i53]
  · rw [oJ, oI 55 _ (by decide) (by decide) (by decide), oJ, D.k54 k' k0 (by omega), D.k55 k' k0 (by omega), D.k56 k' k0 (by omega)]
    by_cases w : i ≤ k'
    · have c : i ≤ k' ∧ k' < cq_I g (x + 53) s - 1 := ⟨w, k1⟩
      rw [if_pos c, if_pos c, if_pos c, if_pos w]
      exact ⟨rfl, rfl, rfl⟩
    · have c : ¬ (i ≤ k' ∧ k' < cq_I g (x + 53) s - 1) := fun q => w q.1
      rw [if_neg c, if_neg c, if_neg c, if_neg w]
      exact ⟨rfl, rfl, rfl⟩
/-- a step of a chain -/
theorem step_q {n : Int} (hn : 0 ≤ n) (K : KQ x s n g gm) : (∀ j, cq_I (m_step gm x s) x j = cq_I g x j) ∧ (∀ o j, 1 ≤ o → ¬ ((o = 41 ∨ o = 53) ∧ j = s) → ¬ (o = 55 ∧ 20 * s ≤ j ∧ j < 20 * s + 20) → cq_I (m_step gm x s) (x + o) j = cq_I g (x + o) j) ∧ (∀ o j, 1 ≤ o → ¬ (o = 34 ∧ j = s) → cq_J (m_step gm x s) (x + o) j = cq_J gm (x + o) j) ∧ cq_I (m_step gm x s) (x + 41) s = cq_I g (x + 41) s + n + 1 ∧ cq_J (m_step gm x s) (x + 34) s = nxI (n.toNat + 1) (cq_J g (x + 34) s) ∧ (∀ o j, 1 ≤ o → o ≠ 41 → cq_I (m_step gm x s) (x + o) j = cq_I gm (x + o) j) := by
  unfold m_step
  refine ⟨fun j => ?_, fun o j w1 w2 w3 => ?_, fun o j w1 w2 => ?_, ?_, ?_, fun o j w1 w2 => ?_⟩
  · rw [mm_sI, if_neg (fun q => by omega), mm_IJ, K.x_]
  · rw [mm_sI, if_neg (fun q => w2 ⟨by omega, q.2⟩), mm_IJ, K.I_ o j w1 w2 w3]
  · rw [mm_JI, mm_sJ, if_neg (fun q => w2 ⟨by omega, q.2⟩)]
  · rw [mm_sI, if_pos ⟨rfl, rfl⟩, K.i41]
  · rw [mm_JI, mm_sJ, if_pos ⟨rfl, rfl⟩, K.j34, nxI_s]
    rfl
  · rw [mm_sI, if_neg (fun q => w2 (by omega)), mm_IJ]
/-- behind the keys of a chain that are passed -/
theorem oEnd_q (h0 : 0 ≤ cq_I g (x + 53) s ∧ 0 ≤ cq_I g x 81 - cq_I g (x + 41) s ∧ cq_I g (x + 53) s + (cq_I g x 81 - cq_I g (x + 41) s) ≤ 20) : FRM x s u 0 g (m_oEnd g x s k) ∧ RD x k g (m_oEnd g x s k) ∧ OK2 x s (cq_I g x 81 - cq_I g (x + 41) s) g (m_oEnd g x s k) := by
  unfold m_oEnd
  generalize en : cq_I g x 81 - cq_I g (x + 41) s = n at h0
  have et : ((n.toNat : Nat) : Int) = n := by omega
  have K := keep_q (x := x) (s := s) (n := n.toNat) (g := g) (by omega)
  rw [et] at K
  generalize m_keep x s n.toNat g = g1 at K ⊢
  obtain ⟨S1, S2, S3, S4, S5, S6⟩ := step_q h0.2.1 K
  have R := read_q (x := x) (k := k) (g := m_step g1 x s)
  generalize m_step g1 x s = gm at S1 S2 S3 S4 S5 S6 R ⊢
  generalize m_readText gm x k = gr at R ⊢
  have oI : ∀ o j, 1 ≤ o → o ≠ 65 → o ≠ 43 → cq_I (cq_sI gr (x + 43) s 0) (x + o) j = cq_I gm (x + o) j := fun o j w1 w2 w3 => by rw [mm_sI, if_neg (fun q => w3 (by omega)), R.I_ o j w1 w2]
  have oJ : ∀ a j, cq_J (cq_sI gr (x + 43) s 0) a j = cq_J gm a j := fun a j => by rw [mm_JI, R.J_]
  refine ⟨⟨fun o j w1 w2 w3 w4 w5 w6 => ?_, fun o j w1 w2 w3 w4 => ?_, ?_⟩, RD.mk2 S1 (fun j => S2 62 j (by decide) (by omega) (by omega)) R, ⟨fun o j w w1 w2 w3 w4 => ?_, fun o j w w1 w2 w3 => ?_, ?_, ?_, ?_, ?_, fun k' k0 k1 => ?_, fun i i0 i1 => ?_⟩⟩
  · unfold inS at w4
    by_cases e : o = 43
    · rw [mm_sI, if_neg (fun q => w4 (by omega)), R.I_ o j w1 w5, S2 o j w1 (fun q => w4 (by omega)) (fun q => w4 (by omega))]
    · rw [oI o j w1 w5 e, S2 o j w1 (fun q => w4 (by omega)) (fun q => w4 (by omega))]
  · unfold inS at w4
    rw [oJ, S3 o j w1 (fun q => w4 (by omega)), K.J_ o j w1 (fun q => w4 (by omega)) (fun q => w4 (by omega))]
  · rw [oI 12 u (by decide) (by decide) (by decide), S2 12 u (by decide) (by omega) (by omega)]
    omega
  · obtain ⟨q1, q2, q3⟩ := inS_r w
    unfold inS at w
    rw [oI o j q1 (by omega) w2, S2 o j q1 (by omega) (by omega)]
  · obtain ⟨q1, q2, q3⟩ := inS_r w
    rw [oJ, S3 o j q1 (by omega), K.J_ o j q1 (by omega) (by omega)]
  · rw [oI 41 s (by decide) (by decide) (by decide), S4]
  · rw [mm_sI, if_pos ⟨rfl, rfl⟩]
  · rw [oI 53 s (by decide) (by decide) (by decide), S6 53 s (by decide) (by decide), K.i53]
  · rw [oJ, S5]
  · rw [oJ, oI 55 _ (by decide) (by decide) (by decide), oJ, S3 54 _ (by decide) (by omega), S3 56 _ (by decide) (by omega), S6 55 _ (by decide) (by decide), K.k54 k' k0 (by omega), K.k55 k' k0 (by omega), K.k56 k' k0 (by omega), if_neg (by omega), if_neg (by omega), if_neg (by omega)]
    exact ⟨rfl, rfl, rfl⟩
  · have c : cq_I g (x + 53) s ≤ cq_I g (x + 53) s + i ∧ cq_I g (x + 53) s + i < cq_I g (x + 53) s + n := by omega
    have e1 : cq_I g (x + 53) s + i - cq_I g (x + 53) s = i := by omega
    rw [oJ, oI 55 _ (by decide) (by decide) (by decide), oJ, S3 54 _ (by decide) (by omega), S3 56 _ (by decide) (by omega), S6 55 _ (by decide) (by decide), K.k54 _ (by omega) (by omega), K.k55 _ (by omega) (by omega), K.k56 _ (by omega) (by omega), if_pos c, if_pos c, if_pos c, e1]
    exact ⟨rfl, rfl, rfl⟩
end
