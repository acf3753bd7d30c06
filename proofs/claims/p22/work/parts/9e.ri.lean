/-! the reference: all its calls, weakly: k calls were made -/
def fu (f : Int → Int) (u a : Int) : Int → Int := fun j => if j = u then a else f j
def RI (x : Nat) (n L : Int) (U V : Int → Int) (k : Int) (h0 h : cx_Q) : Prop := MI x n L k (20 * k) U V h0 h ∧ TZ x h (1 + 100 * k) (12 * k)
theorem TZ.sJ {x : Nat} {h : cx_Q} {N O : Int} {i : Nat} {k : Int} {v : Int64} (a : TZ x h N O) (hi : i ≠ x + 9 := by omega) : TZ x (cq_sJ h i k v) N O := (a.i.sJ hi).z
theorem TZ.sF {x : Nat} {h : cx_Q} {N O k v : Int} (a : TZ x h N O) (h1 : k ≠ 2) (h2 : k ≠ 10) (h3 : k ≠ 33) : TZ x (cq_sI h x k v) N O := (a.i.sF h1 h2 h3).z
theorem TZ.sT {x : Nat} {h : cx_Q} {N O : Int} {o : Nat} {j v : Int} (a : TZ x h N O) (h0 : 1 ≤ o) (hv : o ∈ tV → 0 ≤ v ∧ v ≤ 16999) (hx : o ∉ tW ∧ o ∉ tR ∧ o ∉ tV := by decide) : TZ x (cq_sI h (x + o) j v) N O := (a.i.sT h0 hv hx).z
section
variable {x : Nat} {n L Q D k : Int} {U V : Int → Int} {h0 h : cx_Q}
theorem RI.n0 (R : RI x n L U V k h0 h) : cq_I h x 0 = n := R.1.2.2.2.2.2.2.1
theorem RI.e11 (R : RI x n L U V k h0 h) : cq_I h (x + 11) = U := R.1.2.2.2.2.1
theorem RI.e16 (R : RI x n L U V k h0 h) : cq_I h (x + 16) = V := R.1.2.2.2.2.2.1
theorem RI.e86 (R : RI x n L U V k h0 h) : cq_I h x 86 = L := R.1.2.2.2.2.2.2.2
theorem RI.mk {N O : Int} (M : MI x n L Q D U V h0 h) (T : TZ x h N O) (h1 : Q ≤ k + 1) (h2 : D ≤ 20 * k + 20) (h3 : N ≤ 100 * k + 101) (h4 : O ≤ 12 * k + 12) : RI x n L U V (k + 1) h0 h := ⟨M.up (by omega) (by omega), T.le (by omega) (by omega)⟩
theorem RI.up (R : RI x n L U V k h0 h) : RI x n L U V (k + 1) h0 h := RI.mk R.1 R.2 (by omega) (by omega) (by omega) (by omega)
theorem MI.s11 (M : MI x n L Q D U V h0 h) {u a : Int} : MI x n L Q D (fu U u a) V h0 (cq_sI h (x + 11) u a) := by
  have nx : ∀ (o : Nat) (k : Int), o ≠ 11 → cq_I (cq_sI h (x + 11) u a) (x + o) k = cq_I h (x + o) k := fun o k w => by rw [mm_sI, if_neg (fun e => by omega)]
  have n0 : ∀ (k : Int), cq_I (cq_sI h (x + 11) u a) x k = cq_I h x k := fun k => by rw [mm_sI, if_neg (fun e => by omega)]
  refine ⟨M.1.sI (by decide), rS.sI M.2.1, fun q k q1 q2 => ?_, fun k => by rw [n0]; exact M.2.2.2.1 k, ?_, ?_, ?_, ?_⟩
  · by_cases w : q = 11
    · rw [w]
      exact True.intro
    · rw [nx q k w]
      exact M.2.2.1 q k q1 q2
  · rw [← M.2.2.2.2.1]
    funext k
    rw [mm_sI]
    unfold fu
    simp only [true_and]
  · rw [← M.2.2.2.2.2.1]
    funext k
    exact nx 16 k (by decide)
  · rw [n0]; exact M.2.2.2.2.2.2.1
  · rw [n0]; exact M.2.2.2.2.2.2.2
theorem MI.s16 (M : MI x n L Q D U V h0 h) {u a : Int} : MI x n L Q D U (fu V u a) h0 (cq_sI h (x + 16) u a) := by
  have nx : ∀ (o : Nat) (k : Int), o ≠ 16 → cq_I (cq_sI h (x + 16) u a) (x + o) k = cq_I h (x + o) k := fun o k w => by rw [mm_sI, if_neg (fun e => by omega)]
  have n0 : ∀ (k : Int), cq_I (cq_sI h (x + 16) u a) x k = cq_I h x k := fun k => by rw [mm_sI, if_neg (fun e => by omega)]
  refine ⟨M.1.sI (by decide), rS.sI M.2.1, fun q k q1 q2 => ?_, fun k => by rw [n0]; exact M.2.2.2.1 k, ?_, ?_, ?_, ?_⟩
  · by_cases w : q = 16
    · rw [w]
      exact True.intro
    · rw [nx q k w]
      exact M.2.2.1 q k q1 q2
  · rw [← M.2.2.2.2.1]
    funext k
    exact nx 11 k (by decide)
  · rw [← M.2.2.2.2.2.1]
    funext k
    rw [mm_sI]
    unfold fu
    simp only [true_and]
  · rw [n0]; exact M.2.2.2.2.2.2.1
  · rw [n0]; exact M.2.2.2.2.2.2.2
theorem MI.s86 (M : MI x n L Q D U V h0 h) {a : Int} : MI x n a Q D U V h0 (cq_sI h x 86 a) := by
  have nx : ∀ (o : Nat) (k : Int), 1 ≤ o → cq_I (cq_sI h x 86 a) (x + o) k = cq_I h (x + o) k := fun o k w => by rw [mm_sI, if_neg (fun e => by omega)]
  refine ⟨M.1.sI (o := 0) (by decide), rS.sI M.2.1, fun q k q1 q2 => by rw [nx q k q1]; exact M.2.2.1 q k q1 q2, fun k => ?_, ?_, ?_, ?_, ?_⟩
  · rw [mm_sI]
    split
    · rename_i e
      rw [e.2]
      exact True.intro
    · exact M.2.2.2.1 k
  · rw [← M.2.2.2.2.1]
    funext k
    exact nx 11 k (by decide)
  · rw [← M.2.2.2.2.2.1]
    funext k
    exact nx 16 k (by decide)
  · rw [mm_sI, if_neg (fun e => absurd e.2 (by decide))]; exact M.2.2.2.2.2.2.1
  · rw [mm_sI, if_pos ⟨rfl, rfl⟩]
theorem MI.lend (M : MI x n L Q D U V h0 h) {u : Int} : MI x n L Q (D + 1 + 1) U (fu V u (V u + 1)) h0 (m_lend h x u) := by
  have e : cq_I h (x + 16) u = V u := congrFun M.2.2.2.2.2.1 u
  have M1 : MI x n L Q D U (fu V u (V u + 1)) h0 (m_lend1 h x u) := by
    unfold m_lend1
    rw [e]
    exact M.s16
  unfold m_lend
  generalize m_lend1 h x u = g at M1 ⊢
  generalize 21 * u + (cq_I h (x + 16) u + 1) = a
  unfold m_lend3 m_lend2
  (repeat' (first | with_reducible assumption | with_reducible refine MI.sJx ?_ | with_reducible refine MI.sJ ?_ (by decide) | with_reducible refine MI.sx ?_ ?_ (by decide) | with_reducible refine MI.sI ?_ ?_ (by decide) (by decide) | with_reducible refine MI.draw ?_)) <;> (try first | exact True.intro | exact ⟨by omega, by omega⟩)
theorem MI.reg (M : MI x n L Q D U V h0 h) {u : Int} : MI x n L Q (D + 1 + 1 + 1) (fu U u 1) (fu V u (V u + 1)) h0 (m_register h x u) := by
  unfold m_register
  refine MI.lend ?_
  unfold m_reg2 m_reg1
  exact MI.sJ (MI.sJ (MI.draw M.s11) (by decide)) (by decide)
theorem MI.pub {u : Int} : ∀ (r : Nat) {h : cx_Q} {D : Int}, MI x n L Q D U V h0 h → cq_I h (x + 23) u + r ≤ 60 → MI x n L Q (D + r) U V h0 (m_pub x u r h)
  | 0, h, D, M, _ => M.up (Int.le_refl _) (by omega)
  | r + 1, h, D, M, h1 => by
    have a23 := M.r23 u
    have M1 : MI x n L Q (D + 1) U V h0 (m_pub1 h x u) := by
      unfold m_pub1 m_pubB m_pubA
      generalize 61 * u + (cq_I h (x + 23) u + 1) = a
      (repeat' (first | with_reducible assumption | with_reducible refine MI.sJx ?_ | with_reducible refine MI.sJ ?_ (by decide) | with_reducible refine MI.sx ?_ ?_ (by decide) | with_reducible refine MI.sI ?_ ?_ (by decide) (by decide) | with_reducible refine MI.draw ?_)) <;> (try first | exact True.intro | exact ⟨by omega, by omega⟩)
    have e : cq_I (m_pub1 h x u) (x + 23) u = cq_I h (x + 23) u + 1 := by
      rw [m_pub1_I (by decide) (by decide), if_neg (fun q => absurd q.1 (by decide)), if_pos ⟨rfl, rfl⟩]
    have := MI.pub (u := u) r M1 (by omega)
    rw [m_pub]
    exact this.up (Int.le_refl _) (by omega)
theorem MI.fd {a b c d e : Int} : ∀ (r : Nat) {i : Int} {h : cx_Q}, MI x n L Q D U V h0 h → cq_I h x 68 + r ≤ 40 → MI x n L Q D U V h0 (m_fd x a b c d e r i h)
  | 0, i, h, M, _ => M
  | r + 1, i, h, M, h1 => by
    have a68 := M.x68
    rw [m_fd]
    refine MI.fd r ?_ ?_
    · unfold m_fd1
      (repeat' (first | with_reducible assumption | with_reducible refine MI.sJx ?_ | with_reducible refine MI.sJ ?_ (by decide) | with_reducible refine MI.sx ?_ ?_ (by decide) | with_reducible refine MI.sI ?_ ?_ (by decide) (by decide) | with_reducible refine MI.draw ?_)) <;> (try first | exact True.intro | exact ⟨by omega, by omega⟩)
    · rw [m_fd1_68]
      omega
theorem MI.cp {l t : Int} : ∀ (r : Nat) {i : Int} {h : cx_Q}, MI x n L Q D U V h0 h → MI x n L Q D U V h0 (m_cp x l t r i h)
  | 0, i, h, M => M
  | r + 1, i, h, M => by
    rw [m_cp]
    exact MI.cp r (M.sI (o := 62) (M.r62 _) (by decide) (by decide))
theorem MI.copy (M : MI x n L Q D U V h0 h) {l : Int} (h72 : cq_I h x 72 ≠ 80) : MI x n L (Q + 1) D U V h0 (m_copy h x l) := by
  have a72 := M.x72
  have a73 := M.x73
  have a63 := M.r63 l
  have M1 := (MI.cp (l := l) (t := cq_I h x 72) (cq_I h (x + 63) l).toNat (i := 0) M).up (Q' := Q + 1) (by omega) (Int.le_refl _)
  unfold m_copy
  generalize m_cp x l (cq_I h x 72) (cq_I h (x + 63) l).toNat 0 h = g at M1 ⊢
  (repeat' (first | with_reducible assumption | with_reducible refine MI.sJx ?_ | with_reducible refine MI.sJ ?_ (by decide) | with_reducible refine MI.sx ?_ ?_ (by decide) | with_reducible refine MI.sI ?_ ?_ (by decide) (by decide) | with_reducible refine MI.draw ?_)) <;> (try first | exact True.intro | exact ⟨by omega, by omega⟩)
end
