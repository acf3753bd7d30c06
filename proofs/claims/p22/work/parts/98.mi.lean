/-! the reference: what holds of its memory between calls -/
/-- bounds of the elements of its arrays, and of its own fields -/
def rR (Q D : Int) (o : Nat) (v : Int) : Prop :=
  if o = 12 then 0 ≤ v ∧ v ≤ D else if o = 23 then 0 ≤ v ∧ v ≤ 60 else if o = 29 then 0 ≤ v ∧ v ≤ 143 else if o = 30 then 0 ≤ v ∧ v ≤ 4 else if o = 40 then 0 ≤ v ∧ v ≤ Q else if o = 41 then 0 ≤ v ∧ v ≤ 70000 else if o = 42 then 0 ≤ v ∧ v ≤ Q
  else if o = 53 then 0 ≤ v ∧ v ≤ 20 else if o = 58 then 0 ≤ v ∧ v ≤ Q else if o = 62 then 0 ≤ v ∧ v ≤ 255 else if o = 63 then 0 ≤ v ∧ v ≤ 100 else True
def rX (Q j v : Int) : Prop :=
  if j = 63 then 0 ≤ v ∧ v ≤ 100 else if j = 68 then 0 ≤ v ∧ v ≤ 40 else if j = 72 then 0 ≤ v ∧ v ≤ 80 else if j = 73 then 0 ≤ v ∧ v ≤ Q else if j = 75 then 0 ≤ v ∧ v ≤ 40 else if j = 84 then 0 ≤ v ∧ v ≤ 400 else if j = 85 then 0 ≤ v ∧ v ≤ 100 else True
/-- nothing but the reference's cells is other -/
def wz (x : Nat) (h h' : cx_Q) : Prop := h'.1 = h.1 ∧ cq_s h' = cq_s h ∧ cq_z h' = cq_z h ∧ cq_A h' = cq_A h ∧ ∀ a, ¬ (x ≤ a ∧ a ≤ x + 65) → cq_I h' a = cq_I h a ∧ cq_J h' a = cq_J h a
def MI (x : Nat) (n L Q D : Int) (U V : Int → Int) (h0 h : cx_Q) : Prop := wz x h0 h ∧ rS h x ∧ (∀ o j, 1 ≤ o → o ≤ 65 → rR Q D o (cq_I h (x + o) j)) ∧ (∀ j, rX Q j (cq_I h x j)) ∧ cq_I h (x + 11) = U ∧ cq_I h (x + 16) = V ∧ cq_I h x 0 = n ∧ cq_I h x 86 = L
section
variable {x : Nat} {n L Q D : Int} {U V : Int → Int} {h0 h : cx_Q}
theorem MI.wz (M : MI x n L Q D U V h0 h) : wz x h0 h := M.1
theorem MI.rS (M : MI x n L Q D U V h0 h) : rS h x := M.2.1
theorem MI.rr (M : MI x n L Q D U V h0 h) : ∀ o j, 1 ≤ o → o ≤ 65 → rR Q D o (cq_I h (x + o) j) := M.2.2.1
theorem MI.rx (M : MI x n L Q D U V h0 h) : ∀ j, rX Q j (cq_I h x j) := M.2.2.2.1
theorem wz.sI {g : cx_Q} {o : Nat} {j v : Int} (p : wz x h g) (ho : o ≤ 65) : wz x h (cq_sI g (x + o) j v) := ⟨p.1, p.2.1, p.2.2.1, p.2.2.2.1, fun a w => ⟨by
  rw [← (p.2.2.2.2 a w).1]
  funext r
  rw [mm_sI, if_neg (fun e => w (by omega))], (p.2.2.2.2 a w).2⟩⟩
theorem wz.sJ {g : cx_Q} {o : Nat} {j : Int} {v : Int64} (p : wz x h g) (ho : o ≤ 65) : wz x h (cq_sJ g (x + o) j v) := ⟨p.1, p.2.1, p.2.2.1, p.2.2.2.1, fun a w => ⟨(p.2.2.2.2 a w).1, by
  rw [← (p.2.2.2.2 a w).2]
  funext r
  rw [mm_sJ, if_neg (fun e => w (by omega))]⟩⟩
theorem MI.sI (M : MI x n L Q D U V h0 h) {o : Nat} {j v : Int} (hr : rR Q D o v) (h1 : 1 ≤ o ∧ o ≤ 65) (h2 : o ≠ 11 ∧ o ≠ 16) : MI x n L Q D U V h0 (cq_sI h (x + o) j v) := by
  have nx : ∀ k : Int, cq_I (cq_sI h (x + o) j v) x k = cq_I h x k := fun k => by rw [mm_sI, if_neg (fun e => by omega)]
  refine ⟨M.1.sI h1.2, rS.sI M.2.1, fun q k q1 q2 => ?_, fun k => by rw [nx]; exact M.2.2.2.1 k, ?_, ?_, ?_, ?_⟩
  · rw [mm_sI]
    split
    · rename_i e
      have : q = o := by omega
      rw [this]
      exact hr
    · exact M.2.2.1 q k q1 q2
  · rw [← M.2.2.2.2.1]
    funext k
    rw [mm_sI, if_neg (fun e => by omega)]
  · rw [← M.2.2.2.2.2.1]
    funext k
    rw [mm_sI, if_neg (fun e => by omega)]
  · rw [nx]; exact M.2.2.2.2.2.2.1
  · rw [nx]; exact M.2.2.2.2.2.2.2
theorem MI.sx (M : MI x n L Q D U V h0 h) {j v : Int} (hr : rX Q j v) (h2 : j ≠ 0 ∧ j ≠ 86) : MI x n L Q D U V h0 (cq_sI h x j v) := by
  have nx : ∀ (o : Nat) (k : Int), 1 ≤ o → cq_I (cq_sI h x j v) (x + o) k = cq_I h (x + o) k := fun o k w => by rw [mm_sI, if_neg (fun e => by omega)]
  refine ⟨M.1.sI (o := 0) (by decide), rS.sI M.2.1, fun q k q1 q2 => by rw [nx q k q1]; exact M.2.2.1 q k q1 q2, fun k => ?_, ?_, ?_, ?_, ?_⟩
  · rw [mm_sI]
    split
    · rename_i e
      rw [e.2]
      exact hr
    · exact M.2.2.2.1 k
  · rw [← M.2.2.2.2.1]
    funext k
    exact nx 11 k (by decide)
  · rw [← M.2.2.2.2.2.1]
    funext k
    exact nx 16 k (by decide)
  · rw [mm_sI, if_neg (fun e => h2.1 e.2.symm)]; exact M.2.2.2.2.2.2.1
  · rw [mm_sI, if_neg (fun e => h2.2 e.2.symm)]; exact M.2.2.2.2.2.2.2
theorem MI.sJ (M : MI x n L Q D U V h0 h) {o : Nat} {j : Int} {v : Int64} (h1 : o ≤ 65) : MI x n L Q D U V h0 (cq_sJ h (x + o) j v) := ⟨M.1.sJ h1, rS.sJ M.2.1, M.2.2⟩
theorem MI.sJx (M : MI x n L Q D U V h0 h) {j : Int} {v : Int64} : MI x n L Q D U V h0 (cq_sJ h x j v) := ⟨M.1.sJ (o := 0) (by decide), rS.sJ M.2.1, M.2.2⟩
theorem rR_T {Q D : Int} {o : Nat} {v : Int} (h : o ∈ tL) : rR Q D o v := by
  have : ∀ o ∈ tL, o ≠ 12 ∧ o ≠ 23 ∧ o ≠ 29 ∧ o ≠ 30 ∧ o ≠ 40 ∧ o ≠ 41 ∧ o ≠ 42 ∧ o ≠ 53 ∧ o ≠ 58 ∧ o ≠ 62 ∧ o ≠ 63 := by decide
  obtain ⟨a0, a1, a2, a3, a4, a5, a6, a7, a8, a9, a10⟩ := this o h
  unfold rR
  rw [if_neg a0, if_neg a1, if_neg a2, if_neg a3, if_neg a4, if_neg a5, if_neg a6, if_neg a7, if_neg a8, if_neg a9, if_neg a10]
  trivial
theorem tL_le : ∀ o ∈ tL, o ≤ 65 := by decide
/-- terms may be other -/
theorem MI.eT {g : cx_Q} (M : MI x n L Q D U V h0 h) (e : eT x h g) : MI x n L Q D U V h0 g := by
  refine ⟨⟨e.1.trans M.1.1, e.2.1.trans M.1.2.1, e.2.2.1.trans M.1.2.2.1, e.2.2.2.1.trans M.1.2.2.2.1, fun a w => ?_⟩, e.rS M.2.1, fun o j q1 q2 => ?_, fun j => ?_, ?_, ?_, ?_, ?_⟩
  · have nt : ∀ j, ¬ isT x a j := fun j q => by
      rcases q with ⟨q, _⟩ | ⟨o, q1, q2⟩
      · exact w (by omega)
      · have := tL_le o q1
        exact w (by omega)
    exact ⟨(funext fun j => (e.2.2.2.2 a j (nt j)).1).trans (M.1.2.2.2.2 a w).1, (funext fun j => (e.2.2.2.2 a j (nt j)).2).trans (M.1.2.2.2.2 a w).2⟩
  · by_cases w : o ∈ tL
    · exact rR_T w
    · rw [e.fI q1 w]
      exact M.2.2.1 o j q1 q2
  · by_cases w : j = 2 ∨ j = 10 ∨ j = 33
    · unfold rX
      rw [if_neg (by omega), if_neg (by omega), if_neg (by omega), if_neg (by omega), if_neg (by omega), if_neg (by omega), if_neg (by omega)]
      trivial
    · rw [e.xI (by omega) (by omega) (by omega)]
      exact M.2.2.2.1 j
  · rw [e.fI (o := 11) (by decide) (by decide)]; exact M.2.2.2.2.1
  · rw [e.fI (o := 16) (by decide) (by decide)]; exact M.2.2.2.2.2.1
  · rw [e.xI (by decide) (by decide) (by decide)]; exact M.2.2.2.2.2.2.1
  · rw [e.xI (by decide) (by decide) (by decide)]; exact M.2.2.2.2.2.2.2
theorem rR_le {Q Q' D D' : Int} {o : Nat} {v : Int} (hz : Q ≤ Q') (hd : D ≤ D') : rR Q D o v → rR Q' D' o v := by
  unfold rR
  repeat' (with_reducible refine iti ?_ ?_)
  all_goals (first | exact id | exact fun q => ⟨q.1, Int.le_trans q.2 hz⟩ | exact fun q => ⟨q.1, Int.le_trans q.2 hd⟩)
theorem rX_le {Q Q' : Int} {j v : Int} (hz : Q ≤ Q') : rX Q j v → rX Q' j v := by
  unfold rX
  repeat' (with_reducible refine iti ?_ ?_)
  all_goals (first | exact id | exact fun q => ⟨q.1, Int.le_trans q.2 hz⟩)
theorem MI.up (M : MI x n L Q D U V h0 h) {Q' D' : Int} (hz : Q ≤ Q') (hd : D ≤ D') : MI x n L Q' D' U V h0 h := ⟨M.1, M.2.1, fun o j q1 q2 => rR_le hz hd (M.2.2.1 o j q1 q2), fun j => rX_le hz (M.2.2.2.1 j), M.2.2.2.2⟩
theorem MI.r12 (M : MI x n L Q D U V h0 h) (j : Int) : 0 ≤ cq_I h (x + 12) j ∧ cq_I h (x + 12) j ≤ D := M.rr 12 j (by decide) (by decide)
theorem MI.r23 (M : MI x n L Q D U V h0 h) (j : Int) : 0 ≤ cq_I h (x + 23) j ∧ cq_I h (x + 23) j ≤ 60 := M.rr 23 j (by decide) (by decide)
theorem MI.r29 (M : MI x n L Q D U V h0 h) (j : Int) : 0 ≤ cq_I h (x + 29) j ∧ cq_I h (x + 29) j ≤ 143 := M.rr 29 j (by decide) (by decide)
theorem MI.r30 (M : MI x n L Q D U V h0 h) (j : Int) : 0 ≤ cq_I h (x + 30) j ∧ cq_I h (x + 30) j ≤ 4 := M.rr 30 j (by decide) (by decide)
theorem MI.r40 (M : MI x n L Q D U V h0 h) (j : Int) : 0 ≤ cq_I h (x + 40) j ∧ cq_I h (x + 40) j ≤ Q := M.rr 40 j (by decide) (by decide)
theorem MI.r41 (M : MI x n L Q D U V h0 h) (j : Int) : 0 ≤ cq_I h (x + 41) j ∧ cq_I h (x + 41) j ≤ 70000 := M.rr 41 j (by decide) (by decide)
theorem MI.r42 (M : MI x n L Q D U V h0 h) (j : Int) : 0 ≤ cq_I h (x + 42) j ∧ cq_I h (x + 42) j ≤ Q := M.rr 42 j (by decide) (by decide)
theorem MI.r53 (M : MI x n L Q D U V h0 h) (j : Int) : 0 ≤ cq_I h (x + 53) j ∧ cq_I h (x + 53) j ≤ 20 := M.rr 53 j (by decide) (by decide)
theorem MI.r58 (M : MI x n L Q D U V h0 h) (j : Int) : 0 ≤ cq_I h (x + 58) j ∧ cq_I h (x + 58) j ≤ Q := M.rr 58 j (by decide) (by decide)
theorem MI.r62 (M : MI x n L Q D U V h0 h) (j : Int) : 0 ≤ cq_I h (x + 62) j ∧ cq_I h (x + 62) j ≤ 255 := M.rr 62 j (by decide) (by decide)
theorem MI.r63 (M : MI x n L Q D U V h0 h) (j : Int) : 0 ≤ cq_I h (x + 63) j ∧ cq_I h (x + 63) j ≤ 100 := M.rr 63 j (by decide) (by decide)
theorem MI.x63 (M : MI x n L Q D U V h0 h) : 0 ≤ cq_I h x 63 ∧ cq_I h x 63 ≤ 100 := M.rx 63
theorem MI.x68 (M : MI x n L Q D U V h0 h) : 0 ≤ cq_I h x 68 ∧ cq_I h x 68 ≤ 40 := M.rx 68
theorem MI.x72 (M : MI x n L Q D U V h0 h) : 0 ≤ cq_I h x 72 ∧ cq_I h x 72 ≤ 80 := M.rx 72
theorem MI.x73 (M : MI x n L Q D U V h0 h) : 0 ≤ cq_I h x 73 ∧ cq_I h x 73 ≤ Q := M.rx 73
theorem MI.x75 (M : MI x n L Q D U V h0 h) : 0 ≤ cq_I h x 75 ∧ cq_I h x 75 ≤ 40 := M.rx 75
theorem MI.x84 (M : MI x n L Q D U V h0 h) : 0 ≤ cq_I h x 84 ∧ cq_I h x 84 ≤ 400 := M.rx 84
theorem MI.x85 (M : MI x n L Q D U V h0 h) : 0 ≤ cq_I h x 85 ∧ cq_I h x 85 ≤ 100 := M.rx 85
/-! model functions keep it -/
theorem MI.draw (M : MI x n L Q D U V h0 h) {u : Int} : MI x n L Q (D + 1) U V h0 (m_draw h x u) := by
  have := M.r12 u
  unfold m_draw
  refine MI.sJx (MI.sJx (MI.sI (M.up (Int.le_refl _) (by omega)) ?_ (by decide) (by decide)))
  exact ⟨by omega, by omega⟩
theorem MI.step (M : MI x n L Q D U V h0 h) {s : Int} (h1 : cq_I h (x + 41) s + 1 ≤ 70000) : MI x n L Q D U V h0 (m_step h x s) := by
  have := M.r41 s
  unfold m_step
  (repeat' (first | with_reducible assumption | with_reducible refine MI.sJx ?_ | with_reducible refine MI.sJ ?_ (by decide) | with_reducible refine MI.sx ?_ ?_ (by decide) | with_reducible refine MI.sI ?_ ?_ (by decide) (by decide) | with_reducible refine MI.draw ?_)) <;> (try first | exact True.intro | exact ⟨by omega, by omega⟩)
theorem MI.keep (s : Int) : ∀ (r : Nat) {h : cx_Q}, MI x n L Q D U V h0 h → cq_I h (x + 41) s + r ≤ 70000 → cq_I h (x + 53) s + r ≤ 20 → MI x n L Q D U V h0 (m_keep x s r h)
  | 0, h, M, _, _ => by rw [m_keep_0]; exact M
  | r + 1, h, M, h1, h2 => by
    rw [m_keep_s]
    have a53 := M.r53 s
    refine MI.keep s r ?_ ?_ ?_
    · unfold m_keep1
      refine MI.step ?_ ?_
      · unfold m_keepB m_keepA
        (repeat' (first | with_reducible assumption | with_reducible refine MI.sJx ?_ | with_reducible refine MI.sJ ?_ (by decide) | with_reducible refine MI.sx ?_ ?_ (by decide) | with_reducible refine MI.sI ?_ ?_ (by decide) (by decide) | with_reducible refine MI.draw ?_)) <;> (try first | exact True.intro | exact ⟨by omega, by omega⟩)
      · unfold m_keepB m_keepA
        simp only [mm_sI, mm_sJ, mm_sA, mm_IJ, mm_IA, mm_JI, mm_JA, mm_AI, mm_AJ, mm_ssI, mm_ssJ, mm_ssA, mm_zI, mm_zJ, mm_zA, mm_nI, mm_nJ, mm_nA, Nat.left_eq_add, Nat.add_eq_left, Nat.add_left_cancel_iff, Nat.reduceEqDiff, Int.reduceEq, false_and, and_false, if_false, if_true, and_self, true_and, true_or, or_true, false_or, or_false]
        omega
    · rw [m_keep1_41]; omega
    · rw [m_keep1_53]; omega
theorem MI.turn (M : MI x n L Q D U V h0 h) {u s : Int} {X : Int64} : MI x n L Q (D + 1) U V h0 (m_turn h x u s X) := by
  have a40 := M.r40 s
  have z := M.r42 s
  unfold m_turn m_turnS m_turn3 m_turn2 m_turn1
  (repeat' (first | with_reducible assumption | with_reducible refine MI.sJx ?_ | with_reducible refine MI.sJ ?_ (by decide) | with_reducible refine MI.sx ?_ ?_ (by decide) | with_reducible refine MI.sI ?_ ?_ (by decide) (by decide) | with_reducible refine MI.draw ?_)) <;> (try first | exact True.intro | exact ⟨by omega, by omega⟩)
theorem MI.readText (M : MI x n L Q D U V h0 h) {k : Int64} (h83 : 0 ≤ cq_I h x 83 ∧ cq_I h x 83 ≤ 40) : MI x n L Q D U V h0 (m_readText h x k) := by
  unfold m_readText m_rt
  refine itq_inv (P := fun g => MI x n L Q D U V h0 g) (fun i g q => ?_) _ _ _ (M.sx h83 (by decide))
  unfold m_rt1
  (repeat' (first | with_reducible assumption | with_reducible refine MI.sJx ?_ | with_reducible refine MI.sJ ?_ (by decide) | with_reducible refine MI.sx ?_ ?_ (by decide) | with_reducible refine MI.sI ?_ ?_ (by decide) (by decide) | with_reducible refine MI.draw ?_)) <;> (try first | exact True.intro | exact ⟨by omega, by omega⟩)
theorem MI.drop (M : MI x n L Q D U V h0 h) {s i : Int} (h1 : 1 ≤ cq_I h (x + 53) s) : MI x n L Q D U V h0 (m_drop h x s i) := by
  have a53 := M.r53 s
  unfold m_drop m_dk
  refine itq_inv (P := fun g => MI x n L Q D U V h0 g) (fun i g q => ?_) _ _ _ ?_
  · unfold m_dk1
    (repeat' (first | with_reducible assumption | with_reducible refine MI.sJx ?_ | with_reducible refine MI.sJ ?_ (by decide) | with_reducible refine MI.sx ?_ ?_ (by decide) | with_reducible refine MI.sI ?_ ?_ (by decide) (by decide) | with_reducible refine MI.draw ?_)) <;> (try first | exact True.intro | exact ⟨by omega, by omega⟩)
  · (repeat' (first | with_reducible assumption | with_reducible refine MI.sJx ?_ | with_reducible refine MI.sJ ?_ (by decide) | with_reducible refine MI.sx ?_ ?_ (by decide) | with_reducible refine MI.sI ?_ ?_ (by decide) (by decide) | with_reducible refine MI.draw ?_)) <;> (try first | exact True.intro | exact ⟨by omega, by omega⟩)
theorem MI.sh (r : Int) : ∀ (k : Nat) {h : cx_Q}, MI x n L Q D U V h0 h → MI x n L Q D U V h0 (m_sh x r k h)
  | 0, h, M => by rw [m_sh_0]; exact M
  | k + 1, h, M => by
    rw [m_sh_s]
    exact MI.sh r k (M.sI (M.r29 _) (by decide) (by decide))
theorem MI.front (M : MI x n L Q D U V h0 h) {r i : Int} : MI x n L Q D U V h0 (m_front h x r i) := by
  unfold m_front
  exact MI.sI (MI.sh r _ M) (M.r29 _) (by decide) (by decide)
theorem MI.clear (M : MI x n L Q D U V h0 h) {s : Int} (hQ : 0 ≤ Q) : MI x n L Q D U V h0 (m_clear h x s) := by
  unfold m_clear
  (repeat' (first | with_reducible assumption | with_reducible refine MI.sJx ?_ | with_reducible refine MI.sJ ?_ (by decide) | with_reducible refine MI.sx ?_ ?_ (by decide) | with_reducible refine MI.sI ?_ ?_ (by decide) (by decide) | with_reducible refine MI.draw ?_)) <;> (try first | exact True.intro | exact ⟨by omega, by omega⟩)
theorem MI.newS (M : MI x n L Q D U V h0 h) {r : Int} (hr : 0 ≤ r ∧ r < 36) : MI x n L Q D U V h0 (m_newS h x r) := by
  have a30 := M.r30 r
  have sl := m_slotN_rg hr a30 M.r29
  unfold m_newS
  refine MI.sI (MI.sh r _ ?_) sl (by decide) (by decide)
  unfold m_new1
  split
  · exact M
  · (repeat' (first | with_reducible assumption | with_reducible refine MI.sJx ?_ | with_reducible refine MI.sJ ?_ (by decide) | with_reducible refine MI.sx ?_ ?_ (by decide) | with_reducible refine MI.sI ?_ ?_ (by decide) (by decide) | with_reducible refine MI.draw ?_)) <;> (try first | exact True.intro | exact ⟨by omega, by omega⟩)
end
