/-! what opening leaves as it was -/
theorem readText_I {h : cx_Q} {x : Nat} {k : Int64} {o : Nat} {j : Int} (h0 : 1 ≤ o) (h1 : o ≤ 64) : cq_I (m_readText h x k) (x + o) j = cq_I h (x + o) j := by
  unfold m_readText m_rt
  refine itq_inv (P := fun g => cq_I g (x + o) j = cq_I h (x + o) j) (fun i g q => ?_) _ _ _ ?_
  · show cq_I (m_rt1 g x k i) (x + o) j = _
    unfold m_rt1
    rw [mm_sI, if_neg (fun e => by omega)]; exact q
  · show cq_I (cq_sI h x 75 _) (x + o) j = _
    rw [mm_sI, if_neg (fun e => by omega)]
theorem readText_x {h : cx_Q} {x : Nat} {k : Int64} {j : Int} (h0 : j ≠ 75) : cq_I (m_readText h x k) x j = cq_I h x j := by
  unfold m_readText m_rt
  refine itq_inv (P := fun g => cq_I g x j = cq_I h x j) (fun i g q => ?_) _ _ _ ?_
  · show cq_I (m_rt1 g x k i) x j = _
    rw [m_rt1_x]; exact q
  · show cq_I (cq_sI h x 75 _) x j = _
    rw [mm_sI, if_neg (fun e => h0 e.2)]
theorem keep_I {h : cx_Q} {x : Nat} {s : Int} {n : Nat} {o : Nat} {j : Int} (h0 : 58 ≤ o) : cq_I (m_keep x s n h) (x + o) j = cq_I h (x + o) j := by
  unfold m_keep
  refine itd_inv (P := fun g => cq_I g (x + o) j = cq_I h (x + o) j) (fun i g q => ?_) _ _ rfl
  show cq_I (m_keep1 g x s) (x + o) j = _
  unfold m_keep1 m_step m_keepB m_keepA
  simp only [mm_sI, mm_sJ, mm_sA, mm_IJ, mm_IA, mm_JI, mm_JA, mm_AI, mm_AJ, mm_ssI, mm_ssJ, mm_ssA, mm_zI, mm_zJ, mm_zA, mm_nI, mm_nJ, mm_nA]
  rw [if_neg (fun e => by omega), if_neg (fun e => by omega), if_neg (fun e => by omega)]
  exact q
theorem drop_I {h : cx_Q} {x : Nat} {s i : Int} {o : Nat} {j : Int} (h0 : 58 ≤ o) : cq_I (m_drop h x s i) (x + o) j = cq_I h (x + o) j := by
  unfold m_drop m_dk
  refine itq_inv (P := fun g => cq_I g (x + o) j = cq_I h (x + o) j) (fun i g q => ?_) _ _ _ ?_
  · show cq_I (m_dk1 g x i) (x + o) j = _
    unfold m_dk1
    simp only [mm_sI, mm_sJ, mm_sA, mm_IJ, mm_IA, mm_JI, mm_JA, mm_AI, mm_AJ, mm_ssI, mm_ssJ, mm_ssA, mm_zI, mm_zJ, mm_zA, mm_nI, mm_nJ, mm_nA]
    rw [if_neg (fun e => by omega)]; exact q
  · show cq_I (cq_sI h (x + 53) s _) (x + o) j = _
    rw [mm_sI, if_neg (fun e => by omega)]
theorem turn_I {h : cx_Q} {x : Nat} {u s : Int} {X : Int64} {o : Nat} {j : Int} (h0 : 58 ≤ o) : cq_I (m_turn h x u s X) (x + o) j = cq_I h (x + o) j := by
  rw [m_turn_I, if_neg (fun e => by omega), if_neg (fun e => by omega), if_neg (fun e => by omega)]
  unfold m_turn1
  simp only [mm_sI, mm_sJ, mm_sA, mm_IJ, mm_IA, mm_JI, mm_JA, mm_AI, mm_AJ, mm_ssI, mm_ssJ, mm_ssA, mm_zI, mm_zJ, mm_zA, mm_nI, mm_nJ, mm_nA]
  rw [if_neg (fun e => by omega), if_neg (fun e => by omega), if_neg (fun e => by omega), if_neg (fun e => by omega)]
theorem openQ_I {h : cx_Q} {x : Nat} {u s : Int} {o : Nat} {j : Int} (h0 : 58 ≤ o) (h1 : o ≤ 64) : cq_I (m_openQ h x u s) (x + o) j = cq_I h (x + o) j := by
  unfold m_openQ
  split
  · unfold m_oEnd
    rw [mm_sI, if_neg (fun e => by omega), readText_I (by omega) h1]
    unfold m_step
    simp only [mm_sI, mm_sJ, mm_sA, mm_IJ, mm_IA, mm_JI, mm_JA, mm_AI, mm_AJ, mm_ssI, mm_ssJ, mm_ssA, mm_zI, mm_zJ, mm_zA, mm_nI, mm_nJ, mm_nA]
    rw [if_neg (fun e => by omega), keep_I h0]
    unfold m_oT
    split
    · rw [turn_I h0]
      unfold m_oK0
      split
      · rw [keep_I h0]
      · rfl
    · rfl
  · unfold m_openK
    rw [mm_sI, if_neg (fun e => by omega), readText_I (by omega) h1, drop_I h0]
theorem openQ_x {h : cx_Q} {x : Nat} {u s : Int} {j : Int} (h0 : j ≠ 75) : cq_I (m_openQ h x u s) x j = cq_I h x j := by
  unfold m_openQ
  split
  · unfold m_oEnd
    rw [mm_sI, if_neg (fun e => by omega), readText_x h0, m_step_x, m_keep_x]
    unfold m_oT
    split
    · rw [m_turn_x]
      unfold m_oK0
      split
      · rw [m_keep_x]
      · rfl
    · rfl
  · unfold m_openK
    rw [mm_sI, if_neg (fun e => by omega), readText_x h0, m_drop_x]
