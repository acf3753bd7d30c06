/-! the reference's functions look at its own cells alone -/
/-- the reference's cells of h among the others of k -/
def ov (x : Nat) (h k : cx_Q) : cx_Q := (k.1, cq_s k, cq_z k, (fun a => if x ≤ a ∧ a ≤ x + 65 then cq_I h a else cq_I k a), (fun a => if x ≤ a ∧ a ≤ x + 65 then cq_J h a else cq_J k a), cq_A k)
section
variable {x : Nat} {h k : cx_Q}
theorem ov_a {a : Nat} : cq_I (ov x h k) a = if x ≤ a ∧ a ≤ x + 65 then cq_I h a else cq_I k a := Eq.trans rfl rfl
theorem ov_b {a : Nat} : cq_J (ov x h k) a = if x ≤ a ∧ a ≤ x + 65 then cq_J h a else cq_J k a := Eq.trans rfl rfl
theorem ov_I {o : Nat} (ho : o ≤ 65) : cq_I (ov x h k) (x + o) = cq_I h (x + o) := by rw [ov_a, if_pos ⟨by omega, by omega⟩]
theorem ov_J {o : Nat} (ho : o ≤ 65) : cq_J (ov x h k) (x + o) = cq_J h (x + o) := by rw [ov_b, if_pos ⟨by omega, by omega⟩]
theorem ov_I0 : cq_I (ov x h k) x = cq_I h x := by rw [ov_a, if_pos ⟨by omega, by omega⟩]
theorem ov_J0 : cq_J (ov x h k) x = cq_J h x := by rw [ov_b, if_pos ⟨by omega, by omega⟩]
theorem ov_w {a : Nat} {j v : Int} (ha : x ≤ a ∧ a ≤ x + 65) : cq_sI (ov x h k) a j v = ov x (cq_sI h a j v) k := by
  refine qext rfl rfl rfl (fun q r => ?_) (fun q r => ?_) (fun q r => rfl)
  · rw [mm_sI, ov_a, ov_a]
    by_cases w : x ≤ q ∧ q ≤ x + 65
    · rw [if_pos w, if_pos w, mm_sI]
    · rw [if_neg w, if_neg w, if_neg (fun z => w (by rw [z.1]; exact ha))]
  · rw [mm_JI, ov_b, ov_b, mm_JI]
theorem ov_v {a : Nat} {j : Int} {v : Int64} (ha : x ≤ a ∧ a ≤ x + 65) : cq_sJ (ov x h k) a j v = ov x (cq_sJ h a j v) k := by
  refine qext rfl rfl rfl (fun q r => ?_) (fun q r => ?_) (fun q r => rfl)
  · rw [mm_IJ, ov_a, ov_a, mm_IJ]
  · rw [mm_sJ, ov_b, ov_b]
    by_cases w : x ≤ q ∧ q ≤ x + 65
    · rw [if_pos w, if_pos w, mm_sJ]
    · rw [if_neg w, if_neg w, if_neg (fun z => w (by rw [z.1]; exact ha))]
theorem ov_sI {o : Nat} {j v : Int} (ho : o ≤ 65) : cq_sI (ov x h k) (x + o) j v = ov x (cq_sI h (x + o) j v) k := ov_w ⟨by omega, by omega⟩
theorem ov_sJ {o : Nat} {j : Int} {v : Int64} (ho : o ≤ 65) : cq_sJ (ov x h k) (x + o) j v = ov x (cq_sJ h (x + o) j v) k := ov_v ⟨by omega, by omega⟩
theorem ov_sI0 {j v : Int} : cq_sI (ov x h k) x j v = ov x (cq_sI h x j v) k := ov_w ⟨by omega, by omega⟩
theorem ov_sJ0 {j : Int} {v : Int64} : cq_sJ (ov x h k) x j v = ov x (cq_sJ h x j v) k := ov_v ⟨by omega, by omega⟩
theorem ov_if {c : Prop} {d : Decidable c} {a b : cx_Q} : (@ite cx_Q c d (ov x a k) (ov x b k)) = ov x (@ite cx_Q c d a b) k := by
  split
  · rfl
  · rfl
theorem itq_ov {f : Int → cx_Q → cx_Q} (e : ∀ i h, f i (ov x h k) = ov x (f i h) k) : ∀ (n : Nat) (i : Int) (h : cx_Q), m_itq f n i (ov x h k) = ov x (m_itq f n i h) k
  | 0, i, h => by rw [m_itq, m_itq]
  | n + 1, i, h => by rw [m_itq, m_itq, e, itq_ov e n]
theorem itd_ov {f : Nat → cx_Q → cx_Q} (e : ∀ i h, f i (ov x h k) = ov x (f i h) k) : ∀ (n : Nat) (h : cx_Q), m_itd f n (ov x h k) = ov x (m_itd f n h) k
  | 0, h => by rw [m_itd, m_itd]
  | n + 1, h => by rw [m_itd, m_itd, e, itd_ov e n]
theorem ov_m_draw {u : Int} : m_draw (ov x h k) x u = ov x (m_draw h x u) k := by
  unfold m_draw
  simp (disch := decide) only [ov_I, ov_J, ov_I0, ov_J0, ov_sI, ov_sJ, ov_sI0, ov_sJ0, ov_if]
theorem ov_m_lend1 {u : Int} : m_lend1 (ov x h k) x u = ov x (m_lend1 h x u) k := by
  unfold m_lend1
  simp (disch := decide) only [ov_I, ov_J, ov_I0, ov_J0, ov_sI, ov_sJ, ov_sI0, ov_sJ0, ov_if]
theorem ov_m_lend2 {u : Int} {a : Int} : m_lend2 (ov x h k) x u a = ov x (m_lend2 h x u a) k := by
  unfold m_lend2
  simp (disch := decide) only [ov_I, ov_J, ov_I0, ov_J0, ov_sI, ov_sJ, ov_sI0, ov_sJ0, ov_if]
theorem ov_m_lend3 {u : Int} {a : Int} : m_lend3 (ov x h k) x u a = ov x (m_lend3 h x u a) k := by
  unfold m_lend3
  simp (disch := decide) only [ov_I, ov_J, ov_I0, ov_J0, ov_sI, ov_sJ, ov_sI0, ov_sJ0, ov_if]
theorem ov_m_lend {u : Int} : m_lend (ov x h k) x u = ov x (m_lend h x u) k := by
  unfold m_lend
  simp (disch := decide) only [ov_I, ov_J, ov_I0, ov_J0, ov_sI, ov_sJ, ov_sI0, ov_sJ0, ov_if, ov_m_draw, ov_m_lend1, ov_m_lend2, ov_m_lend3]
theorem ov_m_isUser {u : Int} : m_isUser (ov x h k) x u = m_isUser h x u := by
  unfold m_isUser
  simp (disch := decide) only [ov_I, ov_J, ov_I0, ov_J0, ov_sI, ov_sJ, ov_sI0, ov_sJ0, ov_if]
theorem ov_m_reg1 {u : Int} : m_reg1 (ov x h k) x u = ov x (m_reg1 h x u) k := by
  unfold m_reg1
  simp (disch := decide) only [ov_I, ov_J, ov_I0, ov_J0, ov_sI, ov_sJ, ov_sI0, ov_sJ0, ov_if, ov_m_draw]
theorem ov_m_reg2 {u : Int} : m_reg2 (ov x h k) x u = ov x (m_reg2 h x u) k := by
  unfold m_reg2
  simp (disch := decide) only [ov_I, ov_J, ov_I0, ov_J0, ov_sI, ov_sJ, ov_sI0, ov_sJ0, ov_if]
theorem ov_m_register {u : Int} : m_register (ov x h k) x u = ov x (m_register h x u) k := by
  unfold m_register
  simp (disch := decide) only [ov_I, ov_J, ov_I0, ov_J0, ov_sI, ov_sJ, ov_sI0, ov_sJ0, ov_if, ov_m_lend, ov_m_reg1, ov_m_reg2]
theorem ov_m_leastOnce {u : Int} : m_leastOnce (ov x h k) x u = m_leastOnce h x u := by
  unfold m_leastOnce
  simp (disch := decide) only [ov_I, ov_J, ov_I0, ov_J0, ov_sI, ov_sJ, ov_sI0, ov_sJ0, ov_if]
theorem ov_m_onceDir {u : Int} : m_onceDir (ov x h k) x u = m_onceDir h x u := by
  unfold m_onceDir
  simp (disch := decide) only [ov_I, ov_J, ov_I0, ov_J0, ov_sI, ov_sJ, ov_sI0, ov_sJ0, ov_if]
theorem ov_m_isLetter {l : Int} : m_isLetter (ov x h k) x l = m_isLetter h x l := by
  unfold m_isLetter
  simp (disch := decide) only [ov_I, ov_J, ov_I0, ov_J0, ov_sI, ov_sJ, ov_sI0, ov_sJ0, ov_if]
theorem ov_m_isPair {u : Int} {v : Int} : m_isPair (ov x h k) x u v = m_isPair h x u v := by
  unfold m_isPair
  simp (disch := decide) only [ov_I, ov_J, ov_I0, ov_J0, ov_sI, ov_sJ, ov_sI0, ov_sJ0, ov_if, ov_m_isUser]
theorem ov_m_count {w : Int} : m_count (ov x h k) x w = m_count h x w := by
  unfold m_count
  simp (disch := decide) only [ov_I, ov_J, ov_I0, ov_J0, ov_sI, ov_sJ, ov_sI0, ov_sJ0, ov_if]
theorem ov_m_kept {u : Int} : m_kept (ov x h k) x u = m_kept h x u := by
  unfold m_kept
  simp (disch := decide) only [ov_I, ov_J, ov_I0, ov_J0, ov_sI, ov_sJ, ov_sI0, ov_sJ0, ov_if]
theorem ov_m_sessionsOf {u : Int} : m_sessionsOf (ov x h k) x u = m_sessionsOf h x u := by
  unfold m_sessionsOf
  simp (disch := decide) only [ov_I, ov_J, ov_I0, ov_J0, ov_sI, ov_sJ, ov_sI0, ov_sJ0, ov_if]
theorem ov_m_slotP {u : Int} {v : Int} {i : Int} : m_slotP (ov x h k) x u v i = m_slotP h x u v i := by
  unfold m_slotP
  simp (disch := decide) only [ov_I, ov_J, ov_I0, ov_J0, ov_sI, ov_sJ, ov_sI0, ov_sJ0, ov_if, ov_m_isPair]
theorem ov_m_seal {v : Int} : m_seal (ov x h k) x v = m_seal h x v := by
  unfold m_seal
  simp (disch := decide) only [ov_I, ov_J, ov_I0, ov_J0, ov_sI, ov_sJ, ov_sI0, ov_sJ0, ov_if]
theorem ov_m_sess {s : Int} {w : Int} : m_sess (ov x h k) x s w = m_sess h x s w := by
  unfold m_sess
  simp (disch := decide) only [ov_I, ov_J, ov_I0, ov_J0, ov_sI, ov_sJ, ov_sI0, ov_sJ0, ov_if]
theorem ov_m_ins {s : Int} {w : Int} : m_ins (ov x h k) x s w = m_ins h x s w := by
  unfold m_ins
  simp (disch := decide) only [ov_I, ov_J, ov_I0, ov_J0, ov_sI, ov_sJ, ov_sI0, ov_sJ0, ov_if]
theorem ov_m_fd1 {v : Int} {k' : Int} : m_fd1 (ov x h k) x v k' = ov x (m_fd1 h x v k') k := by
  unfold m_fd1
  simp (disch := decide) only [ov_I, ov_J, ov_I0, ov_J0, ov_sI, ov_sJ, ov_sI0, ov_sJ0, ov_if]
theorem ov_m_fd {a b c d e : Int} : ∀ (r : Nat) (i : Int) (h : cx_Q), m_fd x a b c d e r i (ov x h k) = ov x (m_fd x a b c d e r i h) k
  | 0, i, h => by rw [m_fd, m_fd]
  | r + 1, i, h => by rw [m_fd, m_fd, ov_m_fd1, ov_m_fd r]
theorem ov_m_cp {l t : Int} : ∀ (r : Nat) (i : Int) (h : cx_Q), m_cp x l t r i (ov x h k) = ov x (m_cp x l t r i h) k
  | 0, i, h => by rw [m_cp, m_cp]
  | r + 1, i, h => by rw [m_cp, m_cp, ov_I (by decide), ov_sI (by decide), ov_m_cp r]
theorem ov_m_copy {l : Int} : m_copy (ov x h k) x l = ov x (m_copy h x l) k := by
  unfold m_copy
  simp (disch := decide) only [ov_I, ov_J, ov_I0, ov_J0, ov_sI, ov_sJ, ov_sI0, ov_sJ0, ov_if, ov_m_cp]
theorem ov_m_pubA {u : Int} : m_pubA (ov x h k) x u = ov x (m_pubA h x u) k := by
  unfold m_pubA
  simp (disch := decide) only [ov_I, ov_J, ov_I0, ov_J0, ov_sI, ov_sJ, ov_sI0, ov_sJ0, ov_if, ov_m_draw]
theorem ov_m_pubB {a : Int} : m_pubB (ov x h k) x a = ov x (m_pubB h x a) k := by
  unfold m_pubB
  simp (disch := decide) only [ov_I, ov_J, ov_I0, ov_J0, ov_sI, ov_sJ, ov_sI0, ov_sJ0, ov_if]
theorem ov_m_pub1 {u : Int} : m_pub1 (ov x h k) x u = ov x (m_pub1 h x u) k := by
  unfold m_pub1
  simp (disch := decide) only [ov_I, ov_J, ov_I0, ov_J0, ov_sI, ov_sJ, ov_sI0, ov_sJ0, ov_if, ov_m_pubA, ov_m_pubB]
theorem ov_m_pub {u : Int} : ∀ (r : Nat) (h : cx_Q), m_pub x u r (ov x h k) = ov x (m_pub x u r h) k
  | 0, h => by rw [m_pub, m_pub]
  | r + 1, h => by rw [m_pub, m_pub, ov_m_pub1, ov_m_pub r]
theorem ov_m_bytes {at_ : Int} {m : Int} : m_bytes (ov x h k) x at_ m = m_bytes h x at_ m := by
  unfold m_bytes
  simp (disch := decide) only [ov_I, ov_J, ov_I0, ov_J0, ov_sI, ov_sJ, ov_sI0, ov_sJ0, ov_if]
theorem ov_m_isTag {l : Int} {k' : Int64} : m_isTag (ov x h k) x l k' = m_isTag h x l k' := by
  unfold m_isTag
  simp (disch := decide) only [ov_I, ov_J, ov_I0, ov_J0, ov_sI, ov_sJ, ov_sI0, ov_sJ0, ov_if, ov_m_bytes]
theorem ov_m_keptAt {s : Int} : m_keptAt (ov x h k) x s = m_keptAt h x s := by
  unfold m_keptAt
  simp (disch := decide) only [ov_I, ov_J, ov_I0, ov_J0, ov_sI, ov_sJ, ov_sI0, ov_sJ0, ov_if]
theorem ov_m_rt1 {k' : Int64} {i : Int} : m_rt1 (ov x h k) x k' i = ov x (m_rt1 h x k' i) k := by
  unfold m_rt1
  simp (disch := decide) only [ov_I, ov_J, ov_I0, ov_J0, ov_sI, ov_sJ, ov_sI0, ov_sJ0, ov_if]
theorem ov_m_rt {k' : Int64} {n : Nat} {i : Int} : m_rt x k' n i (ov x h k) = ov x (m_rt x k' n i h) k := by
  unfold m_rt
  exact itq_ov (fun i h => by simp (disch := decide) only [ov_I, ov_J, ov_I0, ov_J0, ov_sI, ov_sJ, ov_sI0, ov_sJ0, ov_if, ov_m_rt1]) _ _ _
theorem ov_m_readText {k' : Int64} : m_readText (ov x h k) x k' = ov x (m_readText h x k') k := by
  unfold m_readText
  simp (disch := decide) only [ov_I, ov_J, ov_I0, ov_J0, ov_sI, ov_sJ, ov_sI0, ov_sJ0, ov_if, ov_m_rt]
theorem ov_m_step {s : Int} : m_step (ov x h k) x s = ov x (m_step h x s) k := by
  unfold m_step
  simp (disch := decide) only [ov_I, ov_J, ov_I0, ov_J0, ov_sI, ov_sJ, ov_sI0, ov_sJ0, ov_if]
theorem ov_m_keepA {s : Int} : m_keepA (ov x h k) x s = ov x (m_keepA h x s) k := by
  unfold m_keepA
  simp (disch := decide) only [ov_I, ov_J, ov_I0, ov_J0, ov_sI, ov_sJ, ov_sI0, ov_sJ0, ov_if]
theorem ov_m_keepB {s : Int} : m_keepB (ov x h k) x s = ov x (m_keepB h x s) k := by
  unfold m_keepB
  simp (disch := decide) only [ov_I, ov_J, ov_I0, ov_J0, ov_sI, ov_sJ, ov_sI0, ov_sJ0, ov_if, ov_m_keepA]
theorem ov_m_keep1 {s : Int} : m_keep1 (ov x h k) x s = ov x (m_keep1 h x s) k := by
  unfold m_keep1
  simp (disch := decide) only [ov_I, ov_J, ov_I0, ov_J0, ov_sI, ov_sJ, ov_sI0, ov_sJ0, ov_if, ov_m_step, ov_m_keepB]
theorem ov_m_keep {s : Int} {n : Nat} : m_keep x s n (ov x h k) = ov x (m_keep x s n h) k := by
  unfold m_keep
  exact itd_ov (fun i h => by simp (disch := decide) only [ov_I, ov_J, ov_I0, ov_J0, ov_sI, ov_sJ, ov_sI0, ov_sJ0, ov_if, ov_m_keep1]) _ _
theorem ov_m_dk1 {k' : Int} : m_dk1 (ov x h k) x k' = ov x (m_dk1 h x k') k := by
  unfold m_dk1
  simp (disch := decide) only [ov_I, ov_J, ov_I0, ov_J0, ov_sI, ov_sJ, ov_sI0, ov_sJ0, ov_if]
theorem ov_m_dk {n : Nat} {k' : Int} : m_dk x n k' (ov x h k) = ov x (m_dk x n k' h) k := by
  unfold m_dk
  exact itq_ov (fun i h => by simp (disch := decide) only [ov_I, ov_J, ov_I0, ov_J0, ov_sI, ov_sJ, ov_sI0, ov_sJ0, ov_if, ov_m_dk1]) _ _ _
theorem ov_m_drop {s : Int} {i : Int} : m_drop (ov x h k) x s i = ov x (m_drop h x s i) k := by
  unfold m_drop
  simp (disch := decide) only [ov_I, ov_J, ov_I0, ov_J0, ov_sI, ov_sJ, ov_sI0, ov_sJ0, ov_if, ov_m_dk]
theorem ov_m_sh {r : Int} {n : Nat} : m_sh x r n (ov x h k) = ov x (m_sh x r n h) k := by
  unfold m_sh
  exact itd_ov (fun i h => by simp (disch := decide) only [ov_I, ov_J, ov_I0, ov_J0, ov_sI, ov_sJ, ov_sI0, ov_sJ0, ov_if]) _ _
theorem ov_m_front {r : Int} {i : Int} : m_front (ov x h k) x r i = ov x (m_front h x r i) k := by
  unfold m_front
  simp (disch := decide) only [ov_I, ov_J, ov_I0, ov_J0, ov_sI, ov_sJ, ov_sI0, ov_sJ0, ov_if, ov_m_sh]
theorem ov_m_clear {s : Int} : m_clear (ov x h k) x s = ov x (m_clear h x s) k := by
  unfold m_clear
  simp (disch := decide) only [ov_I, ov_J, ov_I0, ov_J0, ov_sI, ov_sJ, ov_sI0, ov_sJ0, ov_if]
theorem ov_m_turnS {s : Int} : m_turnS (ov x h k) x s = ov x (m_turnS h x s) k := by
  unfold m_turnS
  simp (disch := decide) only [ov_I, ov_J, ov_I0, ov_J0, ov_sI, ov_sJ, ov_sI0, ov_sJ0, ov_if]
theorem ov_m_slotN {r : Int} : m_slotN (ov x h k) x r = m_slotN h x r := by
  unfold m_slotN
  simp (disch := decide) only [ov_I, ov_J, ov_I0, ov_J0, ov_sI, ov_sJ, ov_sI0, ov_sJ0, ov_if]
theorem ov_m_new1 {r : Int} : m_new1 (ov x h k) x r = ov x (m_new1 h x r) k := by
  unfold m_new1
  simp (disch := decide) only [ov_I, ov_J, ov_I0, ov_J0, ov_sI, ov_sJ, ov_sI0, ov_sJ0, ov_if]
theorem ov_m_newS {r : Int} : m_newS (ov x h k) x r = ov x (m_newS h x r) k := by
  unfold m_newS
  simp (disch := decide) only [ov_I, ov_J, ov_I0, ov_J0, ov_sI, ov_sJ, ov_sI0, ov_sJ0, ov_if, ov_m_sh, ov_m_slotN, ov_m_new1]
theorem ov_m_rl1 {l : Int} : m_rl1 (ov x h k) x l = ov x (m_rl1 h x l) k := by
  unfold m_rl1
  simp (disch := decide) only [ov_I, ov_J, ov_I0, ov_J0, ov_sI, ov_sJ, ov_sI0, ov_sJ0, ov_if]
theorem ov_m_hd {l : Int} : m_hd (ov x h k) x l = m_hd h x l := by
  unfold m_hd
  simp (disch := decide) only [ov_I, ov_J, ov_I0, ov_J0, ov_sI, ov_sJ, ov_sI0, ov_sJ0, ov_if]
theorem ov_m_rl3 {l : Int} : m_rl3 (ov x h k) x l = ov x (m_rl3 h x l) k := by
  unfold m_rl3
  simp (disch := decide) only [ov_I, ov_J, ov_I0, ov_J0, ov_sI, ov_sJ, ov_sI0, ov_sJ0, ov_if, ov_m_rl1, ov_m_hd]
theorem ov_m_rl4 {d : Int} : m_rl4 (ov x h k) x d = ov x (m_rl4 h x d) k := by
  unfold m_rl4
  simp (disch := decide) only [ov_I, ov_J, ov_I0, ov_J0, ov_sI, ov_sJ, ov_sI0, ov_sJ0, ov_if, ov_m_bytes]
theorem ov_m_rl {l : Int} : m_rl (ov x h k) x l = ov x (m_rl h x l) k := by
  unfold m_rl
  simp (disch := decide) only [ov_I, ov_J, ov_I0, ov_J0, ov_sI, ov_sJ, ov_sI0, ov_sJ0, ov_if, ov_m_hd, ov_m_rl3, ov_m_rl4]
theorem ov_m_rlOk {l : Int} {u : Int} : m_rlOk (ov x h k) x l u = m_rlOk h x l u := by
  unfold m_rlOk
  simp (disch := decide) only [ov_I, ov_J, ov_I0, ov_J0, ov_sI, ov_sJ, ov_sI0, ov_sJ0, ov_if, ov_m_hd]
theorem ov_m_turn1 {s : Int} : m_turn1 (ov x h k) x s = ov x (m_turn1 h x s) k := by
  unfold m_turn1
  simp (disch := decide) only [ov_I, ov_J, ov_I0, ov_J0, ov_sI, ov_sJ, ov_sI0, ov_sJ0, ov_if]
theorem ov_m_turn2 {s : Int} {X : Int64} : m_turn2 (ov x h k) x s X = ov x (m_turn2 h x s X) k := by
  unfold m_turn2
  simp (disch := decide) only [ov_I, ov_J, ov_I0, ov_J0, ov_sI, ov_sJ, ov_sI0, ov_sJ0, ov_if]
theorem ov_m_turn3 {s : Int} : m_turn3 (ov x h k) x s = ov x (m_turn3 h x s) k := by
  unfold m_turn3
  simp (disch := decide) only [ov_I, ov_J, ov_I0, ov_J0, ov_sI, ov_sJ, ov_sI0, ov_sJ0, ov_if]
theorem ov_m_turn {u : Int} {s : Int} {X : Int64} : m_turn (ov x h k) x u s X = ov x (m_turn h x u s X) k := by
  unfold m_turn
  simp (disch := decide) only [ov_I, ov_J, ov_I0, ov_J0, ov_sI, ov_sJ, ov_sI0, ov_sJ0, ov_if, ov_m_draw, ov_m_turnS, ov_m_turn1, ov_m_turn2, ov_m_turn3]
theorem ov_m_bn1 {s : Int} {v : Int} {k' : Int} {R : Int64} {ot : Int64} {eO : Int64} : m_bn1 (ov x h k) x s v k' R ot eO = ov x (m_bn1 h x s v k' R ot eO) k := by
  unfold m_bn1
  simp (disch := decide) only [ov_I, ov_J, ov_I0, ov_J0, ov_sI, ov_sJ, ov_sI0, ov_sJ0, ov_if]
theorem ov_m_bn2 {u : Int} {v : Int} {k' : Int} {R : Int64} {ot : Int64} {eO : Int64} : m_bn2 (ov x h k) x u v k' R ot eO = ov x (m_bn2 h x u v k' R ot eO) k := by
  unfold m_bn2
  simp (disch := decide) only [ov_I, ov_J, ov_I0, ov_J0, ov_sI, ov_sJ, ov_sI0, ov_sJ0, ov_if, ov_m_draw, ov_m_clear, ov_m_turnS, ov_m_slotN, ov_m_newS, ov_m_turn3, ov_m_bn1]
theorem ov_m_bn0 {v : Int} : m_bn0 (ov x h k) x v = ov x (m_bn0 h x v) k := by
  unfold m_bn0
  simp (disch := decide) only [ov_I, ov_J, ov_I0, ov_J0, ov_sI, ov_sJ, ov_sI0, ov_sJ0, ov_if, ov_m_leastOnce]
theorem ov_m_bnC {u : Int} {v : Int} : m_bnC (ov x h k) x u v = ov x (m_bnC h x u v) k := by
  unfold m_bnC
  simp (disch := decide) only [ov_I, ov_J, ov_I0, ov_J0, ov_sI, ov_sJ, ov_sI0, ov_sJ0, ov_if, ov_m_draw, ov_m_bn0]
theorem ov_m_bnR {u : Int} {v : Int} {k' : Int} {ot : Int64} : m_bnR (ov x h k) x u v k' ot = m_bnR h x u v k' ot := by
  unfold m_bnR
  simp (disch := decide) only [ov_I, ov_J, ov_I0, ov_J0, ov_sI, ov_sJ, ov_sI0, ov_sJ0, ov_if]
theorem ov_m_begin {u : Int} {v : Int} : m_begin (ov x h k) x u v = ov x (m_begin h x u v) k := by
  unfold m_begin
  simp (disch := decide) only [ov_I, ov_J, ov_I0, ov_J0, ov_sI, ov_sJ, ov_sI0, ov_sJ0, ov_if, ov_m_leastOnce, ov_m_bn2, ov_m_bnC, ov_m_bnR]
theorem ov_m_openK {s : Int} {i : Int} {k' : Int64} : m_openK (ov x h k) x s i k' = ov x (m_openK h x s i k') k := by
  unfold m_openK
  simp (disch := decide) only [ov_I, ov_J, ov_I0, ov_J0, ov_sI, ov_sJ, ov_sI0, ov_sJ0, ov_if, ov_m_readText, ov_m_drop]
theorem ov_m_oEnd {s : Int} {k' : Int64} : m_oEnd (ov x h k) x s k' = ov x (m_oEnd h x s k') k := by
  unfold m_oEnd
  simp (disch := decide) only [ov_I, ov_J, ov_I0, ov_J0, ov_sI, ov_sJ, ov_sI0, ov_sJ0, ov_if, ov_m_readText, ov_m_step, ov_m_keep]
theorem ov_m_bef {s : Int} {t : Int} : m_bef (ov x h k) x s t = m_bef h x s t := by
  unfold m_bef
  simp (disch := decide) only [ov_I, ov_J, ov_I0, ov_J0, ov_sI, ov_sJ, ov_sI0, ov_sJ0, ov_if]
theorem ov_m_beh {s : Int} {t : Int} : m_beh (ov x h k) x s t = m_beh h x s t := by
  unfold m_beh
  simp (disch := decide) only [ov_I, ov_J, ov_I0, ov_J0, ov_sI, ov_sJ, ov_sI0, ov_sJ0, ov_if]
theorem ov_m_com {s : Int} {t : Int} : m_com (ov x h k) x s t = m_com h x s t := by
  unfold m_com
  simp (disch := decide) only [ov_I, ov_J, ov_I0, ov_J0, ov_sI, ov_sJ, ov_sI0, ov_sJ0, ov_if]
theorem ov_m_ch0 {s : Int} {t : Int} : m_ch0 (ov x h k) x s t = m_ch0 h x s t := by
  unfold m_ch0
  simp (disch := decide) only [ov_I, ov_J, ov_I0, ov_J0, ov_sI, ov_sJ, ov_sI0, ov_sJ0, ov_if, ov_m_com]
theorem ov_m_okey {s : Int} {t : Int} : m_okey (ov x h k) x s t = m_okey h x s t := by
  unfold m_okey
  simp (disch := decide) only [ov_I, ov_J, ov_I0, ov_J0, ov_sI, ov_sJ, ov_sI0, ov_sJ0, ov_if, ov_m_beh, ov_m_ch0]
theorem ov_m_oK0 {s : Int} : m_oK0 (ov x h k) x s = ov x (m_oK0 h x s) k := by
  unfold m_oK0
  simp (disch := decide) only [ov_I, ov_J, ov_I0, ov_J0, ov_sI, ov_sJ, ov_sI0, ov_sJ0, ov_if, ov_m_keep]
theorem ov_m_oT {u : Int} {s : Int} {t : Int} : m_oT (ov x h k) x u s t = ov x (m_oT h x u s t) k := by
  unfold m_oT
  simp (disch := decide) only [ov_I, ov_J, ov_I0, ov_J0, ov_sI, ov_sJ, ov_sI0, ov_sJ0, ov_if, ov_m_turn, ov_m_com, ov_m_oK0]
theorem ov_m_tg {l : Int} {k' : Int64} : m_tg (ov x h k) x l k' = m_tg h x l k' := by
  unfold m_tg
  simp (disch := decide) only [ov_I, ov_J, ov_I0, ov_J0, ov_sI, ov_sJ, ov_sI0, ov_sJ0, ov_if, ov_m_bytes]
theorem ov_m_oA {l : Int} {s : Int} {t : Int} : m_oA (ov x h k) x l s t = m_oA h x l s t := by
  unfold m_oA
  simp (disch := decide) only [ov_I, ov_J, ov_I0, ov_J0, ov_sI, ov_sJ, ov_sI0, ov_sJ0, ov_if, ov_m_bef, ov_m_beh, ov_m_okey, ov_m_tg]
theorem ov_m_tn {s : Int} : m_tn (ov x h k) x s = m_tn h x s := by
  unfold m_tn
  simp (disch := decide) only [ov_I, ov_J, ov_I0, ov_J0, ov_sI, ov_sJ, ov_sI0, ov_sJ0, ov_if]
theorem ov_m_openA {l : Int} {s : Int} : m_openA (ov x h k) x l s = m_openA h x l s := by
  unfold m_openA
  simp (disch := decide) only [ov_I, ov_J, ov_I0, ov_J0, ov_sI, ov_sJ, ov_sI0, ov_sJ0, ov_if, ov_m_keptAt, ov_m_tg, ov_m_oA, ov_m_tn]
theorem ov_m_openQ {u : Int} {s : Int} : m_openQ (ov x h k) x u s = ov x (m_openQ h x u s) k := by
  unfold m_openQ
  simp (disch := decide) only [ov_I, ov_J, ov_I0, ov_J0, ov_sI, ov_sJ, ov_sI0, ov_sJ0, ov_if, ov_m_keptAt, ov_m_openK, ov_m_oEnd, ov_m_okey, ov_m_oT, ov_m_tn]
theorem ov_m_clF {l : Int} {r : Int} {k' : Int} : m_clF (ov x h k) x l r k' = m_clF h x l r k' := by
  unfold m_clF
  simp (disch := decide) only [ov_I, ov_J, ov_I0, ov_J0, ov_sI, ov_sJ, ov_sI0, ov_sJ0, ov_if, ov_m_openA]
theorem ov_m_clI {l : Int} {r : Int} : m_clI (ov x h k) x l r = m_clI h x l r := by
  have e0 : m_clF (ov x h k) x l r = m_clF h x l r := funext fun _ => ov_m_clF
  unfold m_clI
  rw [e0]
  simp (disch := decide) only [ov_I, ov_J, ov_I0, ov_J0, ov_sI, ov_sJ, ov_sI0, ov_sJ0, ov_if]
theorem ov_m_clA {l : Int} {r : Int} : m_clA (ov x h k) x l r = m_clA h x l r := by
  unfold m_clA
  simp (disch := decide) only [ov_I, ov_J, ov_I0, ov_J0, ov_sI, ov_sJ, ov_sI0, ov_sJ0, ov_if, ov_m_clF, ov_m_clI]
theorem ov_m_clQ {l : Int} {u : Int} {r : Int} : m_clQ (ov x h k) x l u r = ov x (m_clQ h x l u r) k := by
  unfold m_clQ
  simp (disch := decide) only [ov_I, ov_J, ov_I0, ov_J0, ov_sI, ov_sJ, ov_sI0, ov_sJ0, ov_if, ov_m_front, ov_m_openQ, ov_m_clI]
theorem ov_m_cfN {u : Int} {s : Int} {ln : Int} {e : Int64} : m_cfN (ov x h k) x u s ln e = ov x (m_cfN h x u s ln e) k := by
  unfold m_cfN
  simp (disch := decide) only [ov_I, ov_J, ov_I0, ov_J0, ov_sI, ov_sJ, ov_sI0, ov_sJ0, ov_if]
theorem ov_m_cfD {u : Int} {s : Int} {ln : Int} {on : Int} {e : Int64} : m_cfD (ov x h k) x u s ln on e = ov x (m_cfD h x u s ln on e) k := by
  unfold m_cfD
  simp (disch := decide) only [ov_I, ov_J, ov_I0, ov_J0, ov_sI, ov_sJ, ov_sI0, ov_sJ0, ov_if, ov_m_cfN]
theorem ov_m_cfS {s : Int} {ln : Int} {on : Int} {own : Int} {e : Int64} : m_cfS (ov x h k) x s ln on own e = ov x (m_cfS h x s ln on own e) k := by
  unfold m_cfS
  simp (disch := decide) only [ov_I, ov_J, ov_I0, ov_J0, ov_sI, ov_sJ, ov_sI0, ov_sJ0, ov_if]
theorem ov_m_cfG {u : Int} {r : Int} {ln : Int} {on : Int} {e : Int64} {root : Int64} : m_cfG (ov x h k) x u r ln on e root = ov x (m_cfG h x u r ln on e root) k := by
  unfold m_cfG
  simp (disch := decide) only [ov_I, ov_J, ov_I0, ov_J0, ov_sI, ov_sJ, ov_sI0, ov_sJ0, ov_if, ov_m_clear, ov_m_slotN, ov_m_newS, ov_m_cfS]
theorem ov_m_cfR {u : Int} {ln : Int} {on : Int} {who : Int64} {e : Int64} : m_cfR (ov x h k) x u ln on who e = m_cfR h x u ln on who e := by
  unfold m_cfR
  simp (disch := decide) only [ov_I, ov_J, ov_I0, ov_J0, ov_sI, ov_sJ, ov_sI0, ov_sJ0, ov_if]
theorem ov_m_cfC {u : Int} {ln : Int} {root : Int64} : m_cfC (ov x h k) x u ln root = m_cfC h x u ln root := by
  unfold m_cfC
  simp (disch := decide) only [ov_I, ov_J, ov_I0, ov_J0, ov_sI, ov_sJ, ov_sI0, ov_sJ0, ov_if]
theorem ov_m_cfK {u : Int} {ln : Int} {root : Int64} : m_cfK (ov x h k) x u ln root = m_cfK h x u ln root := by
  unfold m_cfK
  simp (disch := decide) only [ov_I, ov_J, ov_I0, ov_J0, ov_sI, ov_sJ, ov_sI0, ov_sJ0, ov_if, ov_m_cfC]
theorem ov_m_cfQ0 {u : Int} {v : Int} {ln : Int} {on : Int} {who : Int64} {e : Int64} : m_cfQ0 (ov x h k) x u v ln on who e = ov x (m_cfQ0 h x u v ln on who e) k := by
  unfold m_cfQ0
  simp (disch := decide) only [ov_I, ov_J, ov_I0, ov_J0, ov_sI, ov_sJ, ov_sI0, ov_sJ0, ov_if, ov_m_slotN, ov_m_openQ, ov_m_cfD, ov_m_cfG, ov_m_cfR]
theorem ov_m_cfA2 {l : Int} {u : Int} {ln : Int} {on : Int} {who : Int64} {e : Int64} : m_cfA2 (ov x h k) x l u ln on who e = m_cfA2 h x l u ln on who e := by
  unfold m_cfA2
  simp (disch := decide) only [ov_I, ov_J, ov_I0, ov_J0, ov_sI, ov_sJ, ov_sI0, ov_sJ0, ov_if, ov_m_tg, ov_m_cfR, ov_m_cfK]
theorem ov_m_cfF {u : Int} {ln : Int} {e : Int64} {k' : Int} : m_cfF (ov x h k) x u ln e k' = m_cfF h x u ln e k' := by
  unfold m_cfF
  simp (disch := decide) only [ov_I, ov_J, ov_I0, ov_J0, ov_sI, ov_sJ, ov_sI0, ov_sJ0, ov_if]
theorem ov_m_cfH {u : Int} {ln : Int} {e : Int64} : m_cfH (ov x h k) x u ln e = m_cfH h x u ln e := by
  have e0 : m_cfF (ov x h k) x u ln e = m_cfF h x u ln e := funext fun _ => ov_m_cfF
  unfold m_cfH
  rw [e0]
  simp (disch := decide) only [ov_I, ov_J, ov_I0, ov_J0, ov_sI, ov_sJ, ov_sI0, ov_sJ0, ov_if]
theorem ov_m_cfA1 {l : Int} {u : Int} {ln : Int} {on : Int} {who : Int64} {e : Int64} : m_cfA1 (ov x h k) x l u ln on who e = m_cfA1 h x l u ln on who e := by
  unfold m_cfA1
  simp (disch := decide) only [ov_I, ov_J, ov_I0, ov_J0, ov_sI, ov_sJ, ov_sI0, ov_sJ0, ov_if, ov_m_cfA2, ov_m_cfH]
theorem ov_m_cfB {r : Int} {e : Int64} {k' : Int} : m_cfB (ov x h k) x r e k' = m_cfB h x r e k' := by
  unfold m_cfB
  simp (disch := decide) only [ov_I, ov_J, ov_I0, ov_J0, ov_sI, ov_sJ, ov_sI0, ov_sJ0, ov_if]
theorem ov_m_cfI {r : Int} {e : Int64} : m_cfI (ov x h k) x r e = m_cfI h x r e := by
  have e0 : m_cfB (ov x h k) x r e = m_cfB h x r e := funext fun _ => ov_m_cfB
  unfold m_cfI
  rw [e0]
  simp (disch := decide) only [ov_I, ov_J, ov_I0, ov_J0, ov_sI, ov_sJ, ov_sI0, ov_sJ0, ov_if]
theorem ov_m_cfA0 {l : Int} {u : Int} {r : Int} {ln : Int} {on : Int} {who : Int64} {e : Int64} : m_cfA0 (ov x h k) x l u r ln on who e = m_cfA0 h x l u r ln on who e := by
  unfold m_cfA0
  simp (disch := decide) only [ov_I, ov_J, ov_I0, ov_J0, ov_sI, ov_sJ, ov_sI0, ov_sJ0, ov_if, ov_m_openA, ov_m_cfA1, ov_m_cfI]
theorem ov_m_cfQ1 {u : Int} {v : Int} {ln : Int} {on : Int} {who : Int64} {e : Int64} : m_cfQ1 (ov x h k) x u v ln on who e = ov x (m_cfQ1 h x u v ln on who e) k := by
  unfold m_cfQ1
  simp (disch := decide) only [ov_I, ov_J, ov_I0, ov_J0, ov_sI, ov_sJ, ov_sI0, ov_sJ0, ov_if, ov_m_front, ov_m_openQ, ov_m_cfQ0, ov_m_cfI]
theorem ov_m_cfA {l : Int} {u : Int} {r : Int} : m_cfA (ov x h k) x l u r = m_cfA h x l u r := by
  unfold m_cfA
  simp (disch := decide) only [ov_I, ov_J, ov_I0, ov_J0, ov_sI, ov_sJ, ov_sI0, ov_sJ0, ov_if, ov_m_bytes, ov_m_cfA0]
theorem ov_m_cfQ {u : Int} {v : Int} : m_cfQ (ov x h k) x u v = ov x (m_cfQ h x u v) k := by
  unfold m_cfQ
  simp (disch := decide) only [ov_I, ov_J, ov_I0, ov_J0, ov_sI, ov_sJ, ov_sI0, ov_sJ0, ov_if, ov_m_bytes, ov_m_cfQ1]
theorem ov_CO {n l u : Int} : CO (ov x h k) x n l u = CO h x n l u := by
  unfold CO
  simp (disch := decide) only [ov_I, ov_J, ov_I0, ov_J0, ov_sI, ov_sJ, ov_sI0, ov_sJ0, ov_if, ov_m_rlOk, ov_m_rl, ov_m_cfA, ov_m_clA]
theorem ov_CMQ {l u : Int} : CMQ (ov x h k) x l u = ov x (CMQ h x l u) k := by
  unfold CMQ CMQ0
  simp (disch := decide) only [ov_I, ov_J, ov_I0, ov_J0, ov_sI, ov_sJ, ov_sI0, ov_sJ0, ov_if, ov_m_rl, ov_m_cfQ, ov_m_clQ]
end
