/-! the reference's functions look at its own cells alone -/
/-- the reference's cells of h among the others of k -/
def ov (x : Nat) (h k : cx_Q) : cx_Q := (k.1, cq_s k, cq_z k, (fun a => if x ≤ a ∧ a ≤ x + 65 then cq_I h a else cq_I k a), (fun a => if x ≤ a ∧ a ≤ x + 65 then cq_J h a else cq_J k a), cq_A k)
section
variable {x : Nat} {h k : cx_Q}
theorem ov_a {a : Nat} : cq_I (ov x h k) a = if x ≤ a ∧ a ≤ x + 65 then cq_I h a else cq_I k a := Eq.trans rfl rfl
theorem ov_b {a : Nat} : cq_J (ov x h k) a = if x ≤ a ∧ a ≤ x + 65 then cq_J h a else cq_J k a := Eq.trans rfl rfl
theorem ov_I {o : Nat} (ho : o ≤ 65) : cq_I (ov x h k) (x + o) = cq_I h (x + o) := by rw [ov_a, if_pos ⟨by omega, by omega⟩]
theorem ov_J {o : Nat} (ho : o ≤ 65) : cq_J (ov x h k) (x + o) = cq_J h (x + o) := by rw [ov_b, if_pos ⟨by omega, by omega⟩]
theorem ov_I0 : cq_I (ov x h k) x = cq_I h x := by rw [ov_a, if_pos ⟨by omega, by omega⟩]
theorem ov_J0 : cq_J (ov x h k) x = cq_J h x := by rw [ov_b, if_pos ⟨by omega, by omega⟩]
theorem ov_w {a : Nat} {j v : Int} (ha : x ≤ a ∧ a ≤ x + 65) : cq_sI (ov x h k) a j v = ov x (cq_sI h a j v) k := by
  refine qext rfl rfl rfl (fun q r => ?_) (fun q r => ?_) (fun q r => rfl)
  · rw [mm_sI, ov_a, ov_a]
    by_cases w : x ≤ q ∧ q ≤ x + 65
    · rw [if_pos w, if_pos w, mm_sI]
    · rw [if_neg w, if_neg w, if_neg (fun z => w (by rw [z.1]; exact ha))]
  · rw [mm_JI, ov_b, ov_b, mm_JI]
theorem ov_v {a : Nat} {j : Int} {v : Int64} (ha : x ≤ a ∧ a ≤ x + 65) : cq_sJ (ov x h k) a j v = ov x (cq_sJ h a j v) k := by
  refine qext rfl rfl rfl (fun q r => ?_) (fun q r => ?_) (fun q r => rfl)
  · rw [mm_IJ, ov_a, ov_a, mm_IJ]
  · rw [mm_sJ, ov_b, ov_b]
    by_cases w : x ≤ q ∧ q ≤ x + 65
    · rw [if_pos w, if_pos w, mm_sJ]
    · rw [if_neg w, if_neg w, if_neg (fun z => w (by rw [z.1]; exact ha))]
theorem ov_sI {o : Nat} {j v : Int} (ho : o ≤ 65) : cq_sI (ov x h k) (x + o) j v = ov x (cq_sI h (x + o) j v) k := ov_w ⟨by omega, by omega⟩
theorem ov_sJ {o : Nat} {j : Int} {v : Int64} (ho : o ≤ 65) : cq_sJ (ov x h k) (x + o) j v = ov x (cq_sJ h (x + o) j v) k := ov_v ⟨by omega, by omega⟩
theorem ov_sI0 {j v : Int} : cq_sI (ov x h k) x j v = ov x (cq_sI h x j v) k := ov_w ⟨by omega, by omega⟩
theorem ov_sJ0 {j : Int} {v : Int64} : cq_sJ (ov x h k) x j v = ov x (cq_sJ h x j v) k := ov_v ⟨by omega, by omega⟩
theorem ov_if {c : Prop} {d : Decidable c} {a b : cx_Q} : (@ite cx_Q c d (ov x a k) (ov x b k)) = ov x (@ite cx_Q c d a b) k := by
  split
  · rfl
  · rfl
theorem itq_ov {f : Int → cx_Q → cx_Q} (e : ∀ i h, f i (ov x h k) = ov x (f i h) k) : ∀ (n : Nat) (i : Int) (h : cx_Q), m_itq f n i (ov x h k) = ov x (m_itq f n i h) k
  | 0, i, h => by rw [m_itq, m_itq]
  | n + 1, i, h => by rw [m_itq, m_itq, e, itq_ov e n]
theorem itd_ov {f : Nat → cx_Q → cx_Q} (e : ∀ i h, f i (ov x h k) = ov x (f i h) k) : ∀ (n : Nat) (h : cx_Q), m_itd f n (ov x h k) = ov x (m_itd f n h) k
  | 0, h => by rw [m_itd, m_itd]
  | n + 1, h => by rw [m_itd, m_itd, e, itd_ov e n]
theorem ov_m_draw {u : Int} : m_draw (ov x h k) x u = ov x (m_draw h x u) k := by
  unfold m_draw
  simp (disch := decide) only [ov_I, ov_J, ov_I0, ov_J0, ov_sI, ov_sJ, ov_sI0, ov_sJ0, ov_if]
theorem ov_m_lend1 {u : Int} : m_lend1 (ov x h k) x u = ov x (m_lend1 h x u) k := by
  unfold m_lend1
  simp (disch := decide) only [ov_I, ov_J, ov_I0, ov_J0, ov_sI, ov_sJ, ov_sI0, ov_sJ0, ov_if]
theorem ov_m_lend2 {u : Int} {a : Int} : m_lend2 (ov x h k) x u a = ov x (m_lend2 h x u a) k := by
  unfold m_lend2
  simp (disch := decide) only [ov_I, ov_J, ov_I0, ov_J0, ov_sI, ov_sJ, ov_sI0, ov_sJ0, ov_if]
theorem ov_m_lend3 {u : Int} {a : Int} : m_lend3 (ov x h k) x u a = ov x (m_lend3 h x u a) k := by
  unfold m_lend3
  simp (disch := decide) only [ov_I, ov_J, ov_I0, ov_J0, ov_sI, ov_sJ, ov_sI0, ov_sJ0, ov_if]
theorem ov_m_lend {u : Int} : m_lend (ov x h k) x u = ov x (m_lend h x u) k := by
  unfold m_lend
  simp (disch := decide) only [ov_I, ov_J, ov_I0, ov_J0, ov_sI, ov_sJ, ov_sI0, ov_sJ0, ov_if, ov_m_draw, ov_m_lend1, ov_m_lend2, ov_m_lend3]
theorem ov_m_isUser {u : Int} : m_isUser (ov x h k) x u = m_isUser h x u := by
  unfold m_isUser
  simp (disch := decide) only [ov_I, ov_J, ov_I0, ov_J0, ov_sI, ov_sJ, ov_sI0, ov_sJ0, ov_if]
theorem ov_m_reg1 {u : Int} : m_reg1 (ov x h k) x u = ov x (m_reg1 h x u) k := by
  unfold m_reg1
  simp (disch := decide) only [ov_I, ov_J, ov_I0, ov_J0, ov_sI, ov_sJ, ov_sI0, ov_sJ0, ov_if, ov_m_draw]
theorem ov_m_reg2 {u : Int} : m_reg2 (ov x h k) x u = ov x (m_reg2 h x u) k := by
  unfold m_reg2
  simp (disch := decide) only [ov_I, ov_J, ov_I0, ov_J0, ov_sI, ov_sJ, ov_sI0, ov_sJ0, ov_if]
theorem ov_m_register {u : Int} : m_register (ov x h k) x u = ov x (m_register h x u) k := by
  unfold m_register
  simp (disch := decide) only [ov_I, ov_J, ov_I0, ov_J0, ov_sI, ov_sJ, ov_sI0, ov_sJ0, ov_if, ov_m_lend, ov_m_reg1, ov_m_reg2]
theorem ov_m_leastOnce {u : Int} : m_leastOnce (ov x h k) x u = m_leastOnce h x u := by
  unfold m_leastOnce
  simp (disch := decide) only [ov_I, ov_J, ov_I0, ov_J0, ov_sI, ov_sJ, ov_sI0, ov_sJ0, ov_if]
theorem ov_m_onceDir {u : Int} : m_onceDir (ov x h k) x u = m_onceDir h x u := by
  unfold m_onceDir
  simp (disch := decide) only [ov_I, ov_J, ov_I0, ov_J0, ov_sI, ov_sJ, ov_sI0, ov_sJ0, ov_if]
theorem ov_m_isLetter {l : Int} : m_isLetter (ov x h k) x l = m_isLetter h x l := by
  unfold m_isLetter
  simp (disch := decide) only [ov_I, ov_J, ov_I0, ov_J0, ov_sI, ov_sJ, ov_sI0, ov_sJ0, ov_if]
theorem ov_m_isPair {u : Int} {v : Int} : m_isPair (ov x h k) x u v = m_isPair h x u v := by
  unfold m_isPair
  simp (disch := decide) only [ov_I, ov_J, ov_I0, ov_J0, ov_sI, ov_sJ, ov_sI0, ov_sJ0, ov_if, ov_m_isUser]
theorem ov_m_count {w : Int} : m_count (ov x h k) x w = m_count h x w := by
  unfold m_count
  simp (disch := decide) only [ov_I, ov_J, ov_I0, ov_J0, ov_sI, ov_sJ, ov_sI0, ov_sJ0, ov_if]
theorem ov_m_kept {u : Int} : m_kept (ov x h k) x u = m_kept h x u := by
  unfold m_kept
  simp (disch := decide) only [ov_I, ov_J, ov_I0, ov_J0, ov_sI, ov_sJ, ov_sI0, ov_sJ0, ov_if]
theorem ov_m_sessionsOf {u : Int} : m_sessionsOf (ov x h k) x u = m_sessionsOf h x u := by
  unfold m_sessionsOf
  simp (disch := decide) only [ov_I, ov_J, ov_I0, ov_J0, ov_sI, ov_sJ, ov_sI0, ov_sJ0, ov_if]
theorem ov_m_slotP {u : Int} {v : Int} {i : Int} : m_slotP (ov x h k) x u v i = m_slotP h x u v i := by
  unfold m_slotP
  simp (disch := decide) only [ov_I, ov_J, ov_I0, ov_J0, ov_sI, ov_sJ, ov_sI0, ov_sJ0, ov_if, ov_m_isPair]
theorem ov_m_seal {v : Int} : m_seal (ov x h k) x v = m_seal h x v := by
  unfold m_seal
  simp (disch := decide) only [ov_I, ov_J, ov_I0, ov_J0, ov_sI, ov_sJ, ov_sI0, ov_sJ0, ov_if]
theorem ov_m_sess {s : Int} {w : Int} : m_sess (ov x h k) x s w = m_sess h x s w := by
  unfold m_sess
  simp (disch := decide) only [ov_I, ov_J, ov_I0, ov_J0, ov_sI, ov_sJ, ov_sI0, ov_sJ0, ov_if]
theorem ov_m_ins {s : Int} {w : Int} : m_ins (ov x h k) x s w = m_ins h x s w := by
  unfold m_ins
  simp (disch := decide) only [ov_I, ov_J, ov_I0, ov_J0, ov_sI, ov_sJ, ov_sI0, ov_sJ0, ov_if]
theorem ov_m_fd1 {v : Int} {k' : Int} : m_fd1 (ov x h k) x v k' = ov x (m_fd1 h x v k') k := by
  unfold m_fd1
  simp (disch := decide) only [ov_I, ov_J, ov_I0, ov_J0, ov_sI, ov_sJ, ov_sI0, ov_sJ0, ov_if]
theorem ov_m_fd {a b c d e : Int} : ∀ (r : Nat) (i : Int) (h : cx_Q), m_fd x a b c d e r i (ov x h k) = ov x (m_fd x a b c d e r i h) k
  | 0, i, h => by rw [m_fd, m_fd]
  | r + 1, i, h => by rw [m_fd, m_fd, ov_m_fd1, ov_m_fd r]
theorem ov_m_cp {l t : Int} : ∀ (r : Nat) (i : Int) (h : cx_Q), m_cp x l t r i (ov x h k) = ov x (m_cp x l t r i h) k
  | 0, i, h => by rw [m_cp, m_cp]
  | r + 1, i, h => by rw [m_cp, m_cp, ov_I (by decide), ov_sI (by decide), ov_m_cp r]
theorem ov_m_copy {l : Int} : m_copy (ov x h k) x l = ov x (m_copy h x l) k := by
  unfold m_copy
  simp (disch := decide) only [ov_I, ov_J, ov_I0, ov_J0, ov_sI, ov_sJ, ov_sI0, ov_sJ0, ov_if, ov_m_cp]
theorem ov_m_pubA {u : Int} : m_pubA (ov x h k) x u = ov x (m_pubA h x u) k := by
  unfold m_pubA
  simp (disch := decide) only [ov_I, ov_J, ov_I0, ov_J0, ov_sI, ov_sJ, ov_sI0, ov_sJ0, ov_if, ov_m_draw]
theorem ov_m_pubB {a : Int} : m_pubB (ov x h k) x a = ov x (m_pubB h x a) k := by
  unfold m_pubB
  simp (disch := decide) only [ov_I, ov_J, ov_I0, ov_J0, ov_sI, ov_sJ, ov_sI0, ov_sJ0, ov_if]
theorem ov_m_pub1 {u : Int} : m_pub1 (ov x h k) x u = ov x (m_pub1 h x u) k := by
  unfold m_pub1
  simp (disch := decide) only [ov_I, ov_J, ov_I0, ov_J0, ov_sI, ov_sJ, ov_sI0, ov_sJ0, ov_if, ov_m_pubA, ov_m_pubB]
theorem ov_m_pub {u : Int} : ∀ (r : Nat) (h : cx_Q), m_pub x u r (ov x h k) = ov x (m_pub x u r h) k
  | 0, h => by rw [m_pub, m_pub]
  | r + 1, h => by rw [m_pub, m_pub, ov_m_pub1, ov_m_pub r]
theorem ov_m_bytes {at_ : Int} {m : Int} : m_bytes (ov x h k) x at_ m = m_bytes h x at_ m := by
  unfold m_bytes
  simp (disch := decide) only [ov_I, ov_J, ov_I0, ov_J0, ov_sI, ov_sJ, ov_sI0, ov_sJ0, ov_if]
theorem ov_m_isTag {l : Int} {k' : Int64} : m_isTag (ov x h k) x l k' = m_isTag h x l k' := by
  unfold m_isTag
  simp (disch := decide) only [ov_I, ov_J, ov_I0, ov_J0, ov_sI, ov_sJ, ov_sI0, ov_sJ0, ov_if, ov_m_bytes]
theorem ov_m_keptAt {s : Int} : m_keptAt (ov x h k) x s = m_keptAt h x s := by
  unfold m_keptAt
  simp (disch := decide) only [ov_I, ov_J, ov_I0, ov_J0, ov_sI, ov_sJ, ov_sI0, ov_sJ0, ov_if]
theorem ov_m_rt1 {k' : Int64} {i : Int} : m_rt1 (ov x h k) x k' i = ov x (m_rt1 h x k' i) k := by
  unfold m_rt1
  simp (disch := decide) only [ov_I, ov_J, ov_I0, ov_J0, ov_sI, ov_sJ, ov_sI0, ov_sJ0, ov_if]
theorem ov_m_rt {k' : Int64} {n : Nat} {i : Int} : m_rt x k' n i (ov x h k) = ov x (m_rt x k' n i h) k := by
  unfold m_rt
  exact itq_ov (fun i h => by simp (disch := decide) only [ov_I, ov_J, ov_I0, ov_J0, ov_sI, ov_sJ, ov_sI0, ov_sJ0, ov_if, ov_m_rt1]) _ _ _
theorem ov_m_readText {k' : Int64} : m_readText (ov x h k) x k' = ov x (m_readText h x k') k := by
  unfold m_readText
  simp (disch := decide) only [ov_I, ov_J, ov_I0, ov_J0, ov_sI, ov_sJ, ov_sI0, ov_sJ0, ov_if, ov_m_rt]
theorem ov_m_step {s : Int} : m_step (ov x h k) x s = ov x (m_step h x s) k := by
  unfold m_step
  simp (disch := decide) only [ov_I, ov_J, ov_I0, ov_J0, ov_sI, ov_sJ, ov_sI0, ov_sJ0, ov_if]
theorem ov_m_keepA {s : Int} : m_keepA (ov x h k) x s = ov x (m_keepA h x s) k := by
  unfold m_keepA
  simp (disch := decide) only [ov_I, ov_J, ov_I0, ov_J0, ov_sI, ov_sJ, ov_sI0, ov_sJ0, ov_if]
theorem ov_m_keepB {s : Int} : m_keepB (ov x h k) x s = ov x (m_keepB h x s) k := by
  unfold m_keepB
  simp (disch := decide) only [ov_I, ov_J, ov_I0, ov_J0, ov_sI, ov_sJ, ov_sI0, ov_sJ0, ov_if, ov_m_keepA]
theorem ov_m_keep1 {s : Int} : m_keep1 (ov x h k) x s = ov x (m_keep1 h x s) k := by
  unfold m_keep1
  simp (disch := decide) only [ov_I, ov_J, ov_I0, ov_J0, ov_sI, ov_sJ, ov_sI0, ov_sJ0, ov_if, ov_m_step, ov_m_keepB]
theorem ov_m_keep {s : Int} {n : Nat} : m_keep x s n (ov x h k) = ov x (m_keep x s n h) k := by
  unfold m_keep
  exact itd_ov (fun i h => by simp (disch := decide) only [ov_I, ov_J, ov_I0, ov_J0, ov_sI, ov_sJ, ov_sI0, ov_sJ0, ov_if, ov_m_keep1]) _ _
theorem ov_m_dk1 {k' : Int} : m_dk1 (ov x h k) x k' = ov x (m_dk1 h x k') k := by
  unfold m_dk1
  simp (disch := decide) only [ov_I, ov_J, ov_I0, ov_J0, ov_sI, ov_sJ, ov_sI0, ov_sJ0, ov_if]
theorem ov_m_dk {n : Nat} {k' : Int} : m_dk x n k' (ov x h k) = ov x (m_dk x n k' h) k := by
  unfold m_dk
  exact itq_ov (fun i h => by simp (disch := decide) only [ov_I, ov_J, ov_I0, ov_J0, ov_sI, ov_sJ, ov_sI0, ov_sJ0, ov_if, ov_m_dk1]) _ _ _
theorem ov_m_drop {s : Int} {i : Int} : m_drop (ov x h k) x s i = ov x (m_drop h x s i) k := by
  unfold m_drop
  simp (disch := decide) only [ov_I, ov_J, ov_I0, ov_J0, ov_sI, ov_sJ, ov_sI0, ov_sJ0, ov_if, ov_m_dk]
theorem ov_m_sh {r : Int} {n : Nat} : m_sh x r n (ov x h k) = ov x (m_sh x r n h) k := by
  unfold m_sh
  exact itd_ov (fun i h => by simp (disch := decide) only [ov_I, ov_J, ov_I0, ov_J0, ov_sI, ov_sJ, ov_sI0, ov_sJ0, ov_if]) _ _
theorem ov_m_front {r : Int} {i : Int} : m_front (ov x h k) x r i = ov x (m_front h x r i) k := by
  unfold m_front
  simp (disch := decide) only [ov_I, ov_J, ov_I0, ov_J0, ov_sI, ov_sJ, ov_sI0, ov_sJ0, ov_if, ov_m_sh]
theorem ov_m_clear {s : Int} : m_clear (ov x h k) x s = ov x (m_clear h x s) k := by
  unfold m_clear
  simp (disch := decide) only [ov_I, ov_J, ov_I0, ov_J0, ov_sI, ov_sJ, ov_sI0, ov_sJ0, ov_if]
theorem ov_m_turnS {s : Int} : m_turnS (ov x h k) x s = ov x (m_turnS h x s) k := by
  unfold m_turnS
  simp (disch := decide) only [ov_I, ov_J, ov_I0, ov_J0, ov_sI, ov_sJ, ov_sI0, ov_sJ0, ov_if]
theorem ov_m_slotN {r : Int} : m_slotN (ov x h k) x r = m_slotN h x r := by
  unfold m_slotN
  simp (disch := decide) only [ov_I, ov_J, ov_I0, ov_J0, ov_sI, ov_sJ, ov_sI0, ov_sJ0, ov_if]
theorem ov_m_new1 {r : Int} : m_new1 (ov x h k) x r = ov x (m_new1 h x r) k := by
  unfold m_new1
  simp (disch := decide) only [ov_I, ov_J, ov_I0, ov_J0, ov_sI, ov_sJ, ov_sI0, ov_sJ0, ov_if]
theorem ov_m_newS {r : Int} : m_newS (ov x h k) x r = ov x (m_newS h x r) k := by
  unfold m_newS
  simp (disch := decide) only [ov_I, ov_J, ov_I0, ov_J0, ov_sI, ov_sJ, ov_sI0, ov_sJ0, ov_if, ov_m_sh, ov_m_slotN, ov_m_new1]
theorem ov_m_rl1 {l : Int} : m_rl1 (ov x h k) x l = ov x (m_rl1 h x l) k := by
  unfold m_rl1
  simp (disch := decide) only [ov_I, ov_J, ov_I0, ov_J0, ov_sI, ov_sJ, ov_sI0, ov_sJ0, ov_if]
theorem ov_m_hd {l : Int} : m_hd (ov x h k) x l = m_hd h x l := by
  unfold m_hd
  simp (disch := decide) only [ov_I, ov_J, ov_I0, ov_J0, ov_sI, ov_sJ, ov_sI0, ov_sJ0, ov_if]
theorem ov_m_rl3 {l : Int} : m_rl3 (ov x h k) x l = ov x (m_rl3 h x l) k := by
  unfold m_rl3
  simp (disch := decide) only [ov_I, ov_J, ov_I0, ov_J0, ov_sI, ov_sJ, ov_sI0, ov_sJ0, ov_if, ov_m_rl1, ov_m_hd]
theorem ov_m_rl4 {d : Int} : m_rl4 (ov x h k) x d = ov x (m_rl4 h x d) k := by
  unfold m_rl4
  simp (disch := decide) only [ov_I, ov_J, ov_I0, ov_J0, ov_sI, ov_sJ, ov_sI0, ov_sJ0, ov_if, ov_m_bytes]
theorem ov_m_rl {l : Int} : m_rl (ov x h k) x l = ov x (m_rl h x l) k := by
  unfold m_rl
  simp (disch := decide) only [ov_I, ov_J, ov_I0, ov_J0, ov_sI, ov_sJ, ov_sI0, ov_sJ0, ov_if, ov_m_hd, ov_m_rl3, ov_m_rl4]
theorem ov_m_rlOk {l : Int} {u : Int} : m_rlOk (ov x h k) x l u = m_rlOk h x l u := by
  unfold m_rlOk
  simp (disch := decide) only [ov_I, ov_J, ov_I0, ov_J0, ov_sI, ov_sJ, ov_sI0, ov_sJ0, ov_if, ov_m_hd]
theorem ov_m_turn1 {s : Int} : m_turn1 (ov x h k) x s = ov x (m_turn1 h x s) k := by
  unfold m_turn1
  simp (disch := decide) only [ov_I, ov_J, ov_I0, ov_J0, ov_sI, ov_sJ, ov_sI0, ov_sJ0, ov_if]
theorem ov_m_turn2 {s : Int} {X : Int64} : m_turn2 (ov x h k) x s X = ov x (m_turn2 h x s X) k := by
  unfold m_turn2
  simp (disch := decide) only [ov_I, ov_J, ov_I0, ov_J0, ov_sI, ov_sJ, ov_sI0, ov_sJ0, ov_if]
theorem ov_m_turn3 {s : Int} : m_turn3 (ov x h k) x s = ov x (m_turn3 h x s) k := by
  unfold m_turn3
  simp (disch := decide) only [ov_I, ov_J, ov_I0, ov_J0, ov_sI, ov_sJ, ov_sI0, ov_sJ0, ov_if]
theorem ov_m_turn {u : Int} {s : Int} {X : Int64} : m_turn (ov x h k) x u s X = ov x (m_turn h x u s X) k := by
  unfold m_turn
  simp (disch := decide) only [ov_I, ov_J, ov_I0, ov_J0, ov_sI, ov_sJ, ov_sI0, ov_sJ0, ov_if, ov_m_draw, ov_m_turnS, ov_m_turn1, ov_m_turn2, ov_m_turn3]
theorem ov_m_bn1 {s : Int} {v : Int} {k' : Int} {R : Int64} {ot : Int64} {eO : Int64} : m_bn1 (ov x h k) x s v k' R ot eO = ov x (m_bn1 h x s v k' R ot eO) k := by
  unfold m_bn1
  simp (disch := decide) only [ov_I, ov_J, ov_I0, ov_J0, ov_sI, ov_sJ, ov_sI0, ov_sJ0, ov_if]
theorem ov_m_bn2 {u : Int} {v : Int} {k' : Int} {R : Int64} {ot : Int64} {eO : Int64} : m_bn2 (ov x h k) x u v k' R ot eO = ov x (m_bn2 h x u v k' R ot eO) k := by
  unfold m_bn2
  simp (disch := decide) only [ov_I, ov_J, ov_I0, ov_J0, ov_sI, ov_sJ, ov_sI0, ov_sJ0, ov_if, ov_m_draw, ov_m_clear, ov_m_turnS, ov_m_slotN, ov_m_newS, ov_m_turn3, ov_m_bn1]
theorem ov_m_bn0 {v : Int} : m_bn0 (ov x h k) x v = ov x (m_bn0 h x v) k := by
  unfold m_bn0
  simp (disch := decide) only [ov_I, ov_J, ov_I0, ov_J0, ov_sI, ov_sJ, ov_sI0, ov_sJ0, ov_if, ov_m_leastOnce]
theorem ov_m_bnC {u : Int} {v : Int} : m_bnC (ov x h k) x u v = ov x (m_bnC h x u v) k := by
  unfold m_bnC
  simp (disch := decide) only [ov_I, ov_J, ov_I0, ov_J0, ov_sI, ov_sJ, ov_sI0, ov_sJ0, ov_if, ov_m_draw, ov_m_bn0]
theorem ov_m_bnR {u : Int} {v : Int} {k' : Int} {ot : Int64} : m_bnR (ov x h k) x u v k' ot = m_bnR h x u v k' ot := by
  unfold m_bnR
  simp (disch := decide) only [ov_I, ov_J, ov_I0, ov_J0, ov_sI, ov_sJ, ov_sI0, ov_sJ0, ov_if]
theorem ov_m_begin {u : Int} {v : Int} : m_begin (ov x h k) x u v = ov x (m_begin h x u v) k := by
  unfold m_begin
  simp (disch := decide) only [ov_I, ov_J, ov_I0, ov_J0, ov_sI, ov_sJ, ov_sI0, ov_sJ0, ov_if, ov_m_leastOnce, ov_m_bn2, ov_m_bnC, ov_m_bnR]
theorem ov_m_openK {s : Int} {i : Int} {k' : Int64} : m_openK (ov x h k) x s i k' = ov x (m_openK h x s i k') k := by
  unfold m_openK
  simp (disch := decide) only [ov_I, ov_J, ov_I0, ov_J0, ov_sI, ov_sJ, ov_sI0, ov_sJ0, ov_if, ov_m_readText, ov_m_drop]
theorem ov_m_oEnd {s : Int} {k' : Int64} : m_oEnd (ov x h k) x s k' = ov x (m_oEnd h x s k') k := by
  unfold m_oEnd
  simp (disch := decide) only [ov_I, ov_J, ov_I0, ov_J0, ov_sI, ov_sJ, ov_sI0, ov_sJ0, ov_if, ov_m_readText, ov_m_step, ov_m_keep]
theorem ov_m_bef {s : Int} {t : Int} : m_bef (ov x h k) x s t = m_bef h x s t := by
  unfold m_bef
  simp (disch := decide) only [ov_I, ov_J, ov_I0, ov_J0, ov_sI, ov_sJ, ov_sI0, ov_sJ0, ov_if]
theorem ov_m_beh {s : Int} {t : Int} : m_beh (ov x h k) x s t = m_beh h x s t := by
  unfold m_beh
  simp (disch := decide) only [ov_I, ov_J, ov_I0, ov_J0, ov_sI, ov_sJ, ov_sI0, ov_sJ0, ov_if]
theorem ov_m_com {s : Int} {t : Int} : m_com (ov x h k) x s t = m_com h x s t := by
  unfold m_com
  simp (disch := decide) only [ov_I, ov_J, ov_I0, ov_J0, ov_sI, ov_sJ, ov_sI0, ov_sJ0, ov_if]
theorem ov_m_ch0 {s : Int} {t : Int} : m_ch0 (ov x h k) x s t = m_ch0 h x s t := by
  unfold m_ch0
  simp (disch := decide) only [ov_I, ov_J, ov_I0, ov_J0, ov_sI, ov_sJ, ov_sI0, ov_sJ0, ov_if, ov_m_com]
theorem ov_m_okey {s : Int} {t : Int} : m_okey (ov x h k) x s t = m_okey h x s t := by
  unfold m_okey
  simp (disch := decide) only [ov_I, ov_J, ov_I0, ov_J0, ov_sI, ov_sJ, ov_sI0, ov_sJ0, ov_if, ov_m_beh, ov_m_ch0]
theorem ov_m_oK0 {s : Int} : m_oK0 (ov x h k) x s = ov x (m_oK0 h x s) k := by
  unfold m_oK0
  simp (disch := decide) only [ov_I, ov_J, ov_I0, ov_J0, ov_sI, ov_sJ, ov_sI0, ov_sJ0, ov_if, ov_m_keep]
theorem ov_m_oT {u : Int} {s : Int} {t : Int} : m_oT (ov x h k) x u s t = ov x (m_oT h x u s t) k := by
  unfold m_oT
  simp (disch := decide) only [ov_I, ov_J, ov_I0, ov_J0, ov_sI, ov_sJ, ov_sI0, ov_sJ0, ov_if, ov_m_turn, ov_m_com, ov_m_oK0]
theorem ov_m_tg {l : Int} {k' : Int64} : m_tg (ov x h k) x l k' = m_tg h x l k' := by
  unfold m_tg
  simp (disch := decide) only [ov_I, ov_J, ov_I0, ov_J0, ov_sI, ov_sJ, ov_sI0, ov_sJ0, ov_if, ov_m_bytes]
theorem ov_m_oA {l : Int} {s : Int} {t : Int} : m_oA (ov x h k) x l s t = m_oA h x l s t := by
  unfold m_oA
  simp (disch := decide) only [ov_I, ov_J, ov_I0, ov_J0, ov_sI, ov_sJ, ov_sI0, ov_sJ0, ov_if, ov_m_bef, ov_m_beh, ov_m_okey, ov_m_tg]
theorem ov_m_tn {s : Int} : m_tn (ov x h k) x s = m_tn h x s := by
  unfold m_tn
  simp (disch := decide) only [ov_I, ov_J, ov_I0, ov_J0, ov_sI, ov_sJ, ov_sI0, ov_sJ0, ov_if]
theorem ov_m_openA {l : Int} {s : Int} : m_openA (ov x h k) x l s = m_openA h x l s := by
  unfold m_openA
  simp (disch := decide) only [ov_I, ov_J, ov_I0, ov_J0, ov_sI, ov_sJ, ov_sI0, ov_sJ0, ov_if, ov_m_keptAt, ov_m_tg, ov_m_oA, ov_m_tn]
theorem ov_m_openQ {u : Int} {s : Int} : m_openQ (ov x h k) x u s = ov x (m_openQ h x u s) k := by
  unfold m_openQ
  simp (disch := decide) only [ov_I, ov_J, ov_I0, ov_J0, ov_sI, ov_sJ, ov_sI0, ov_sJ0, ov_if, ov_m_keptAt, ov_m_openK, ov_m_oEnd, ov_m_okey, ov_m_oT, ov_m_tn]
theorem ov_m_clF {l : Int} {r : Int} {k' : Int} : m_clF (ov x h k) x l r k' = m_clF h x l r k' := by
  unfold m_clF
  simp (disch := decide) only [ov_I, ov_J, ov_I0, ov_J0, ov_sI, ov_sJ, ov_sI0, ov_sJ0, ov_if, ov_m_openA]
theorem ov_m_clI {l : Int} {r : Int} : m_clI (ov x h k) x l r = m_clI h x l r := by
  have e0 : m_clF (ov x h k) x l r = m_clF h x l r := funext fun _ => ov_m_clF
  unfold m_clI
  rw [e0]
  simp (disch := decide) only [ov_I, ov_J, ov_I0, ov_J0, ov_sI, ov_sJ, ov_sI0, ov_sJ0, ov_if]
theorem ov_m_clA {l : Int} {r : Int} : m_clA (ov x h k) x l r = m_clA h x l r := by
  unfold m_clA
  simp (disch := decide) only [ov_I, ov_J, ov_I0, ov_J0, ov_sI, ov_sJ, ov_sI0, ov_sJ0, ov_if, ov_m_clF, ov_m_clI]
theorem ov_m_clQ {l : Int} {u : Int} {r : Int} : m_clQ (ov x h k) x l u r = ov x (m_clQ h x l u r) k := by
  unfold m_clQ
  simp (disch := decide) only [ov_I, ov_J, ov_I0, ov_J0, ov_sI, ov_sJ, ov_sI0, ov_sJ0, ov_if, ov_m_front, ov_m_openQ, ov_m_clI]
theorem ov_m_cfN {u : Int} {s : Int} {ln : Int} {e : Int64} : m_cfN (ov x h k) x u s ln e = ov x (m_cfN h x u s ln e) k := by
  unfold m_cfN
  simp (disch := decide) only [ov_I, ov_J, ov_I0, ov_J0, ov_sI, ov_sJ, ov_sI0, ov_sJ0, ov_if]
theorem ov_m_cfD {u : Int} {s : Int} {ln : Int} {on : Int} {e : Int64} : m_cfD (ov x h k) x u s ln on e = ov x (m_cfD h x u s ln on e) k := by
  unfold m_cfD
  simp (disch := decide) only [ov_I, ov_J, ov_I0, ov_J0, ov_sI, ov_sJ, ov_sI0, ov_sJ0, ov_if, ov_m_cfN]
theorem ov_m_cfS {s : Int} {ln : Int} {on : Int} {own : Int} {e : Int64} : m_cfS (ov x h k) x s ln on own e = ov x (m_cfS h x s ln on own e) k := by
  unfold m_cfS
  simp (disch := decide) only [ov_I, ov_J, ov_I0, ov_J0, ov_sI, ov_sJ, ov_sI0, ov_sJ0, ov_if]
theorem ov_m_cfG {u : Int} {r : Int} {ln : Int} {on : Int} {e : Int64} {root : Int64} : m_cfG (ov x h k) x u r ln on e root = ov x (m_cfG h x u r ln on e root) k := by
  unfold m_cfG
  simp (disch := decide) only [ov_I, ov_J, ov_I0, ov_J0, ov_sI, ov_sJ, ov_sI0, ov_sJ0, ov_if, ov_m_clear, ov_m_slotN, ov_m_newS, ov_m_cfS]
theorem ov_m_cfR {u : Int} {ln : Int} {on : Int} {who : Int64} {e : Int64} : m_cfR (ov x h k) x u ln on who e = m_cfR h x u ln on who e := by
  unfold m_cfR
  simp (disch := decide) only [ov_I, ov_J, ov_I0, ov_J0, ov_sI, ov_sJ, ov_sI0, ov_sJ0, ov_if]
theorem ov_m_cfC {u : Int} {ln : Int} {root : Int64} : m_cfC (ov x h k) x u ln root = m_cfC h x u ln root := by
  unfold m_cfC
  simp (disch := decide) only [ov_I, ov_J, ov_I0, ov_J0, ov_sI, ov_sJ, ov_sI0, ov_sJ0, ov_if]
theorem ov_m_cfK {u : Int} {ln : Int} {root : Int64} : m_cfK (ov x h k) x u ln root = m_cfK h x u ln root := by
  unfold m_cfK
  simp (disch := decide) only [ov_I, ov_J, ov_I0, ov_J0, ov_sI, ov_sJ, ov_sI0, ov_sJ0, ov_if, ov_m_cfC]
theorem ov_m_cfQ0 {u : Int} {v : Int} {ln : Int} {on : Int} {who : Int64} {e : Int64} : m_cfQ0 (ov x h k) x u v ln on who e = ov x (m_cfQ0 h x u v ln on who e) k := by
  unfold m_cfQ0
  simp (disch := decide) only [ov_I, ov_J, ov_I0, ov_J0, ov_sI, ov_sJ, ov_sI0, ov_sJ0, ov_if, ov_m_slotN, ov_m_openQ, ov_m_cfD, ov_m_cfG, ov_m_cfR]
theorem ov_m_cfA2 {l : Int} {u : Int} {ln : Int} {on : Int} {who : Int64} {e : Int64} : m_cfA2 (ov x h k) x l u ln on who e = m_cfA2 h x l u ln on who e := by
  unfold m_cfA2
  simp (disch := decide) only [ov_I, ov_J, ov_I0, ov_J0, ov_sI, ov_sJ, ov_sI0, ov_sJ0, ov_if, ov_m_tg, ov_m_cfR, ov_m_cfK]
theorem ov_m_cfF {u : Int} {ln : Int} {e : Int64} {k' : Int} : m_cfF (ov x h k) x u ln e k' = m_cfF h x u ln e k' := by
  unfold m_cfF
  simp (disch := decide) only [ov_I, ov_J, ov_I0, ov_J0, ov_sI, ov_sJ, ov_sI0, ov_sJ0, ov_if]
theorem ov_m_cfH {u : Int} {ln : Int} {e : Int64} : m_cfH (ov x h k) x u ln e = m_cfH h x u ln e := by
  have e0 : m_cfF (ov x h k) x u ln e = m_cfF h x u ln e := funext fun _ => ov_m_cfF
  unfold m_cfH
  rw [e0]
  simp (disch := decide) only [ov_I, ov_J, ov_I0, ov_J0, ov_sI, ov_sJ, ov_sI0, ov_sJ0, ov_if]
theorem ov_m_cfA1 {l : Int} {u : Int} {ln : Int} {on : Int} {who : Int64} {e : Int64} : m_cfA1 (ov x h k) x l u ln on who e = m_cfA1 h x l u ln on who e := by
  unfold m_cfA1
  simp (disch := decide) only [ov_I, ov_J, ov_I0, ov_J0, ov_sI, ov_sJ, ov_sI0, ov_sJ0, ov_if, ov_m_cfA2, ov_m_cfH]
theorem ov_m_cfB {r : Int} {e : Int64} {k' : Int} : m_cfB (ov x h k) x r e k' = m_cfB h x r e k' := by
  unfold m_cfB
  simp (disch := decide) only [ov_I, ov_J, ov_I0, ov_J0, ov_sI, ov_sJ, ov_sI0, ov_sJ0, ov_if]
theorem ov_m_cfI {r : Int} {e : Int64} : m_cfI (ov x h k) x r e = m_cfI h x r e := by
  have e0 : m_cfB (ov x h k) x r e = m_cfB h x r e := funext fun _ => ov_m_cfB
  unfold m_cfI
  rw [e0]
  simp (disch := decide) only [ov_I, ov_J, ov_I0, ov_J0, ov_sI, ov_sJ, ov_sI0, ov_sJ0, ov_if]
theorem ov_m_cfA0 {l : Int} {u : Int} {r : Int} {ln : Int} {on : Int} {who : Int64} {e : Int64} : m_cfA0 (ov x h k) x l u r ln on who e = m_cfA0 h x l u r ln on who e := by
  unfold m_cfA0
  simp (disch := decide) only [ov_I, ov_J, ov_I0, ov_J0, ov_sI, ov_sJ, ov_sI0, ov_sJ0, ov_if, ov_m_openA, ov_m_cfA1, ov_m_cfI]
theorem ov_m_cfQ1 {u : Int} {v : Int} {ln : Int} {on : Int} {who : Int64} {e : Int64} : m_cfQ1 (ov x h k) x u v ln on who e = ov x (m_cfQ1 h x u v ln on who e) k := by
  unfold m_cfQ1
  simp (disch := decide) only [ov_I, ov_J, ov_I0, ov_J0, ov_sI, ov_sJ, ov_sI0, ov_sJ0, ov_if, ov_m_front, ov_m_openQ, ov_m_cfQ0, ov_m_cfI]
theorem ov_m_cfA {l : Int} {u : Int} {r : Int} : m_cfA (ov x h k) x l u r = m_cfA h x l u r := by
  unfold m_cfA
  simp (disch := decide) only [ov_I, ov_J, ov_I0, ov_J0, ov_sI, ov_sJ, ov_sI0, ov_sJ0, ov_if, ov_m_bytes, ov_m_cfA0]
theorem ov_m_cfQ {u : Int} {v : Int} : m_cfQ (ov x h k) x u v = ov x (m_cfQ h x u v) k := by
  unfold m_cfQ
  simp (disch := decide) only [ov_I, ov_J, ov_I0, ov_J0, ov_sI, ov_sJ, ov_sI0, ov_sJ0, ov_if, ov_m_bytes, ov_m_cfQ1]
theorem ov_CO {n l u : Int} : CO (ov x h k) x n l u = CO h x n l u := by
  unfold CO
  simp (disch := decide) only [ov_I, ov_J, ov_I0, ov_J0, ov_sI, ov_sJ, ov_sI0, ov_sJ0, ov_if, ov_m_rlOk, ov_m_rl, ov_m_cfA, ov_m_clA]
theorem ov_CMQ {l u : Int} : CMQ (ov x h k) x l u = ov x (CMQ h x l u) k := by
  unfold CMQ CMQ0
  simp (disch := decide) only [ov_I, ov_J, ov_I0, ov_J0, ov_sI, ov_sJ, ov_sI0, ov_sJ0, ov_if, ov_m_rl, ov_m_cfQ, ov_m_clQ]
end
/-! both sides by one function each: answers and memories -/
def aReg (g : cx_Q) (x : Nat) (n u : Int) : Int := if 0 ≤ u ∧ u < n then (if cq_I g (x + 11) u = 0 then 1 else 0) else -1
def qReg (g : cx_Q) (x : Nat) (n u : Int) : cx_Q := if 0 ≤ u ∧ u < n then (if cq_I g (x + 11) u = 0 then m_register g x u else g) else g
def aRot (g : cx_Q) (x : Nat) (n u : Int) : Int := if 0 ≤ u ∧ u < n then (if cq_I g (x + 11) u = 0 then -2 else if cq_I g (x + 16) u = 20 then -3 else cq_I g (x + 16) u + 1) else -1
def qRot (g : cx_Q) (x : Nat) (n u : Int) : cx_Q := if 0 ≤ u ∧ u < n then (if cq_I g (x + 11) u = 0 then g else if cq_I g (x + 16) u = 20 then g else m_lend g x u) else g
def aPub (g : cx_Q) (x : Nat) (n u w : Int) : Int := if (0 ≤ u ∧ u < n) ∧ 1 ≤ w ∧ w ≤ 12 then (if cq_I g (x + 11) u = 0 then -2 else if 12 < m_onceDir g x u + w ∨ 60 < cq_I g (x + 23) u + w then -3 else m_onceDir (m_pub x u w.toNat g) x u) else -1
def qPub (g : cx_Q) (x : Nat) (n u w : Int) : cx_Q := if (0 ≤ u ∧ u < n) ∧ 1 ≤ w ∧ w ≤ 12 then (if cq_I g (x + 11) u = 0 then g else if 12 < m_onceDir g x u + w ∨ 60 < cq_I g (x + 23) u + w then g else m_pub x u w.toNat g) else g
def aFrg (g : cx_Q) (x : Nat) (n u : Int) (v : Int64) : Int := if (0 ≤ u ∧ u < n) ∧ cq_I g (x + 11) u ≠ 0 ∧ 1 ≤ v.toInt ∧ v.toInt < 2305843009213693951 then 1 else -1
def qFrg (g : cx_Q) (x : Nat) (n u : Int) (v : Int64) : cx_Q := if (0 ≤ u ∧ u < n) ∧ cq_I g (x + 11) u ≠ 0 ∧ 1 ≤ v.toInt ∧ v.toInt < 2305843009213693951 then cq_sJ g (x + 20) u v else g
noncomputable def aBeg (g : cx_Q) (x : Nat) (n u v : Int) : Int := if (0 ≤ u ∧ u < n) ∧ (0 ≤ v ∧ v < n) ∧ u ≠ v then (if cq_I g (x + 11) u = 0 ∨ cq_I g (x + 11) v = 0 then -2 else @ite Int (m_seal g x v) (Classical.propDecidable _) 1 (-10)) else -1
noncomputable def qBeg (g : cx_Q) (x : Nat) (n u v : Int) : cx_Q := if (0 ≤ u ∧ u < n) ∧ (0 ≤ v ∧ v < n) ∧ u ≠ v then (if cq_I g (x + 11) u = 0 ∨ cq_I g (x + 11) v = 0 then g else @ite cx_Q (m_seal g x v) (Classical.propDecidable _) (m_begin g x u v) (m_bn0 g x v)) else g
def aFor (g : cx_Q) (x : Nat) (n u v : Int) : Int := if (0 ≤ u ∧ u < n) ∧ (0 ≤ v ∧ v < n) ∧ u ≠ v then cq_I g (x + 30) (6 * u + v) else -1
def qFor (g : cx_Q) (x : Nat) (n u v : Int) : cx_Q := if (0 ≤ u ∧ u < n) ∧ (0 ≤ v ∧ v < n) ∧ u ≠ v then cq_sI g (x + 30) (6 * u + v) 0 else g
def aEnd (g : cx_Q) (x : Nat) (m : Int) : Int := if 0 ≤ m ∧ m ≤ 20 ∧ 20 ≤ cq_I g x 68 then cq_I g x 68 - 20 + m else -1
def qEnd (g : cx_Q) (x : Nat) (m : Int) : cx_Q := if 0 ≤ m ∧ m ≤ 20 ∧ 20 ≤ cq_I g x 68 then cq_sI g x 68 (cq_I g x 68 - 20 + m) else g
def aFd (g : cx_Q) (x : Nat) : Int := if 40 < cq_I g x 68 + 20 then -3 else cq_I g x 68 + 20
def qFd (g : cx_Q) (x : Nat) (a b c d e : Int) : cx_Q := if 40 < cq_I g x 68 + 20 then g else m_fd x a b c d e 20 0 g
def aSpo (g : cx_Q) (x : Nat) (l p m : Int) : Int := if (0 ≤ l ∧ l < cq_I g x 72) ∧ 0 ≤ p ∧ p < cq_I g (x + 63) l ∧ 1 ≤ m ∧ m ≤ 255 then cx_xor (cq_I g (x + 62) (100 * l + p)) m else -1
def qSpo (g : cx_Q) (x : Nat) (l p m : Int) : cx_Q := if (0 ≤ l ∧ l < cq_I g x 72) ∧ 0 ≤ p ∧ p < cq_I g (x + 63) l ∧ 1 ≤ m ∧ m ≤ 255 then cq_sI g (x + 62) (100 * l + p) (cx_xor (cq_I g (x + 62) (100 * l + p)) m) else g
def aCop (g : cx_Q) (x : Nat) (l : Int) : Int := if 0 ≤ l ∧ l < cq_I g x 72 then (if cq_I g x 72 = 80 then -3 else cq_I g x 72) else -1
def qCop (g : cx_Q) (x : Nat) (l : Int) : cx_Q := if 0 ≤ l ∧ l < cq_I g x 72 then (if cq_I g x 72 = 80 then g else m_copy g x l) else g
def aLok (g : cx_Q) (x : Nat) (n u : Int) : Int := if 0 ≤ u ∧ u < n then cq_I g x 86 + 1 else -1
def qLok (g : cx_Q) (x : Nat) (n u : Int) : cx_Q := if 0 ≤ u ∧ u < n then cq_sI g x 86 (cq_I g x 86 + 1) else g
noncomputable def qCom (g : cx_Q) (x : Nat) (n l u : Int) : cx_Q := @ite cx_Q (CO g x n l u) (Classical.propDecidable _) (CMQ g x l u) g
noncomputable def aWr (g : cx_Q) (x : Nat) (n u v : Int) : Int := if ((0 ≤ u ∧ u < n) ∧ (0 ≤ v ∧ v < n) ∧ u ≠ v) ∧ cq_I g x 68 ≠ 0 then (if cq_I g (x + 11) u = 0 ∨ cq_I g (x + 11) v = 0 then -2 else if cq_I g x 72 = 80 then -3 else @ite Int (cq_I g (x + 30) (6 * u + v) = 0 ∧ ¬ m_seal g x v) (Classical.propDecidable _) (-10) (cq_I g x 72)) else -1
/-- what writing leaves -/
def rWr (g : cx_Q) (x : Nat) (n u v : Int) (g' : cx_Q) : Prop := (((0 ≤ u ∧ u < n) ∧ (0 ≤ v ∧ v < n) ∧ u ≠ v) ∧ cq_I g x 68 ≠ 0 ∧ ¬ (cq_I g (x + 11) u = 0 ∨ cq_I g (x + 11) v = 0) ∧ cq_I g x 72 ≠ 80 → (cq_I g (x + 30) (6 * u + v) = 0 → (¬ m_seal g x v → eT x (m_bn0 g x v) g') ∧ (m_seal g x v → ∃ g1, eT x (m_begin g x u v) g1 ∧ WR x u v g1 g')) ∧ (cq_I g (x + 30) (6 * u + v) ≠ 0 → WR x u v g g')) ∧ (¬ (((0 ≤ u ∧ u < n) ∧ (0 ≤ v ∧ v < n) ∧ u ≠ v) ∧ cq_I g x 68 ≠ 0 ∧ ¬ (cq_I g (x + 11) u = 0 ∨ cq_I g (x + 11) v = 0) ∧ cq_I g x 72 ≠ 80) → eT x g g')
theorem isO_1 {a : Int64} : g_isOpen a ≠ 0 ↔ 1 ≤ a.toInt ∧ a.toInt < 2305843009213693951 := by
  unfold g_isOpen
  constructor
  · intro q
    split at q
    · exact absurd rfl q
    · omega
  · intro q
    split
    · omega
    · decide
section
variable {Y : cx_Y} {K : Option cx_V → cx_Q → Prop} {c x : Nat} {n L Z : Int} {E : Nat → Option Int} {h0 : cx_Q} {h g : cx_Q} {pe : Int → Nat} {ro : Int → Int → Nat} {pa lb tp rd en op ob : Nat} {T Lf : Int → Nat}
/-- the class's call is done -/
def FK (c x : Nat) (n : Int) (pe : Int → Nat) (ro : Int → Int → Nat) (pa lb tp rd en op ob : Nat) (Z : Int) (h0 : cx_Q) (K : Option cx_V → cx_Q → Prop) (a : Option cx_V) (gq : cx_Q) : Prop := ∀ h' T' Lf' Z' E' L', CI c n L' Z' E' h0 [] h' → Z' ≤ Z + 100 → FX c x n pe ro pa lb tp rd en op ob T' Lf' h' gq → K a h'
theorem fa_register (hY : cY Y) {u : Int} (H : CI c n L Z E h0 [] h) (hZ : Z ≤ 100000) (F : FX c x n pe ro pa lb tp rd en op ob T Lf h g) (hl : ∀ u, cq_I g (x + 11) u = 0 → cq_I g (x + 16) u = 0) (hK : FK c x n pe ro pa lb tp rd en op ob Z h0 K (some (.inl (aReg g x n u))) (qReg g x n u)) : cw Y mi_X10_register K 0 [some (.inr (.inr (some c))), some (.inl u)] [] h 3 12 := by
  unfold aReg qReg at hK
  refine f_X10_register hY H (by omega) F hl (fun q => ?_) (fun q w => ?_) (fun q w h' G' F' => ?_)
  · rw [if_neg q, if_neg q] at hK
    exact hK h T Lf Z E L H (by omega) F
  · rw [if_pos q, if_pos q, if_neg w, if_neg w] at hK
    exact hK h T Lf Z E L H (by omega) F
  · rw [if_pos q, if_pos q, if_pos w, if_pos w] at hK
    exact hK h' T Lf _ _ L G' (by omega) F'
theorem fa_rotate (hY : cY Y) {u : Int} (H : CI c n L Z E h0 [] h) (hZ : Z ≤ 100000) (F : FX c x n pe ro pa lb tp rd en op ob T Lf h g) (hK : FK c x n pe ro pa lb tp rd en op ob Z h0 K (some (.inl (aRot g x n u))) (qRot g x n u)) : cw Y mi_X10_rotate K 0 [some (.inr (.inr (some c))), some (.inl u), none] [] h 2 8 := by
  unfold aRot qRot at hK
  refine f_X10_rotate hY H (by omega) F (fun q => ?_) (fun q w => ?_) (fun q w z => ?_) (fun q w z h' G' F' => ?_)
  · rw [if_neg q, if_neg q] at hK
    exact hK h T Lf Z E L H (by omega) F
  · rw [if_pos q, if_pos q, if_pos w, if_pos w] at hK
    exact hK h T Lf Z E L H (by omega) F
  · rw [if_pos q, if_pos q, if_neg w, if_neg w, if_pos z, if_pos z] at hK
    exact hK h T Lf Z E L H (by omega) F
  · rw [if_pos q, if_pos q, if_neg w, if_neg w, if_neg z, if_neg z] at hK
    exact hK h' T Lf _ _ L G' (by omega) F'
theorem fa_publish (hY : cY Y) {u w : Int} (H : CI c n L Z E h0 [] h) (hZ : Z ≤ 100000) (F : FX c x n pe ro pa lb tp rd en op ob T Lf h g) (hK : FK c x n pe ro pa lb tp rd en op ob Z h0 K (some (.inl (aPub g x n u w))) (qPub g x n u w)) : cw Y mi_X10_publish K 0 [some (.inr (.inr (some c))), some (.inl u), some (.inl w), none, none] [] h 12 48 := by
  unfold aPub qPub at hK
  refine f_X10_publish hY H (by omega) F (fun q => ?_) (fun q w => ?_) (fun q w z => ?_) (fun q w z h' G' F' => ?_)
  · rw [if_neg q, if_neg q] at hK
    exact hK h T Lf Z E L H (by omega) F
  · rw [if_pos q, if_pos q, if_pos w, if_pos w] at hK
    exact hK h T Lf Z E L H (by omega) F
  · rw [if_pos q, if_pos q, if_neg w, if_neg w, if_pos z, if_pos z] at hK
    exact hK h T Lf Z E L H (by omega) F
  · rw [if_pos q, if_pos q, if_neg w, if_neg w, if_neg z, if_neg z] at hK
    exact hK h' T Lf _ _ L G' (by omega) F'
theorem fa_forge (hY : cY Y) {u : Int} {v : Int64} (H : CI c n L Z E h0 [] h) (F : FX c x n pe ro pa lb tp rd en op ob T Lf h g) (hK : FK c x n pe ro pa lb tp rd en op ob Z h0 K (some (.inl (aFrg g x n u v))) (qFrg g x n u v)) : cw Y mi_X10_forge K 0 [some (.inr (.inr (some c))), some (.inl u), some (.inr (.inl v)), none] [] h 0 0 := by
  unfold aFrg qFrg at hK
  refine f_X10_forge hY H F (fun q => ?_) (fun q h' G' F' => ?_)
  · have q' : ¬ ((0 ≤ u ∧ u < n) ∧ cq_I g (x + 11) u ≠ 0 ∧ 1 ≤ v.toInt ∧ v.toInt < 2305843009213693951) := fun z => q ⟨z.1, z.2.1, isO_1.mpr z.2.2⟩
    rw [if_neg q', if_neg q'] at hK
    exact hK h T Lf Z E L H (by omega) F
  · have q' : (0 ≤ u ∧ u < n) ∧ cq_I g (x + 11) u ≠ 0 ∧ 1 ≤ v.toInt ∧ v.toInt < 2305843009213693951 := ⟨q.1, q.2.1, isO_1.mp q.2.2⟩
    rw [if_pos q', if_pos q'] at hK
    exact hK h' T Lf _ _ L G' (by omega) F'
theorem fa_begin (hY : cY Y) {u v : Int} (H : CI c n L Z E h0 [] h) (hZ : Z ≤ 100000) (F : FX c x n pe ro pa lb tp rd en op ob T Lf h g) (h63 : cq_I g x 63 < 100) (hK : FK c x n pe ro pa lb tp rd en op ob Z h0 K (some (.inl (aBeg g x n u v))) (qBeg g x n u v)) : cw Y mi_X10_begin K 0 [some (.inr (.inr (some c))), some (.inl u), some (.inl v)] [] h 15 303 := by
  unfold aBeg qBeg at hK
  refine f_X10_begin hY H (by omega) F h63 (fun q => ?_) (fun q w => ?_) (fun q w z h' G' F' => ?_) (fun q w z h' T' G' F' => ?_)
  · rw [if_neg q, if_neg q] at hK
    exact hK h T Lf Z E L H (by omega) F
  · rw [if_pos q, if_pos q, if_pos w, if_pos w] at hK
    exact hK h T Lf Z E L H (by omega) F
  · rw [if_pos q, if_pos q, if_neg w, if_neg w, if_neg z, if_neg z] at hK
    exact hK h' T Lf _ _ L G' (by omega) F'
  · rw [if_pos q, if_pos q, if_neg w, if_neg w, if_pos z, if_pos z] at hK
    exact hK h' T' Lf _ _ L G' (by omega) F'
theorem fa_forget (hY : cY Y) {u v : Int} (H : CI c n L Z E h0 [] h) (F : FX c x n pe ro pa lb tp rd en op ob T Lf h g) (hK : FK c x n pe ro pa lb tp rd en op ob Z h0 K (some (.inl (aFor g x n u v))) (qFor g x n u v)) : cw Y mi_X10_forget K 0 [some (.inr (.inr (some c))), some (.inl u), some (.inl v)] [] h 0 0 := by
  unfold aFor qFor at hK
  refine f_X10_forget hY H F (fun q => ?_) (fun q h' G' F' => ?_)
  · rw [if_neg q, if_neg q] at hK
    exact hK h T Lf Z E L H (by omega) F
  · rw [if_pos q, if_pos q] at hK
    exact hK h' T Lf _ _ L G' (by omega) F'
theorem fa_end (hY : cY Y) {m : Int} (H : CI c n L Z E h0 [] h) (F : FX c x n pe ro pa lb tp rd en op ob T Lf h g) (hK : FK c x n pe ro pa lb tp rd en op ob Z h0 K (some (.inl (aEnd g x m))) (qEnd g x m)) : cw Y mi_X10_end K 0 [some (.inr (.inr (some c))), some (.inl m)] [] h 0 0 := by
  have tc := F.fs.tc
  unfold aEnd qEnd at hK
  refine e_X10_end hY H (fun q => ?_) (fun q h' G' e' => ?_)
  · rw [tc] at q
    rw [if_neg q, if_neg q] at hK
    exact hK h T Lf Z E L H (by omega) F
  · have F' := fx_end F (v := cq_I h c 9 - 20 + m) (by omega)
    rw [← e', tc] at F'
    rw [tc] at q ⊢
    rw [if_pos q, if_pos q] at hK
    exact hK h' T Lf _ _ L G' (by omega) F'
theorem fa_feed (hY : cY Y) {a b d e f : Int} (H : CI c n L Z E h0 [] h) (F : FX c x n pe ro pa lb tp rd en op ob T Lf h g) (hK : FK c x n pe ro pa lb tp rd en op ob Z h0 K (some (.inl (aFd g x))) (qFd g x a b d e f)) : cw Y mi_X10_feed K 0 [some (.inr (.inr (some c))), some (.inl a), some (.inl b), some (.inl d), some (.inl e), some (.inl f)] [] h 0 0 := by
  have tc := F.fs.tc
  have hc := H.cs
  unfold aFd qFd at hK
  refine e_X10_feed hY H F.fs.a8 (fun q => ?_) (fun q h' G' e' => ?_)
  · rw [tc] at q
    rw [if_pos q, if_pos q] at hK
    exact hK h T Lf Z E L H (by omega) F
  · have F' := fx_feed F (a := a) (b := b) (c' := d) (d := e) (e := f) hc
    rw [← e'] at F'
    rw [tc] at q ⊢
    rw [if_neg (by omega), if_neg (by omega)] at hK
    exact hK h' T Lf _ _ L G' (by omega) F'
theorem fa_spoil (hY : cY Y) {l p m : Int} (H : CI c n L Z E h0 [] h) (F : FX c x n pe ro pa lb tp rd en op ob T Lf h g) (hK : FK c x n pe ro pa lb tp rd en op ob Z h0 K (some (.inl (aSpo g x l p m))) (qSpo g x l p m)) : cw Y mi_X10_spoil K 0 [some (.inr (.inr (some c))), some (.inl l), some (.inl p), some (.inl m), none] [] h 0 0 := by
  unfold aSpo qSpo at hK
  refine f_X10_spoil hY H F (fun q => ?_) (fun q h' G' F' => ?_)
  · rw [if_neg q, if_neg q] at hK
    exact hK h T Lf Z E L H (by omega) F
  · rw [if_pos q, if_pos q] at hK
    exact hK h' T Lf _ _ L G' (by omega) F'
theorem fa_copy (hY : cY Y) {l : Int} (H : CI c n L Z E h0 [] h) (hZ : Z ≤ 100000) (F : FX c x n pe ro pa lb tp rd en op ob T Lf h g) (hK : FK c x n pe ro pa lb tp rd en op ob Z h0 K (some (.inl (aCop g x l))) (qCop g x l)) : cw Y mi_X10_copy K 0 [some (.inr (.inr (some c))), some (.inl l)] [] h 2 104 := by
  unfold aCop qCop at hK
  refine f_X10_copy hY H (by omega) F (fun q => ?_) (fun q w => ?_) (fun q w h' Lf' G' F' => ?_)
  · rw [if_neg q, if_neg q] at hK
    exact hK h T Lf Z E L H (by omega) F
  · rw [if_pos q, if_pos q, if_pos w, if_pos w] at hK
    exact hK h T Lf Z E L H (by omega) F
  · rw [if_pos q, if_pos q, if_neg w, if_neg w] at hK
    exact hK h' T Lf' _ _ L G' (by omega) F'
theorem fa_look (hY : cY Y) {u : Int} (H : CI c n L Z E h0 [] h) (F : FX c x n pe ro pa lb tp rd en op ob T Lf h g) (hL : 0 ≤ L ∧ L ≤ 64) (eL : cq_I g x 86 = L) (hK : FK c x n pe ro pa lb tp rd en op ob Z h0 K (some (.inl (aLok g x n u))) (qLok g x n u)) : cw Y mi_X10_look K 0 [some (.inr (.inr (some c))), some (.inl u)] [] h 0 0 := by
  unfold aLok qLok at hK
  refine f_X10_look hY H F (by omega) (fun q => ?_) (fun q h' G' F' => ?_)
  · rw [if_neg q, if_neg q] at hK
    exact hK h T Lf Z E L H (by omega) F
  · rw [if_pos q, if_pos q] at hK
    rw [← eL]
    exact hK h' T Lf _ _ _ G' (by omega) F'
theorem fa_come (hY : cY Y) {l u : Int} (H : CI c n L Z E h0 [] h) (hZ : Z ≤ 100000) (F : FX c x n pe ro pa lb tp rd en op ob T Lf h g) (h62 : ∀ j, 0 ≤ cq_I g (x + 62) j ∧ cq_I g (x + 62) j ≤ 255) (h58 : cq_I g (x + 58) u < 100) (h85 : cq_I g x 85 ≤ 100) (hK : ∀ m, FK c x n pe ro pa lb tp rd en op ob Z h0 K (some (.inl m)) (qCom g x n l u)) : cw Y mi_X10_come K 0 [some (.inr (.inr (some c))), some (.inl l), some (.inl u), none] [] h 52 1298 := by
  unfold qCom at hK
  refine f_X10_come hY H (by omega) F h62 h58 h85 (fun q m h' G' F' => ?_) (fun q m h' T' G' F' => ?_)
  · rw [if_neg q] at hK
    exact hK m h' T Lf _ _ L G' (by omega) F'
  · rw [if_pos q] at hK
    exact hK m h' T' Lf _ _ L G' (by omega) F'
theorem fa_write (hY : cY Y) {u v : Int} (H : CI c n L Z E h0 [] h) (hZ : Z ≤ 100000) (F : FX c x n pe ro pa lb tp rd en op ob T Lf h g) (h63 : cq_I g x 63 < 100) (h4 : ∀ j, 0 ≤ cq_I g (x + 30) j ∧ cq_I g (x + 30) j ≤ 4) (hK : ∀ h' T' Lf' Z' E' L', CI c n L' Z' E' h0 [] h' → Z' ≤ Z + 100 → (∀ g', rWr g x n u v g' → FX c x n pe ro pa lb tp rd en op ob T' Lf' h' g') → K (some (.inl (aWr g x n u v))) h') : cw Y mi_X10_write K 0 [some (.inr (.inr (some c))), some (.inl u), some (.inl v), none, none] [] h 17 407 := by
  unfold aWr at hK
  refine f_X10_write hY H (by omega) F h63 h4 (fun q => ?_) (fun q w => ?_) (fun q w z => ?_) (fun q w z r s h' G' F' => ?_) (fun q w z r s h' T' Lf' G' F' => ?_) (fun q w z r h' Lf' G' F' => ?_)
  · rw [if_neg q] at hK
    refine hK h T Lf Z E L H (by omega) (fun g' R => F.eT (R.2 (fun y => q ⟨y.1, y.2.1⟩)))
  · rw [if_pos q, if_pos w] at hK
    refine hK h T Lf Z E L H (by omega) (fun g' R => F.eT (R.2 (fun y => y.2.2.1 w)))
  · rw [if_pos q, if_neg w, if_pos z] at hK
    refine hK h T Lf Z E L H (by omega) (fun g' R => F.eT (R.2 (fun y => y.2.2.2 z)))
  · have r' : cq_I g (x + 30) (6 * u + v) = 0 ∧ ¬ m_seal g x v := ⟨r, s⟩
    rw [if_pos q, if_neg w, if_neg z, if_pos r'] at hK
    refine hK h' T Lf _ _ L G' (by omega) (fun g' R => F'.eT (((R.1 ⟨q.1, q.2, w, z⟩).1 r).1 s))
  · have r' : ¬ (cq_I g (x + 30) (6 * u + v) = 0 ∧ ¬ m_seal g x v) := fun y => y.2 s
    rw [if_pos q, if_neg w, if_neg z, if_neg r'] at hK
    refine hK h' T' Lf' _ _ L G' (by omega) (fun g' R => ?_)
    obtain ⟨g1, e1, e2⟩ := ((R.1 ⟨q.1, q.2, w, z⟩).1 r).2 s
    exact F' g1 g' e1 e2
  · have r' : ¬ (cq_I g (x + 30) (6 * u + v) = 0 ∧ ¬ m_seal g x v) := fun y => r y.1
    rw [if_pos q, if_neg w, if_neg z, if_neg r'] at hK
    exact hK h' T Lf' _ _ L G' (by omega) (fun g' R => F' g' ((R.1 ⟨q.1, q.2, w, z⟩).2 r))
end
/-! the reference: each of its calls, by its functions -/
section
variable {x : Nat} {h k g g' : cx_Q} {n u v w l p m : Int}
theorem ov_aReg : aReg (ov x h k) x n u = aReg h x n u := by
  unfold aReg
  simp (disch := decide) only [ov_I]
theorem ov_qReg : qReg (ov x h k) x n u = ov x (qReg h x n u) k := by
  unfold qReg
  simp (disch := decide) only [ov_I, ov_m_register, ov_if]
theorem ov_aRot : aRot (ov x h k) x n u = aRot h x n u := by
  unfold aRot
  simp (disch := decide) only [ov_I]
theorem ov_qRot : qRot (ov x h k) x n u = ov x (qRot h x n u) k := by
  unfold qRot
  simp (disch := decide) only [ov_I, ov_m_lend, ov_if]
theorem ov_aPub : aPub (ov x h k) x n u w = aPub h x n u w := by
  unfold aPub
  simp (disch := decide) only [ov_I, ov_m_onceDir, ov_m_pub]
theorem ov_qPub : qPub (ov x h k) x n u w = ov x (qPub h x n u w) k := by
  unfold qPub
  simp (disch := decide) only [ov_I, ov_m_onceDir, ov_m_pub, ov_if]
theorem ov_aFrg {a : Int64} : aFrg (ov x h k) x n u a = aFrg h x n u a := by
  unfold aFrg
  simp (disch := decide) only [ov_I]
theorem ov_qFrg {a : Int64} : qFrg (ov x h k) x n u a = ov x (qFrg h x n u a) k := by
  unfold qFrg
  simp (disch := decide) only [ov_I, ov_sJ, ov_if]
theorem ov_aBeg : aBeg (ov x h k) x n u v = aBeg h x n u v := by
  unfold aBeg
  rw [ov_m_seal, ov_I (by decide)]
theorem ov_qBeg : qBeg (ov x h k) x n u v = ov x (qBeg h x n u v) k := by
  unfold qBeg
  rw [ov_m_seal, ov_I (by decide), ov_m_begin, ov_m_bn0, ov_if, ov_if, ov_if]
theorem ov_aFor : aFor (ov x h k) x n u v = aFor h x n u v := by
  unfold aFor
  simp (disch := decide) only [ov_I]
theorem ov_qFor : qFor (ov x h k) x n u v = ov x (qFor h x n u v) k := by
  unfold qFor
  simp (disch := decide) only [ov_sI, ov_if]
theorem ov_aEnd : aEnd (ov x h k) x m = aEnd h x m := by
  unfold aEnd
  simp (disch := decide) only [ov_I0]
theorem ov_qEnd : qEnd (ov x h k) x m = ov x (qEnd h x m) k := by
  unfold qEnd
  simp (disch := decide) only [ov_I0, ov_sI0, ov_if]
theorem ov_aFd : aFd (ov x h k) x = aFd h x := by
  unfold aFd
  simp (disch := decide) only [ov_I0]
theorem ov_qFd {a b c d e : Int} : qFd (ov x h k) x a b c d e = ov x (qFd h x a b c d e) k := by
  unfold qFd
  simp (disch := decide) only [ov_I0, ov_m_fd, ov_if]
theorem ov_aSpo : aSpo (ov x h k) x l p m = aSpo h x l p m := by
  unfold aSpo
  simp (disch := decide) only [ov_I0, ov_I]
theorem ov_qSpo : qSpo (ov x h k) x l p m = ov x (qSpo h x l p m) k := by
  unfold qSpo
  simp (disch := decide) only [ov_I0, ov_I, ov_sI, ov_if]
theorem ov_aCop : aCop (ov x h k) x l = aCop h x l := by
  unfold aCop
  simp (disch := decide) only [ov_I0]
theorem ov_qCop : qCop (ov x h k) x l = ov x (qCop h x l) k := by
  unfold qCop
  simp (disch := decide) only [ov_I0, ov_m_copy, ov_if]
theorem ov_aLok : aLok (ov x h k) x n u = aLok h x n u := by
  unfold aLok
  simp (disch := decide) only [ov_I0]
theorem ov_qLok : qLok (ov x h k) x n u = ov x (qLok h x n u) k := by
  unfold qLok
  simp (disch := decide) only [ov_I0, ov_sI0, ov_if]
theorem ov_aWr : aWr (ov x h k) x n u v = aWr h x n u v := by
  unfold aWr
  rw [ov_m_seal, ov_I0, ov_I (o := 11) (by decide), ov_I (o := 30) (by decide)]
theorem ov_id : ov x h h = h := by
  refine qext rfl rfl rfl (fun q r => ?_) (fun q r => ?_) (fun q r => rfl)
  · rw [ov_a]
    split <;> rfl
  · rw [ov_b]
    split <;> rfl
theorem ov_ov : ov x (ov x h k) g = ov x h g := by
  refine qext rfl rfl rfl (fun q r => ?_) (fun q r => ?_) (fun q r => rfl)
  · rw [ov_a, ov_a, ov_a]
    split
    · rfl
    · rfl
  · rw [ov_b, ov_b, ov_b]
    split
    · rfl
    · rfl
theorem eT.o_ (e : eT x h g) : eT x (ov x h k) (ov x g k) := by
  refine ⟨rfl, rfl, rfl, rfl, fun i j q => ⟨?_, ?_⟩⟩
  · rw [ov_a, ov_a]
    split
    · exact (e.2.2.2.2 i j q).1
    · rfl
  · rw [ov_b, ov_b]
    split
    · exact (e.2.2.2.2 i j q).2
    · rfl
theorem WR.o_ {k' : cx_Q} (W : WR x u v g g') : WR x u v (ov x g k) (ov x g' k') := by
  have e1 : wrS x (ov x g k) u v = wrS x g u v := by
    unfold wrS
    simp (disch := decide) only [ov_I]
  have e2 : ∀ s, wrZ x (ov x g k) s = wrZ x g s := fun s => by
    unfold wrZ
    simp (disch := decide) only [ov_I, ov_I0]
  have e3 : ∀ s, wrB x (ov x g k) u v s = wrB x g u v s := fun s => by
    unfold wrB
    simp (disch := decide) only [ov_I, ov_I0, ov_J]
  unfold WR at W ⊢
  rw [e1, e2, e3]
  generalize wrS x g u v = s at W ⊢
  generalize wrZ x g s = z at W ⊢
  generalize wrB x g u v s = b at W ⊢
  refine ⟨fun j a1 a2 a3 a4 a5 a6 => by rw [ov_I0, ov_I0]; exact W.x_ j a1 a2 a3 a4 a5 a6, by rw [ov_I0, ov_I0]; exact W.x72, by rw [ov_I0]; exact W.x68, fun o j a1 a2 a3 a4 a5 a6 => ?_, fun o j a1 a2 a3 a4 => by rw [ov_J a2, ov_J a2]; exact W.J_ o j a1 a2 a3 a4, by rw [ov_I (by decide), ov_I (by decide)]; exact W.i40, by rw [ov_J (by decide), ov_J (by decide)]; exact W.j32, by rw [ov_I (by decide), ov_I0]; exact W.z, fun k k0 k1 => by rw [ov_I (by decide), ov_I0]; exact W.b_ k k0 k1⟩
  rw [ov_I0] at a5 a6
  rw [ov_I a2, ov_I a2]
  exact W.I_ o j a1 a2 a3 a4 a5 a6
theorem rWr.o_ (R : rWr (ov x h k) x n u v g') : rWr h x n u v (ov x g' h) := by
  unfold rWr at R ⊢
  rw [ov_m_seal, ov_I0, ov_I (o := 11) (by decide), ov_I (o := 30) (by decide), ov_m_bn0, ov_m_begin] at R
  refine ⟨fun q => ⟨fun r => ⟨fun s => ?_, fun s => ?_⟩, fun r => ?_⟩, fun q => ?_⟩
  · have e := ((R.1 q).1 r).1 s
    have e2 := e.o_ (k := h)
    rw [ov_ov] at e2
    have e3 : ov x (m_bn0 h x v) h = m_bn0 h x v := by rw [← ov_m_bn0, ov_id]
    rw [e3] at e2
    exact e2
  · obtain ⟨g1, e, W⟩ := ((R.1 q).1 r).2 s
    have e2 := e.o_ (k := h)
    rw [ov_ov] at e2
    have e3 : ov x (m_begin h x u v) h = m_begin h x u v := by rw [← ov_m_begin, ov_id]
    rw [e3] at e2
    exact ⟨_, e2, W.o_⟩
  · have W := ((R.1 q).2 r).o_ (k := h) (k' := h)
    rw [ov_ov, ov_id] at W
    exact W
  · have e2 := (R.2 q).o_ (k := h)
    rw [ov_ov, ov_id] at e2
    exact e2
end
section
variable {Y : cx_Y} {K : Option cx_V → cx_Q → Prop} {x : Nat} {n L k Q D : Int} {U V : Int → Int} {h0 h : cx_Q}
theorem gV (hV : ∀ u, 0 ≤ V u ∧ V u ≤ 20) {u v : Int} (hv : 0 ≤ v ∧ v ≤ 20) : ∀ j, 0 ≤ fu V u v j ∧ fu V u v j ≤ 20 := fun j => by
  unfold fu
  split
  · exact hv
  · exact hV j
theorem gU (hU : ∀ u, U u = 0 → V u = 0) {u v : Int} : ∀ j, fu U u 1 j = 0 → fu V u v j = 0 := fun j => by
  unfold fu
  split
  · intro q
    exact absurd q (by decide)
  · exact hU j
theorem gW (hU : ∀ u, U u = 0 → V u = 0) {u v : Int} (z : U u ≠ 0) : ∀ j, U j = 0 → fu V u v j = 0 := fun j q => by
  unfold fu
  split
  · rename_i e
    rw [e] at q
    exact absurd q z
  · exact hU j q
/-- the reference's call is done -/
def RK (x : Nat) (n k : Int) (h0 : cx_Q) (K : Option cx_V → cx_Q → Prop) (a : Option cx_V) (gq : cx_Q) : Prop := ∀ h' L' U' V', RI x n L' U' V' (k + 1) h0 h' → (0 ≤ L' ∧ L' ≤ k + 1) → (∀ u, 0 ≤ V' u ∧ V' u ≤ 20) → (∀ u, U' u = 0 → V' u = 0) → eT x gq h' → K a h'
theorem ya_register (hY : cY Y) {u : Int} (R : RI x n L U V k h0 h) (hk : 0 ≤ k ∧ k ≤ 63) (hn : 2 ≤ n ∧ n ≤ 6) (hL : 0 ≤ L ∧ L ≤ k) (hV : ∀ u, 0 ≤ V u ∧ V u ≤ 20) (hU : ∀ u, U u = 0 → V u = 0) (hK : RK x n k h0 K (some (.inl (aReg h x n u))) (qReg h x n u)) : cw Y mi_X11_register K 0 [some (.inr (.inr (some x))), some (.inl u)] [] h 0 0 := by
  have e0 := R.n0
  have e11 := R.e11
  have e16 := R.e16
  have iu : m_isUser h x u = (0 ≤ u ∧ u < n) := by unfold m_isUser; rw [e0]
  unfold aReg qReg at hK
  refine c_X11_register hY R.1.rS R.2 (by omega) (by omega) (by omega) (by rw [e16]; exact hV) (by rw [e16, e11]; exact hU) R.1.r12 (by omega) ?_ ?_ ?_
  · rw [iu]
    intro q
    rw [if_neg q, if_neg q] at hK
    exact hK h L U V R.up (by omega) hV hU (eT.refl _ _)
  · rw [iu]
    intro q w
    rw [if_pos q, if_pos q, if_neg w, if_neg w] at hK
    exact hK h L U V R.up (by omega) hV hU (eT.refl _ _)
  · rw [iu]
    intro q w g e t
    rw [if_pos q, if_pos q, if_pos w, if_pos w] at hK
    have M := (R.1.reg (u := u)).eT e
    rw [e11] at w
    rw [hU u w] at M
    exact hK g L _ _ (RI.mk M t (by omega) (by omega) (by omega) (by omega)) (by omega) (gV hV (by decide)) (gU hU) e
theorem ya_rotate (hY : cY Y) {u : Int} (R : RI x n L U V k h0 h) (hk : 0 ≤ k ∧ k ≤ 63) (hn : 2 ≤ n ∧ n ≤ 6) (hL : 0 ≤ L ∧ L ≤ k) (hV : ∀ u, 0 ≤ V u ∧ V u ≤ 20) (hU : ∀ u, U u = 0 → V u = 0) (hK : RK x n k h0 K (some (.inl (aRot h x n u))) (qRot h x n u)) : cw Y mi_X11_rotate K 0 [some (.inr (.inr (some x))), some (.inl u)] [] h 0 0 := by
  have e0 := R.n0
  have e11 := R.e11
  have e16 := R.e16
  have iu : m_isUser h x u = (0 ≤ u ∧ u < n) := by unfold m_isUser; rw [e0]
  unfold aRot qRot at hK
  refine c_X11_rotate hY R.1.rS R.2 (by omega) (by omega) (by omega) (by rw [e16]; exact hV) R.1.r12 (by omega) ?_ ?_ ?_ ?_
  · rw [iu]
    intro q
    rw [if_neg q, if_neg q] at hK
    exact hK h L U V R.up (by omega) hV hU (eT.refl _ _)
  · rw [iu]
    intro q w
    rw [if_pos q, if_pos q, if_pos w, if_pos w] at hK
    exact hK h L U V R.up (by omega) hV hU (eT.refl _ _)
  · rw [iu]
    intro q w z
    rw [if_pos q, if_pos q, if_neg w, if_neg w, if_pos z, if_pos z] at hK
    exact hK h L U V R.up (by omega) hV hU (eT.refl _ _)
  · rw [iu]
    intro q w z g e t
    rw [if_pos q, if_pos q, if_neg w, if_neg w, if_neg z, if_neg z] at hK
    have M0 := R.1.lend (u := u)
    have e' : cq_I (m_lend h x u) (x + 16) u = cq_I h (x + 16) u + 1 := by
      rw [M0.2.2.2.2.2.1, e16]
      unfold fu
      rw [if_pos rfl]
    rw [e']
    rw [e11] at w
    rw [e16] at z
    have v20 := hV u
    exact hK g L _ _ (RI.mk (M0.eT e) t (by omega) (by omega) (by omega) (by omega)) (by omega) (gV hV (by omega)) (gW hU w) e
theorem ya_publish (hY : cY Y) {u m : Int} (R : RI x n L U V k h0 h) (hk : 0 ≤ k ∧ k ≤ 63) (hn : 2 ≤ n ∧ n ≤ 6) (hL : 0 ≤ L ∧ L ≤ k) (hV : ∀ u, 0 ≤ V u ∧ V u ≤ 20) (hU : ∀ u, U u = 0 → V u = 0) (hK : RK x n k h0 K (some (.inl (aPub h x n u m))) (qPub h x n u m)) : cw Y mi_X11_publish K 0 [some (.inr (.inr (some x))), some (.inl u), some (.inl m), none, none] [] h 0 0 := by
  have e0 := R.n0
  have a23 := R.1.r23 u
  have iu : m_isUser h x u = (0 ≤ u ∧ u < n) := by unfold m_isUser; rw [e0]
  unfold aPub qPub at hK
  refine c_X11_publish hY R.1.rS R.2 (by omega) (by omega) (by omega) R.1.r23 ?_ R.1.r12 (by omega) ?_ ?_ ?_ ?_
  · intro _
    have := m_oc_rg (f := cq_I h (x + 27)) (b := 61 * u) (r := (cq_I h (x + 23) u).toNat) (i := 1) (a := 0)
    unfold m_onceDir
    omega
  · rw [iu]
    intro q
    rw [if_neg q, if_neg q] at hK
    exact hK h L U V R.up (by omega) hV hU (eT.refl _ _)
  · rw [iu]
    intro q w
    rw [if_pos q, if_pos q, if_pos w, if_pos w] at hK
    exact hK h L U V R.up (by omega) hV hU (eT.refl _ _)
  · rw [iu]
    intro q w z
    rw [if_pos q, if_pos q, if_neg w, if_neg w, if_pos z, if_pos z] at hK
    exact hK h L U V R.up (by omega) hV hU (eT.refl _ _)
  · rw [iu]
    intro q w z g e t
    rw [if_pos q, if_pos q, if_neg w, if_neg w, if_neg z, if_neg z] at hK
    exact hK g L U V (RI.mk ((MI.pub m.toNat R.1 (by omega)).eT e) t (by omega) (by omega) (by omega) (by omega)) (by omega) hV hU e
theorem ya_forge (hY : cY Y) {u : Int} {a : Int64} (R : RI x n L U V k h0 h) (hn : 2 ≤ n ∧ n ≤ 6) (hL : 0 ≤ L ∧ L ≤ k) (hV : ∀ u, 0 ≤ V u ∧ V u ≤ 20) (hU : ∀ u, U u = 0 → V u = 0) (hK : RK x n k h0 K (some (.inl (aFrg h x n u a))) (qFrg h x n u a)) : cw Y mi_X11_forge K 0 [some (.inr (.inr (some x))), some (.inl u), some (.inr (.inl a)), none] [] h 0 0 := by
  have e0 := R.n0
  have iu : m_isUser h x u = (0 ≤ u ∧ u < n) := by unfold m_isUser; rw [e0]
  unfold aFrg qFrg at hK
  refine c_X11_forge hY R.1.rS (by omega) ?_ ?_
  · rw [iu]
    intro q
    rw [if_neg q, if_neg q] at hK
    exact hK h L U V R.up (by omega) hV hU (eT.refl _ _)
  · rw [iu]
    intro q
    rw [if_pos q, if_pos q] at hK
    exact hK _ L U V (RI.up ⟨R.1.sJ (by decide), TI.sJ R.2⟩) (by omega) hV hU (eT.refl _ _)
theorem ya_begin (hY : cY Y) {u v : Int} (R : RI x n L U V k h0 h) (hk : 0 ≤ k ∧ k ≤ 63) (hn : 2 ≤ n ∧ n ≤ 6) (hL : 0 ≤ L ∧ L ≤ k) (hV : ∀ u, 0 ≤ V u ∧ V u ≤ 20) (hU : ∀ u, U u = 0 → V u = 0) (h63 : cq_I h x 63 < 100) (hK : RK x n k h0 K (some (.inl (aBeg h x n u v))) (qBeg h x n u v)) : cw Y mi_X11_begin K 0 [some (.inr (.inr (some x))), some (.inl u), some (.inl v)] [] h 0 0 := by
  have e0 := R.n0
  have ip : m_isPair h x u v = ((0 ≤ u ∧ u < n) ∧ (0 ≤ v ∧ v < n) ∧ u ≠ v) := by unfold m_isPair m_isUser; rw [e0]
  unfold aBeg qBeg at hK
  refine c_X11_begin hY R.1.rS R.2 (by omega) (by omega) (by omega) R.1.r23 R.1.r30 R.1.r29 R.1.x63 R.1.r12 (by omega) ?_ ?_ (fun _ _ z => absurd z (by omega)) ?_ ?_
  · rw [ip]
    intro q
    rw [if_neg q, if_neg q] at hK
    exact hK h L U V R.up (by omega) hV hU (eT.refl _ _)
  · rw [ip]
    intro q w
    rw [if_pos q, if_pos q, if_pos w, if_pos w] at hK
    exact hK h L U V R.up (by omega) hV hU (eT.refl _ _)
  · rw [ip]
    intro q w _ z
    rw [if_pos q, if_pos q, if_neg w, if_neg w, if_neg z, if_neg z] at hK
    refine hK _ L U V (RI.up ⟨R.1.bn0, ?_⟩) (by omega) hV hU (eT.refl _ _)
    unfold m_bn0
    split
    · exact R.2
    · exact TI.sT R.2 (by decide) (fun q => absurd q (by decide))
  · rw [ip]
    intro q w y z g e t
    rw [if_pos q, if_pos q, if_neg w, if_neg w, if_pos z, if_pos z] at hK
    exact hK g L U V (RI.mk ((R.1.begin hk.1 (by omega) (by omega) y).eT e) t (by omega) (by omega) (by omega) (by omega)) (by omega) hV hU e
theorem ya_forget (hY : cY Y) {u v : Int} (R : RI x n L U V k h0 h) (hn : 2 ≤ n ∧ n ≤ 6) (hL : 0 ≤ L ∧ L ≤ k) (hV : ∀ u, 0 ≤ V u ∧ V u ≤ 20) (hU : ∀ u, U u = 0 → V u = 0) (hK : RK x n k h0 K (some (.inl (aFor h x n u v))) (qFor h x n u v)) : cw Y mi_X11_forget K 0 [some (.inr (.inr (some x))), some (.inl u), some (.inl v), none] [] h 0 0 := by
  have e0 := R.n0
  have ip : m_isPair h x u v = ((0 ≤ u ∧ u < n) ∧ (0 ≤ v ∧ v < n) ∧ u ≠ v) := by unfold m_isPair m_isUser; rw [e0]
  unfold aFor qFor at hK
  refine c_X11_forget hY R.1.rS (by omega) ?_ ?_
  · rw [ip]
    intro q
    rw [if_neg q, if_neg q] at hK
    exact hK h L U V R.up (by omega) hV hU (eT.refl _ _)
  · rw [ip]
    intro q
    rw [if_pos q, if_pos q] at hK
    exact hK _ L U V (RI.up ⟨MI.sI R.1 (o := 30) ⟨by decide, by decide⟩ (by decide) (by decide), TI.sT R.2 (by decide) (fun q => absurd q (by decide))⟩) (by omega) hV hU (eT.refl _ _)
theorem ya_end (hY : cY Y) {m : Int} (R : RI x n L U V k h0 h) (hL : 0 ≤ L ∧ L ≤ k) (hV : ∀ u, 0 ≤ V u ∧ V u ≤ 20) (hU : ∀ u, U u = 0 → V u = 0) (hK : RK x n k h0 K (some (.inl (aEnd h x m))) (qEnd h x m)) : cw Y mi_X11_end K 0 [some (.inr (.inr (some x))), some (.inl m)] [] h 0 0 := by
  have a68 := R.1.x68
  unfold aEnd qEnd at hK
  refine c_X11_end hY R.1.rS a68 (fun q => ?_) (fun q => ?_)
  · rw [if_neg (by omega), if_neg (by omega)] at hK
    exact hK h L U V R.up (by omega) hV hU (eT.refl _ _)
  · have q' : 0 ≤ m ∧ m ≤ 20 ∧ 20 ≤ cq_I h x 68 := by omega
    rw [if_pos q', if_pos q'] at hK
    refine hK _ L U V (RI.up ⟨?_, TI.sF R.2 (by decide) (by decide) (by decide)⟩) (by omega) hV hU (eT.refl _ _)
    refine MI.sx R.1 (j := 68) ?_ (by decide)
    exact ⟨by omega, by omega⟩
theorem ya_feed (hY : cY Y) {a b c d e : Int} (R : RI x n L U V k h0 h) (hL : 0 ≤ L ∧ L ≤ k) (hV : ∀ u, 0 ≤ V u ∧ V u ≤ 20) (hU : ∀ u, U u = 0 → V u = 0) (hK : RK x n k h0 K (some (.inl (aFd h x))) (qFd h x a b c d e)) : cw Y mi_X11_feed K 0 [some (.inr (.inr (some x))), some (.inl a), some (.inl b), some (.inl c), some (.inl d), some (.inl e), none, none] [] h 0 0 := by
  have a68 := R.1.x68
  unfold aFd qFd at hK
  refine c_X11_feed hY R.1.rS a68 (fun q => ?_) (fun q => ?_)
  · rw [if_pos q, if_pos q] at hK
    exact hK h L U V R.up (by omega) hV hU (eT.refl _ _)
  · rw [if_neg (by omega), if_neg (by omega)] at hK
    rw [(m_fd_q (x := x) (a := a) (b := b) (c := c) (d := d) (e := e) 20 (k := 0) (g := h)).1]
    exact hK _ L U V (RI.up ⟨MI.fd 20 R.1 (by omega), TI_fd 20 R.2⟩) (by omega) hV hU (eT.refl _ _)
theorem ya_spoil (hY : cY Y) {l p m : Int} (R : RI x n L U V k h0 h) (hL : 0 ≤ L ∧ L ≤ k) (hV : ∀ u, 0 ≤ V u ∧ V u ≤ 20) (hU : ∀ u, U u = 0 → V u = 0) (hK : RK x n k h0 K (some (.inl (aSpo h x l p m))) (qSpo h x l p m)) : cw Y mi_X11_spoil K 0 [some (.inr (.inr (some x))), some (.inl l), some (.inl p), some (.inl m)] [] h 0 0 := by
  unfold aSpo qSpo at hK
  refine c_X11_spoil hY R.1.rS R.1.x72.2 (fun l => (R.1.r63 l).2) (fun q => ?_) (fun q => ?_)
  · unfold m_isLetter at q
    rw [if_neg q, if_neg q] at hK
    exact hK h L U V R.up (by omega) hV hU (eT.refl _ _)
  · unfold m_isLetter at q
    rw [if_pos q, if_pos q] at hK
    exact hK _ L U V (RI.up ⟨MI.sI R.1 (o := 62) (xor8 (R.1.r62 _) ⟨by omega, by omega⟩) (by decide) (by decide), TI.sT R.2 (by decide) (fun q => absurd q (by decide))⟩) (by omega) hV hU (eT.refl _ _)
theorem ya_copy (hY : cY Y) {l : Int} (R : RI x n L U V k h0 h) (hk : 0 ≤ k ∧ k ≤ 63) (hL : 0 ≤ L ∧ L ≤ k) (hV : ∀ u, 0 ≤ V u ∧ V u ≤ 20) (hU : ∀ u, U u = 0 → V u = 0) (hK : RK x n k h0 K (some (.inl (aCop h x l))) (qCop h x l)) : cw Y mi_X11_copy K 0 [some (.inr (.inr (some x))), some (.inl l), none] [] h 0 0 := by
  have a73 := R.1.x73
  unfold aCop qCop at hK
  refine c_X11_copy hY R.1.rS R.2 R.1.x72 (by omega) R.1.r63 (fun q => ?_) (fun q w => ?_) (fun q w g e t => ?_)
  · unfold m_isLetter at q
    rw [if_neg q, if_neg q] at hK
    exact hK h L U V R.up (by omega) hV hU (eT.refl _ _)
  · unfold m_isLetter at q
    rw [if_pos q, if_pos q, if_pos w, if_pos w] at hK
    exact hK h L U V R.up (by omega) hV hU (eT.refl _ _)
  · unfold m_isLetter at q
    rw [if_pos q, if_pos q, if_neg w, if_neg w] at hK
    exact hK g L U V (RI.mk ((R.1.copy w).eT e) t (by omega) (by omega) (by omega) (by omega)) (by omega) hV hU e
theorem ya_look (hY : cY Y) {u : Int} (R : RI x n L U V k h0 h) (hn : 2 ≤ n ∧ n ≤ 6) (hk : 0 ≤ k ∧ k ≤ 63) (hL : 0 ≤ L ∧ L ≤ k) (hV : ∀ u, 0 ≤ V u ∧ V u ≤ 20) (hU : ∀ u, U u = 0 → V u = 0) (hK : RK x n k h0 K (some (.inl (aLok h x n u))) (qLok h x n u)) : cw Y mi_X11_look K 0 [some (.inr (.inr (some x))), some (.inl u), none, none, none] [] h 0 0 := by
  have e0 := R.n0
  have e16 := R.e16
  have e86 := R.e86
  have iu : m_isUser h x u = (0 ≤ u ∧ u < n) := by unfold m_isUser; rw [e0]
  unfold aLok qLok at hK
  refine c_X11_look hY R.1.rS R.2 (by omega) (by omega) (by rw [e16]; exact hV) R.1.r23 R.1.r30 R.1.r29 R.1.r53 ?_ ?_
  · rw [iu]
    intro q
    rw [if_neg q, if_neg q] at hK
    exact hK h L U V R.up (by omega) hV hU (eT.refl _ _)
  · rw [iu]
    intro q g e t
    rw [if_pos q, if_pos q] at hK
    exact hK g (cq_I h x 86 + 1) U V (RI.up ⟨R.1.s86.eT e, t⟩) (by omega) hV hU e
theorem ya_write (hY : cY Y) {u v : Int} (R : RI x n L U V k h0 h) (hk : 0 ≤ k ∧ k ≤ 63) (hn : 2 ≤ n ∧ n ≤ 6) (hL : 0 ≤ L ∧ L ≤ k) (hV : ∀ u, 0 ≤ V u ∧ V u ≤ 20) (hU : ∀ u, U u = 0 → V u = 0) (h63 : cq_I h x 63 < 100) (tb : ∀ i, 0 ≤ i → i < cq_I h x 68 → 0 ≤ cq_I h (x + 61) i ∧ cq_I h (x + 61) i ≤ 255) (hK : ∀ h', RI x n L U V (k + 1) h0 h' → rWr h x n u v h' → K (some (.inl (aWr h x n u v))) h') : cw Y mi_X11_write K 0 [some (.inr (.inr (some x))), some (.inl u), some (.inl v), none, none, none, none, none, none, none] [] h 0 0 := by
  unfold aWr at hK
  refine v_X11_write hY R.1 R.2 (by omega) (by omega) (by omega) (by omega) hn h63 tb (fun q => ?_) (fun q w => ?_) (fun q w z => ?_) (fun q w z r s M t => ?_) (fun q w z r s g h' e M t W => ?_) (fun q w z r h' M t W => ?_)
  · rw [if_neg q] at hK
    exact hK h R.up ⟨fun y => absurd ⟨y.1, y.2.1⟩ q, fun _ => eT.refl _ _⟩
  · rw [if_pos q, if_pos w] at hK
    exact hK h R.up ⟨fun y => absurd w y.2.2.1, fun _ => eT.refl _ _⟩
  · rw [if_pos q, if_neg w, if_pos z] at hK
    exact hK h R.up ⟨fun y => absurd z y.2.2.2, fun _ => eT.refl _ _⟩
  · have r' : cq_I h (x + 30) (6 * u + v) = 0 ∧ ¬ m_seal h x v := ⟨r, s⟩
    rw [if_pos q, if_neg w, if_neg z, if_pos r'] at hK
    exact hK _ (RI.mk M t (by omega) (by omega) (by omega) (by omega)) ⟨fun _ => ⟨fun _ => ⟨fun _ => eT.refl _ _, fun y => absurd y s⟩, fun y => absurd r y⟩, fun y => absurd ⟨q.1, q.2, w, z⟩ y⟩
  · have r' : ¬ (cq_I h (x + 30) (6 * u + v) = 0 ∧ ¬ m_seal h x v) := fun y => y.2 s
    rw [if_pos q, if_neg w, if_neg z, if_neg r'] at hK
    exact hK _ (RI.mk M t (by omega) (by omega) (by omega) (by omega)) ⟨fun _ => ⟨fun _ => ⟨fun y => absurd s y, fun _ => ⟨g, e, W⟩⟩, fun y => absurd r y⟩, fun y => absurd ⟨q.1, q.2, w, z⟩ y⟩
  · have r' : ¬ (cq_I h (x + 30) (6 * u + v) = 0 ∧ ¬ m_seal h x v) := fun y => r y.1
    rw [if_pos q, if_neg w, if_neg z, if_neg r'] at hK
    exact hK _ (RI.mk M t (by omega) (by omega) (by omega) (by omega)) ⟨fun _ => ⟨fun y => absurd y r, fun _ => W⟩, fun y => absurd ⟨q.1, q.2, w, z⟩ y⟩
end
/-! the reference: a letter comes, by its functions -/
section
variable {x : Nat} {n L Q D k : Int} {U V : Int → Int} {h0 h : cx_Q}
theorem come_e {Y : cx_Y} (hY : cY Y) {K : Option cx_V → cx_Q → Prop} {l u a c4 : Int} {o3 : Option cx_V} (hS : rS h x) (a84 : 0 ≤ cq_I h x 84 ∧ cq_I h x 84 ≤ 400) (h84 : cq_I h x 84 ≠ 400) (ha : -2147483000 ≤ a ∧ a ≤ 100)
    (hA : a ≠ 0 → ∀ m, K (some (.inl m)) (cq_sI h x 84 (cq_I h x 84 + 0))) (hB : a = 0 → ∀ m, K (some (.inl m)) (cq_sI h x 84 (cq_I h x 84 + 1))) : cw Y mi_X11_come K 108 [some (.inr (.inr (some x))), some (.inl l), some (.inl u), o3, some (.inl c4), none] [.inl a] h 0 0 := by
  have j125 : ∀ b : Int, 0 ≤ b → b ≤ 1 → (∀ m, K (some (.inl m)) (cq_sI h x 84 (cq_I h x 84 + b))) → cw Y mi_X11_come K 125 [some (.inr (.inr (some x))), some (.inl l), some (.inl u), o3, some (.inl c4), some (.inl a)] [.inl b, .inl (cq_I h x 84), .inr (.inr (some x))] h 0 0 := by
    intro b b1 b2 q
    have hS2 : cq_s (cq_sI h x 84 (cq_I h x 84 + b)) x = 10 := hS.1
    refine bx_X11_come_125 hY (pf1_ok hY) ?_
    simp only [wp_iconst, wp_bipush, wp_sipush, wp_ldc, wp_ldc2_w, wp_lconst0, wp_lconst1, wp_aconst_null, wp_iload_0, wp_istore_0, wp_iload_1, wp_istore_1, wp_iload_2, wp_istore_2, wp_iload_3, wp_istore_3, wp_iload, wp_istore, wp_lload_0, wp_lstore_0, wp_lload_1, wp_lstore_1, wp_lload_2, wp_lstore_2, wp_lload_3, wp_lstore_3, wp_lload, wp_lstore, wp_aload_0, wp_astore_0, wp_aload_1, wp_astore_1, wp_aload_2, wp_astore_2, wp_aload_3, wp_astore_3, wp_aload, wp_astore, wp_iinc, wp_iadd, wp_isub, wp_imul, wp_iand, wp_ior, wp_ixor, wp_ishl, wp_ishr, wp_iushr, wp_irem, wp_ladd, wp_lsub, wp_lmul, wp_land, wp_lor, wp_lxor, wp_lshl, wp_lshr, wp_lushr, wp_lrem, wp_lcmp, wp_i2l, wp_l2i, wp_dupI, wp_dupA, wp_dup2J, wp_dup2IA, wp_popI, wp_popA, wp_pop2, wp_goto, wp_if_eq, wp_icmp_eq, wp_if_ne, wp_icmp_ne, wp_if_lt, wp_icmp_lt, wp_if_ge, wp_icmp_ge, wp_if_gt, wp_icmp_gt, wp_if_le, wp_icmp_le, wp_ifnull, wp_ifnonnull, wp_acmp_eq, wp_acmp_ne, wp_tableswitch, wp_get0, wp_put0, wp_get1, wp_put1, wp_get2, wp_put2, wp_get3, wp_put3, wp_new, wp_newarray, wp_anewarray, wp_alen, wp_iaload, wp_laload, wp_baload, wp_aaload, wp_iastore, wp_lastore, wp_bastore, wp_aastore, wp_return, wp_ireturnI, wp_ireturnZ, wp_lreturn, wp_areturnO, wp_areturnA, wp_max, wp_min, wp_obj, wp_virt, wp_nil, ld_I0, ld_Is, ld_J0, ld_Js, ld_A0, ld_As, ha_0, ha_s, cx_put1, cx_put2, cx_dl, cx_tgt, true_and, and_true, Nat.reduceAdd, Nat.reduceSub, Int.reduceAdd, Int.reduceNeg, Int.reduceToNat, Int.reduceSub, Int.cast_ofNat_Int, List.take_succ_cons, List.take_zero, List.drop_succ_cons, List.drop_zero, List.take_nil, List.drop_nil, Option.toList_some, Option.toList_none, List.cons_append, List.nil_append, wp_spec, ne_eq, Nat.reduceEqDiff, not_false_eq_true, true_or, or_true, hS.1, hS2, cx_rg]
    refine ⟨by omega, fun _ => ?_, fun _ => ?_⟩
    · refine bx_X11_come_141 hY (pf1_ok hY) ?_
      simp only [wp_iconst, wp_bipush, wp_sipush, wp_ldc, wp_ldc2_w, wp_lconst0, wp_lconst1, wp_aconst_null, wp_iload_0, wp_istore_0, wp_iload_1, wp_istore_1, wp_iload_2, wp_istore_2, wp_iload_3, wp_istore_3, wp_iload, wp_istore, wp_lload_0, wp_lstore_0, wp_lload_1, wp_lstore_1, wp_lload_2, wp_lstore_2, wp_lload_3, wp_lstore_3, wp_lload, wp_lstore, wp_aload_0, wp_astore_0, wp_aload_1, wp_astore_1, wp_aload_2, wp_astore_2, wp_aload_3, wp_astore_3, wp_aload, wp_astore, wp_iinc, wp_iadd, wp_isub, wp_imul, wp_iand, wp_ior, wp_ixor, wp_ishl, wp_ishr, wp_iushr, wp_irem, wp_ladd, wp_lsub, wp_lmul, wp_land, wp_lor, wp_lxor, wp_lshl, wp_lshr, wp_lushr, wp_lrem, wp_lcmp, wp_i2l, wp_l2i, wp_dupI, wp_dupA, wp_dup2J, wp_dup2IA, wp_popI, wp_popA, wp_pop2, wp_goto, wp_if_eq, wp_icmp_eq, wp_if_ne, wp_icmp_ne, wp_if_lt, wp_icmp_lt, wp_if_ge, wp_icmp_ge, wp_if_gt, wp_icmp_gt, wp_if_le, wp_icmp_le, wp_ifnull, wp_ifnonnull, wp_acmp_eq, wp_acmp_ne, wp_tableswitch, wp_get0, wp_put0, wp_get1, wp_put1, wp_get2, wp_put2, wp_get3, wp_put3, wp_new, wp_newarray, wp_anewarray, wp_alen, wp_iaload, wp_laload, wp_baload, wp_aaload, wp_iastore, wp_lastore, wp_bastore, wp_aastore, wp_return, wp_ireturnI, wp_ireturnZ, wp_lreturn, wp_areturnO, wp_areturnA, wp_max, wp_min, wp_obj, wp_virt, wp_nil, ld_I0, ld_Is, ld_J0, ld_Js, ld_A0, ld_As, ha_0, ha_s, cx_put1, cx_put2, cx_dl, cx_tgt, true_and, and_true, Nat.reduceAdd, Nat.reduceSub, Int.reduceAdd, Int.reduceNeg, Int.reduceToNat, Int.reduceSub, Int.cast_ofNat_Int, List.take_succ_cons, List.take_zero, List.drop_succ_cons, List.drop_zero, List.take_nil, List.drop_nil, Option.toList_some, Option.toList_none, List.cons_append, List.nil_append, wp_spec, ne_eq, Nat.reduceEqDiff, not_false_eq_true, true_or, or_true, cx_rg]
      refine ⟨by omega, ?_⟩
      refine bx_X11_come_146 hY (pf1_ok hY) ?_
      simp only [wp_iconst, wp_bipush, wp_sipush, wp_ldc, wp_ldc2_w, wp_lconst0, wp_lconst1, wp_aconst_null, wp_iload_0, wp_istore_0, wp_iload_1, wp_istore_1, wp_iload_2, wp_istore_2, wp_iload_3, wp_istore_3, wp_iload, wp_istore, wp_lload_0, wp_lstore_0, wp_lload_1, wp_lstore_1, wp_lload_2, wp_lstore_2, wp_lload_3, wp_lstore_3, wp_lload, wp_lstore, wp_aload_0, wp_astore_0, wp_aload_1, wp_astore_1, wp_aload_2, wp_astore_2, wp_aload_3, wp_astore_3, wp_aload, wp_astore, wp_iinc, wp_iadd, wp_isub, wp_imul, wp_iand, wp_ior, wp_ixor, wp_ishl, wp_ishr, wp_iushr, wp_irem, wp_ladd, wp_lsub, wp_lmul, wp_land, wp_lor, wp_lxor, wp_lshl, wp_lshr, wp_lushr, wp_lrem, wp_lcmp, wp_i2l, wp_l2i, wp_dupI, wp_dupA, wp_dup2J, wp_dup2IA, wp_popI, wp_popA, wp_pop2, wp_goto, wp_if_eq, wp_icmp_eq, wp_if_ne, wp_icmp_ne, wp_if_lt, wp_icmp_lt, wp_if_ge, wp_icmp_ge, wp_if_gt, wp_icmp_gt, wp_if_le, wp_icmp_le, wp_ifnull, wp_ifnonnull, wp_acmp_eq, wp_acmp_ne, wp_tableswitch, wp_get0, wp_put0, wp_get1, wp_put1, wp_get2, wp_put2, wp_get3, wp_put3, wp_new, wp_newarray, wp_anewarray, wp_alen, wp_iaload, wp_laload, wp_baload, wp_aaload, wp_iastore, wp_lastore, wp_bastore, wp_aastore, wp_return, wp_ireturnI, wp_ireturnZ, wp_lreturn, wp_areturnO, wp_areturnA, wp_max, wp_min, wp_obj, wp_virt, wp_nil, ld_I0, ld_Is, ld_J0, ld_Js, ld_A0, ld_As, ha_0, ha_s, cx_put1, cx_put2, cx_dl, cx_tgt, true_and, and_true, Nat.reduceAdd, Nat.reduceSub, Int.reduceAdd, Int.reduceNeg, Int.reduceToNat, Int.reduceSub, Int.cast_ofNat_Int, List.take_succ_cons, List.take_zero, List.drop_succ_cons, List.drop_zero, List.take_nil, List.drop_nil, Option.toList_some, Option.toList_none, List.cons_append, List.nil_append, wp_spec, ne_eq, Nat.reduceEqDiff, not_false_eq_true, true_or, or_true]
      exact q _
    · refine bx_X11_come_146 hY (pf1_ok hY) ?_
      simp only [wp_iconst, wp_bipush, wp_sipush, wp_ldc, wp_ldc2_w, wp_lconst0, wp_lconst1, wp_aconst_null, wp_iload_0, wp_istore_0, wp_iload_1, wp_istore_1, wp_iload_2, wp_istore_2, wp_iload_3, wp_istore_3, wp_iload, wp_istore, wp_lload_0, wp_lstore_0, wp_lload_1, wp_lstore_1, wp_lload_2, wp_lstore_2, wp_lload_3, wp_lstore_3, wp_lload, wp_lstore, wp_aload_0, wp_astore_0, wp_aload_1, wp_astore_1, wp_aload_2, wp_astore_2, wp_aload_3, wp_astore_3, wp_aload, wp_astore, wp_iinc, wp_iadd, wp_isub, wp_imul, wp_iand, wp_ior, wp_ixor, wp_ishl, wp_ishr, wp_iushr, wp_irem, wp_ladd, wp_lsub, wp_lmul, wp_land, wp_lor, wp_lxor, wp_lshl, wp_lshr, wp_lushr, wp_lrem, wp_lcmp, wp_i2l, wp_l2i, wp_dupI, wp_dupA, wp_dup2J, wp_dup2IA, wp_popI, wp_popA, wp_pop2, wp_goto, wp_if_eq, wp_icmp_eq, wp_if_ne, wp_icmp_ne, wp_if_lt, wp_icmp_lt, wp_if_ge, wp_icmp_ge, wp_if_gt, wp_icmp_gt, wp_if_le, wp_icmp_le, wp_ifnull, wp_ifnonnull, wp_acmp_eq, wp_acmp_ne, wp_tableswitch, wp_get0, wp_put0, wp_get1, wp_put1, wp_get2, wp_put2, wp_get3, wp_put3, wp_new, wp_newarray, wp_anewarray, wp_alen, wp_iaload, wp_laload, wp_baload, wp_aaload, wp_iastore, wp_lastore, wp_bastore, wp_aastore, wp_return, wp_ireturnI, wp_ireturnZ, wp_lreturn, wp_areturnO, wp_areturnA, wp_max, wp_min, wp_obj, wp_virt, wp_nil, ld_I0, ld_Is, ld_J0, ld_Js, ld_A0, ld_As, ha_0, ha_s, cx_put1, cx_put2, cx_dl, cx_tgt, true_and, and_true, Nat.reduceAdd, Nat.reduceSub, Int.reduceAdd, Int.reduceNeg, Int.reduceToNat, Int.reduceSub, Int.cast_ofNat_Int, List.take_succ_cons, List.take_zero, List.drop_succ_cons, List.drop_zero, List.take_nil, List.drop_nil, Option.toList_some, Option.toList_none, List.cons_append, List.nil_append, wp_spec, ne_eq, Nat.reduceEqDiff, not_false_eq_true, true_or, or_true]
      exact q _
  refine bx_X11_come_108 hY (pf1_ok hY) ?_
  simp only [wp_iconst, wp_bipush, wp_sipush, wp_ldc, wp_ldc2_w, wp_lconst0, wp_lconst1, wp_aconst_null, wp_iload_0, wp_istore_0, wp_iload_1, wp_istore_1, wp_iload_2, wp_istore_2, wp_iload_3, wp_istore_3, wp_iload, wp_istore, wp_lload_0, wp_lstore_0, wp_lload_1, wp_lstore_1, wp_lload_2, wp_lstore_2, wp_lload_3, wp_lstore_3, wp_lload, wp_lstore, wp_aload_0, wp_astore_0, wp_aload_1, wp_astore_1, wp_aload_2, wp_astore_2, wp_aload_3, wp_astore_3, wp_aload, wp_astore, wp_iinc, wp_iadd, wp_isub, wp_imul, wp_iand, wp_ior, wp_ixor, wp_ishl, wp_ishr, wp_iushr, wp_irem, wp_ladd, wp_lsub, wp_lmul, wp_land, wp_lor, wp_lxor, wp_lshl, wp_lshr, wp_lushr, wp_lrem, wp_lcmp, wp_i2l, wp_l2i, wp_dupI, wp_dupA, wp_dup2J, wp_dup2IA, wp_popI, wp_popA, wp_pop2, wp_goto, wp_if_eq, wp_icmp_eq, wp_if_ne, wp_icmp_ne, wp_if_lt, wp_icmp_lt, wp_if_ge, wp_icmp_ge, wp_if_gt, wp_icmp_gt, wp_if_le, wp_icmp_le, wp_ifnull, wp_ifnonnull, wp_acmp_eq, wp_acmp_ne, wp_tableswitch, wp_get0, wp_put0, wp_get1, wp_put1, wp_get2, wp_put2, wp_get3, wp_put3, wp_new, wp_newarray, wp_anewarray, wp_alen, wp_iaload, wp_laload, wp_baload, wp_aaload, wp_iastore, wp_lastore, wp_bastore, wp_aastore, wp_return, wp_ireturnI, wp_ireturnZ, wp_lreturn, wp_areturnO, wp_areturnA, wp_max, wp_min, wp_obj, wp_virt, wp_nil, ld_I0, ld_Is, ld_J0, ld_Js, ld_A0, ld_As, ha_0, ha_s, cx_put1, cx_put2, cx_dl, cx_tgt, true_and, and_true, Nat.reduceAdd, Nat.reduceSub, Int.reduceAdd, Int.reduceNeg, Int.reduceToNat, Int.reduceSub, Int.cast_ofNat_Int, List.take_succ_cons, List.take_zero, List.drop_succ_cons, List.drop_zero, List.take_nil, List.drop_nil, Option.toList_some, Option.toList_none, List.cons_append, List.nil_append, wp_spec, ne_eq, Nat.reduceEqDiff, not_false_eq_true, true_or, or_true, hS.1]
  refine ⟨fun q => ?_, fun q => ?_⟩
  · refine bx_X11_come_124 hY (pf1_ok hY) ?_
    simp only [wp_iconst, wp_bipush, wp_sipush, wp_ldc, wp_ldc2_w, wp_lconst0, wp_lconst1, wp_aconst_null, wp_iload_0, wp_istore_0, wp_iload_1, wp_istore_1, wp_iload_2, wp_istore_2, wp_iload_3, wp_istore_3, wp_iload, wp_istore, wp_lload_0, wp_lstore_0, wp_lload_1, wp_lstore_1, wp_lload_2, wp_lstore_2, wp_lload_3, wp_lstore_3, wp_lload, wp_lstore, wp_aload_0, wp_astore_0, wp_aload_1, wp_astore_1, wp_aload_2, wp_astore_2, wp_aload_3, wp_astore_3, wp_aload, wp_astore, wp_iinc, wp_iadd, wp_isub, wp_imul, wp_iand, wp_ior, wp_ixor, wp_ishl, wp_ishr, wp_iushr, wp_irem, wp_ladd, wp_lsub, wp_lmul, wp_land, wp_lor, wp_lxor, wp_lshl, wp_lshr, wp_lushr, wp_lrem, wp_lcmp, wp_i2l, wp_l2i, wp_dupI, wp_dupA, wp_dup2J, wp_dup2IA, wp_popI, wp_popA, wp_pop2, wp_goto, wp_if_eq, wp_icmp_eq, wp_if_ne, wp_icmp_ne, wp_if_lt, wp_icmp_lt, wp_if_ge, wp_icmp_ge, wp_if_gt, wp_icmp_gt, wp_if_le, wp_icmp_le, wp_ifnull, wp_ifnonnull, wp_acmp_eq, wp_acmp_ne, wp_tableswitch, wp_get0, wp_put0, wp_get1, wp_put1, wp_get2, wp_put2, wp_get3, wp_put3, wp_new, wp_newarray, wp_anewarray, wp_alen, wp_iaload, wp_laload, wp_baload, wp_aaload, wp_iastore, wp_lastore, wp_bastore, wp_aastore, wp_return, wp_ireturnI, wp_ireturnZ, wp_lreturn, wp_areturnO, wp_areturnA, wp_max, wp_min, wp_obj, wp_virt, wp_nil, ld_I0, ld_Is, ld_J0, ld_Js, ld_A0, ld_As, ha_0, ha_s, cx_put1, cx_put2, cx_dl, cx_tgt, true_and, and_true, Nat.reduceAdd, Nat.reduceSub, Int.reduceAdd, Int.reduceNeg, Int.reduceToNat, Int.reduceSub, Int.cast_ofNat_Int, List.take_succ_cons, List.take_zero, List.drop_succ_cons, List.drop_zero, List.take_nil, List.drop_nil, Option.toList_some, Option.toList_none, List.cons_append, List.nil_append, wp_spec, ne_eq, Nat.reduceEqDiff, not_false_eq_true, true_or, or_true]
    exact j125 0 (by decide) (by decide) (hA q)
  · exact j125 1 (by decide) (by decide) (hB (Classical.not_not.mp q))
theorem ya_come {Y : cx_Y} (hY : cY Y) {K : Option cx_V → cx_Q → Prop} {l u : Int} (R : RI x n L U V k h0 h) (hk : 0 ≤ k ∧ k ≤ 63) (hn : 2 ≤ n ∧ n ≤ 6) (hV : ∀ u, 0 ≤ V u ∧ V u ≤ 20)
    (hF : ¬ CO h x n l u → ∀ a g h', eL x h g → eT x g h' → RI x n L U V (k + 1) h0 h' → K (some (.inl a)) h')
    (hK : CO h x n l u → ∀ a h', eT x (CMQ h x l u) h' → RI x n L U V (k + 1) h0 h' → K (some (.inl a)) h') : cw Y mi_X11_come K 0 [some (.inr (.inr (some x))), some (.inl l), some (.inl u), none, none, none] [] h 0 0 := by
  have M := R.1
  have hT := R.2
  have hS := M.rS
  have e0 : cq_I h x 0 = n := M.2.2.2.2.2.2.1
  have e16 : cq_I h (x + 16) = V := M.2.2.2.2.2.1
  have a72 := M.x72
  refine bx_X11_come_0 hY (pf1_ok hY) ?_
  simp only [wp_iconst, wp_bipush, wp_sipush, wp_ldc, wp_ldc2_w, wp_lconst0, wp_lconst1, wp_aconst_null, wp_iload_0, wp_istore_0, wp_iload_1, wp_istore_1, wp_iload_2, wp_istore_2, wp_iload_3, wp_istore_3, wp_iload, wp_istore, wp_lload_0, wp_lstore_0, wp_lload_1, wp_lstore_1, wp_lload_2, wp_lstore_2, wp_lload_3, wp_lstore_3, wp_lload, wp_lstore, wp_aload_0, wp_astore_0, wp_aload_1, wp_astore_1, wp_aload_2, wp_astore_2, wp_aload_3, wp_astore_3, wp_aload, wp_astore, wp_iinc, wp_iadd, wp_isub, wp_imul, wp_iand, wp_ior, wp_ixor, wp_ishl, wp_ishr, wp_iushr, wp_irem, wp_ladd, wp_lsub, wp_lmul, wp_land, wp_lor, wp_lxor, wp_lshl, wp_lshr, wp_lushr, wp_lrem, wp_lcmp, wp_i2l, wp_l2i, wp_dupI, wp_dupA, wp_dup2J, wp_dup2IA, wp_popI, wp_popA, wp_pop2, wp_goto, wp_if_eq, wp_icmp_eq, wp_if_ne, wp_icmp_ne, wp_if_lt, wp_icmp_lt, wp_if_ge, wp_icmp_ge, wp_if_gt, wp_icmp_gt, wp_if_le, wp_icmp_le, wp_ifnull, wp_ifnonnull, wp_acmp_eq, wp_acmp_ne, wp_tableswitch, wp_get0, wp_put0, wp_get1, wp_put1, wp_get2, wp_put2, wp_get3, wp_put3, wp_new, wp_newarray, wp_anewarray, wp_alen, wp_iaload, wp_laload, wp_baload, wp_aaload, wp_iastore, wp_lastore, wp_bastore, wp_aastore, wp_return, wp_ireturnI, wp_ireturnZ, wp_lreturn, wp_areturnO, wp_areturnA, wp_max, wp_min, wp_obj, wp_virt, wp_nil, ld_I0, ld_Is, ld_J0, ld_Js, ld_A0, ld_As, ha_0, ha_s, cx_put1, cx_put2, cx_dl, cx_tgt, true_and, and_true, Nat.reduceAdd, Nat.reduceSub, Int.reduceAdd, Int.reduceNeg, Int.reduceToNat, Int.reduceSub, Int.cast_ofNat_Int, List.take_succ_cons, List.take_zero, List.drop_succ_cons, List.drop_zero, List.take_nil, List.drop_nil, Option.toList_some, Option.toList_none, List.cons_append, List.nil_append, wp_spec, ne_eq, Nat.reduceEqDiff, not_false_eq_true, true_or, or_true]
  refine cl_X11_isThere (Nat.le_of_ble_eq_true rfl) hS.1 (Nat.le_refl _) (Nat.le_refl _) (c_X11_isThere hY hS ?_)
  have j16 : ¬ CO h x n l u → cw Y mi_X11_come K 16 [some (.inr (.inr (some x))), some (.inl l), some (.inl u), none, none, none] [] h 0 0 := by
    intro no
    refine bx_X11_come_16 hY (pf1_ok hY) ?_
    simp only [wp_iconst, wp_bipush, wp_sipush, wp_ldc, wp_ldc2_w, wp_lconst0, wp_lconst1, wp_aconst_null, wp_iload_0, wp_istore_0, wp_iload_1, wp_istore_1, wp_iload_2, wp_istore_2, wp_iload_3, wp_istore_3, wp_iload, wp_istore, wp_lload_0, wp_lstore_0, wp_lload_1, wp_lstore_1, wp_lload_2, wp_lstore_2, wp_lload_3, wp_lstore_3, wp_lload, wp_lstore, wp_aload_0, wp_astore_0, wp_aload_1, wp_astore_1, wp_aload_2, wp_astore_2, wp_aload_3, wp_astore_3, wp_aload, wp_astore, wp_iinc, wp_iadd, wp_isub, wp_imul, wp_iand, wp_ior, wp_ixor, wp_ishl, wp_ishr, wp_iushr, wp_irem, wp_ladd, wp_lsub, wp_lmul, wp_land, wp_lor, wp_lxor, wp_lshl, wp_lshr, wp_lushr, wp_lrem, wp_lcmp, wp_i2l, wp_l2i, wp_dupI, wp_dupA, wp_dup2J, wp_dup2IA, wp_popI, wp_popA, wp_pop2, wp_goto, wp_if_eq, wp_icmp_eq, wp_if_ne, wp_icmp_ne, wp_if_lt, wp_icmp_lt, wp_if_ge, wp_icmp_ge, wp_if_gt, wp_icmp_gt, wp_if_le, wp_icmp_le, wp_ifnull, wp_ifnonnull, wp_acmp_eq, wp_acmp_ne, wp_tableswitch, wp_get0, wp_put0, wp_get1, wp_put1, wp_get2, wp_put2, wp_get3, wp_put3, wp_new, wp_newarray, wp_anewarray, wp_alen, wp_iaload, wp_laload, wp_baload, wp_aaload, wp_iastore, wp_lastore, wp_bastore, wp_aastore, wp_return, wp_ireturnI, wp_ireturnZ, wp_lreturn, wp_areturnO, wp_areturnA, wp_max, wp_min, wp_obj, wp_virt, wp_nil, ld_I0, ld_Is, ld_J0, ld_Js, ld_A0, ld_As, ha_0, ha_s, cx_put1, cx_put2, cx_dl, cx_tgt, true_and, and_true, Nat.reduceAdd, Nat.reduceSub, Int.reduceAdd, Int.reduceNeg, Int.reduceToNat, Int.reduceSub, Int.cast_ofNat_Int, List.take_succ_cons, List.take_zero, List.drop_succ_cons, List.drop_zero, List.take_nil, List.drop_nil, Option.toList_some, Option.toList_none, List.cons_append, List.nil_append, wp_spec, ne_eq, Nat.reduceEqDiff, not_false_eq_true, true_or, or_true]
    exact hF no _ h h (eL.refl x h) (eT.refl _ _) R.up
  refine bx_X11_come_5 hY (pf1_ok hY) ?_
  simp only [wp_iconst, wp_bipush, wp_sipush, wp_ldc, wp_ldc2_w, wp_lconst0, wp_lconst1, wp_aconst_null, wp_iload_0, wp_istore_0, wp_iload_1, wp_istore_1, wp_iload_2, wp_istore_2, wp_iload_3, wp_istore_3, wp_iload, wp_istore, wp_lload_0, wp_lstore_0, wp_lload_1, wp_lstore_1, wp_lload_2, wp_lstore_2, wp_lload_3, wp_lstore_3, wp_lload, wp_lstore, wp_aload_0, wp_astore_0, wp_aload_1, wp_astore_1, wp_aload_2, wp_astore_2, wp_aload_3, wp_astore_3, wp_aload, wp_astore, wp_iinc, wp_iadd, wp_isub, wp_imul, wp_iand, wp_ior, wp_ixor, wp_ishl, wp_ishr, wp_iushr, wp_irem, wp_ladd, wp_lsub, wp_lmul, wp_land, wp_lor, wp_lxor, wp_lshl, wp_lshr, wp_lushr, wp_lrem, wp_lcmp, wp_i2l, wp_l2i, wp_dupI, wp_dupA, wp_dup2J, wp_dup2IA, wp_popI, wp_popA, wp_pop2, wp_goto, wp_if_eq, wp_icmp_eq, wp_if_ne, wp_icmp_ne, wp_if_lt, wp_icmp_lt, wp_if_ge, wp_icmp_ge, wp_if_gt, wp_icmp_gt, wp_if_le, wp_icmp_le, wp_ifnull, wp_ifnonnull, wp_acmp_eq, wp_acmp_ne, wp_tableswitch, wp_get0, wp_put0, wp_get1, wp_put1, wp_get2, wp_put2, wp_get3, wp_put3, wp_new, wp_newarray, wp_anewarray, wp_alen, wp_iaload, wp_laload, wp_baload, wp_aaload, wp_iastore, wp_lastore, wp_bastore, wp_aastore, wp_return, wp_ireturnI, wp_ireturnZ, wp_lreturn, wp_areturnO, wp_areturnA, wp_max, wp_min, wp_obj, wp_virt, wp_nil, ld_I0, ld_Is, ld_J0, ld_Js, ld_A0, ld_As, ha_0, ha_s, cx_put1, cx_put2, cx_dl, cx_tgt, true_and, and_true, Nat.reduceAdd, Nat.reduceSub, Int.reduceAdd, Int.reduceNeg, Int.reduceToNat, Int.reduceSub, Int.cast_ofNat_Int, List.take_succ_cons, List.take_zero, List.drop_succ_cons, List.drop_zero, List.take_nil, List.drop_nil, Option.toList_some, Option.toList_none, List.cons_append, List.nil_append, wp_spec, ne_eq, Nat.reduceEqDiff, not_false_eq_true, true_or, or_true, ifu, Classical.not_not]
  refine ⟨fun q => j16 (fun z => q (by show 0 ≤ u ∧ u < cq_I h x 0; rw [e0]; exact z.1)), fun hu => ?_⟩
  have hu : 0 ≤ u ∧ u < cq_I h x 0 := hu
  rw [e0] at hu
  refine cl_X11_isLetter (Nat.le_of_ble_eq_true rfl) hS.1 (Nat.le_refl _) (Nat.le_refl _) (c_X11_isLetter hY hS ?_)
  refine bx_X11_come_13 hY (pf1_ok hY) ?_
  simp only [wp_iconst, wp_bipush, wp_sipush, wp_ldc, wp_ldc2_w, wp_lconst0, wp_lconst1, wp_aconst_null, wp_iload_0, wp_istore_0, wp_iload_1, wp_istore_1, wp_iload_2, wp_istore_2, wp_iload_3, wp_istore_3, wp_iload, wp_istore, wp_lload_0, wp_lstore_0, wp_lload_1, wp_lstore_1, wp_lload_2, wp_lstore_2, wp_lload_3, wp_lstore_3, wp_lload, wp_lstore, wp_aload_0, wp_astore_0, wp_aload_1, wp_astore_1, wp_aload_2, wp_astore_2, wp_aload_3, wp_astore_3, wp_aload, wp_astore, wp_iinc, wp_iadd, wp_isub, wp_imul, wp_iand, wp_ior, wp_ixor, wp_ishl, wp_ishr, wp_iushr, wp_irem, wp_ladd, wp_lsub, wp_lmul, wp_land, wp_lor, wp_lxor, wp_lshl, wp_lshr, wp_lushr, wp_lrem, wp_lcmp, wp_i2l, wp_l2i, wp_dupI, wp_dupA, wp_dup2J, wp_dup2IA, wp_popI, wp_popA, wp_pop2, wp_goto, wp_if_eq, wp_icmp_eq, wp_if_ne, wp_icmp_ne, wp_if_lt, wp_icmp_lt, wp_if_ge, wp_icmp_ge, wp_if_gt, wp_icmp_gt, wp_if_le, wp_icmp_le, wp_ifnull, wp_ifnonnull, wp_acmp_eq, wp_acmp_ne, wp_tableswitch, wp_get0, wp_put0, wp_get1, wp_put1, wp_get2, wp_put2, wp_get3, wp_put3, wp_new, wp_newarray, wp_anewarray, wp_alen, wp_iaload, wp_laload, wp_baload, wp_aaload, wp_iastore, wp_lastore, wp_bastore, wp_aastore, wp_return, wp_ireturnI, wp_ireturnZ, wp_lreturn, wp_areturnO, wp_areturnA, wp_max, wp_min, wp_obj, wp_virt, wp_nil, ld_I0, ld_Is, ld_J0, ld_Js, ld_A0, ld_As, ha_0, ha_s, cx_put1, cx_put2, cx_dl, cx_tgt, true_and, and_true, Nat.reduceAdd, Nat.reduceSub, Int.reduceAdd, Int.reduceNeg, Int.reduceToNat, Int.reduceSub, Int.cast_ofNat_Int, List.take_succ_cons, List.take_zero, List.drop_succ_cons, List.drop_zero, List.take_nil, List.drop_nil, Option.toList_some, Option.toList_none, List.cons_append, List.nil_append, wp_spec, ne_eq, Nat.reduceEqDiff, not_false_eq_true, true_or, or_true, ifl, Classical.not_not]
  refine ⟨fun hl => ?_, fun q => j16 (fun z => q z.2.1)⟩
  have hl' : 0 ≤ l ∧ l < cq_I h x 72 := hl
  refine bx_X11_come_18 hY (pf1_ok hY) ?_
  simp only [wp_iconst, wp_bipush, wp_sipush, wp_ldc, wp_ldc2_w, wp_lconst0, wp_lconst1, wp_aconst_null, wp_iload_0, wp_istore_0, wp_iload_1, wp_istore_1, wp_iload_2, wp_istore_2, wp_iload_3, wp_istore_3, wp_iload, wp_istore, wp_lload_0, wp_lstore_0, wp_lload_1, wp_lstore_1, wp_lload_2, wp_lstore_2, wp_lload_3, wp_lstore_3, wp_lload, wp_lstore, wp_aload_0, wp_astore_0, wp_aload_1, wp_astore_1, wp_aload_2, wp_astore_2, wp_aload_3, wp_astore_3, wp_aload, wp_astore, wp_iinc, wp_iadd, wp_isub, wp_imul, wp_iand, wp_ior, wp_ixor, wp_ishl, wp_ishr, wp_iushr, wp_irem, wp_ladd, wp_lsub, wp_lmul, wp_land, wp_lor, wp_lxor, wp_lshl, wp_lshr, wp_lushr, wp_lrem, wp_lcmp, wp_i2l, wp_l2i, wp_dupI, wp_dupA, wp_dup2J, wp_dup2IA, wp_popI, wp_popA, wp_pop2, wp_goto, wp_if_eq, wp_icmp_eq, wp_if_ne, wp_icmp_ne, wp_if_lt, wp_icmp_lt, wp_if_ge, wp_icmp_ge, wp_if_gt, wp_icmp_gt, wp_if_le, wp_icmp_le, wp_ifnull, wp_ifnonnull, wp_acmp_eq, wp_acmp_ne, wp_tableswitch, wp_get0, wp_put0, wp_get1, wp_put1, wp_get2, wp_put2, wp_get3, wp_put3, wp_new, wp_newarray, wp_anewarray, wp_alen, wp_iaload, wp_laload, wp_baload, wp_aaload, wp_iastore, wp_lastore, wp_bastore, wp_aastore, wp_return, wp_ireturnI, wp_ireturnZ, wp_lreturn, wp_areturnO, wp_areturnA, wp_max, wp_min, wp_obj, wp_virt, wp_nil, ld_I0, ld_Is, ld_J0, ld_Js, ld_A0, ld_As, ha_0, ha_s, cx_put1, cx_put2, cx_dl, cx_tgt, true_and, and_true, Nat.reduceAdd, Nat.reduceSub, Int.reduceAdd, Int.reduceNeg, Int.reduceToNat, Int.reduceSub, Int.cast_ofNat_Int, List.take_succ_cons, List.take_zero, List.drop_succ_cons, List.drop_zero, List.take_nil, List.drop_nil, Option.toList_some, Option.toList_none, List.cons_append, List.nil_append, wp_spec, ne_eq, Nat.reduceEqDiff, not_false_eq_true, true_or, or_true]
  refine cl_X11_readLetter (Nat.le_of_ble_eq_true rfl) hS.1 (Nat.le_refl _) (Nat.le_refl _) (c_X11_readLetter hY hS (by omega) (M.r63 l) ?_ ?_)
  · intro nok g e
    refine bx_X11_come_24 hY (pf1_ok hY) ?_
    simp only [wp_iconst, wp_bipush, wp_sipush, wp_ldc, wp_ldc2_w, wp_lconst0, wp_lconst1, wp_aconst_null, wp_iload_0, wp_istore_0, wp_iload_1, wp_istore_1, wp_iload_2, wp_istore_2, wp_iload_3, wp_istore_3, wp_iload, wp_istore, wp_lload_0, wp_lstore_0, wp_lload_1, wp_lstore_1, wp_lload_2, wp_lstore_2, wp_lload_3, wp_lstore_3, wp_lload, wp_lstore, wp_aload_0, wp_astore_0, wp_aload_1, wp_astore_1, wp_aload_2, wp_astore_2, wp_aload_3, wp_astore_3, wp_aload, wp_astore, wp_iinc, wp_iadd, wp_isub, wp_imul, wp_iand, wp_ior, wp_ixor, wp_ishl, wp_ishr, wp_iushr, wp_irem, wp_ladd, wp_lsub, wp_lmul, wp_land, wp_lor, wp_lxor, wp_lshl, wp_lshr, wp_lushr, wp_lrem, wp_lcmp, wp_i2l, wp_l2i, wp_dupI, wp_dupA, wp_dup2J, wp_dup2IA, wp_popI, wp_popA, wp_pop2, wp_goto, wp_if_eq, wp_icmp_eq, wp_if_ne, wp_icmp_ne, wp_if_lt, wp_icmp_lt, wp_if_ge, wp_icmp_ge, wp_if_gt, wp_icmp_gt, wp_if_le, wp_icmp_le, wp_ifnull, wp_ifnonnull, wp_acmp_eq, wp_acmp_ne, wp_tableswitch, wp_get0, wp_put0, wp_get1, wp_put1, wp_get2, wp_put2, wp_get3, wp_put3, wp_new, wp_newarray, wp_anewarray, wp_alen, wp_iaload, wp_laload, wp_baload, wp_aaload, wp_iastore, wp_lastore, wp_bastore, wp_aastore, wp_return, wp_ireturnI, wp_ireturnZ, wp_lreturn, wp_areturnO, wp_areturnA, wp_max, wp_min, wp_obj, wp_virt, wp_nil, ld_I0, ld_Is, ld_J0, ld_Js, ld_A0, ld_As, ha_0, ha_s, cx_put1, cx_put2, cx_dl, cx_tgt, true_and, and_true, Nat.reduceAdd, Nat.reduceSub, Int.reduceAdd, Int.reduceNeg, Int.reduceToNat, Int.reduceSub, Int.cast_ofNat_Int, List.take_succ_cons, List.take_zero, List.drop_succ_cons, List.drop_zero, List.take_nil, List.drop_nil, Option.toList_some, Option.toList_none, List.cons_append, List.nil_append, wp_spec, ne_eq, Nat.reduceEqDiff, not_false_eq_true, true_or, or_true, Nat.left_eq_add, Nat.add_eq_left, Nat.add_left_cancel_iff, Nat.reduceEqDiff, Int.reduceEq, false_and, and_false, if_false, if_true, and_self, true_and, true_or, or_true, false_or, or_false]
    refine ⟨fun q => absurd trivial q, fun _ => hF (fun z => nok z.2.2.1) _ g g e (eT.refl _ _) (RI.up ⟨M.eL e, hT.eL e⟩)⟩
  intro ok
  have hR := rl_rdI M (l := l) (u := u) (by omega) ok
  have ok' := ok
  obtain ⟨k1, k2, k3, k4, k5, k6, k7, k8⟩ := ok
  have M1 : MI x n L k (20 * k) U V h0 (m_rl h x l) := M.rl
  have T1 : TI x (m_rl h x l) (1 + 100 * k) (12 * k) := TI_rl hT
  have eLs := rl_eL (x := x) (g := h) (l := l)
  have b0 := rl_62 (x := x) (h := h) (l := l) (j := 100 * l)
  have b1 := rl_62 (x := x) (h := h) (l := l) (j := 100 * l + 1)
  have b11 : cq_I (m_rl h x l) (x + 11) u = cq_I h (x + 11) u := (eLs.2.2.2.2 (x + 11) u (by omega)).1
  have b84 : cq_I (m_rl h x l) x 84 = cq_I h x 84 := (eLs.2.2.2.2 x 84 (by omega)).1
  rw [e0] at k5
  have a1 := M.r62 (100 * l + 1)
  have a84 := M.x84
  unfold CMQ CMQ0 at hK
  unfold CO at hF hK
  generalize m_rl h x l = g at hR M1 T1 b0 b1 b11 b84 eLs hF hK ⊢
  have hG := M1.rS
  have r77 := hR.2.1
  have f16 : cq_I g (x + 16) = V := M1.2.2.2.2.2.1
  have flt : ∀ {z : Prop}, ¬ z → True := fun _ => trivial
  refine bx_X11_come_24 hY (pf1_ok hY) ?_
  simp only [wp_iconst, wp_bipush, wp_sipush, wp_ldc, wp_ldc2_w, wp_lconst0, wp_lconst1, wp_aconst_null, wp_iload_0, wp_istore_0, wp_iload_1, wp_istore_1, wp_iload_2, wp_istore_2, wp_iload_3, wp_istore_3, wp_iload, wp_istore, wp_lload_0, wp_lstore_0, wp_lload_1, wp_lstore_1, wp_lload_2, wp_lstore_2, wp_lload_3, wp_lstore_3, wp_lload, wp_lstore, wp_aload_0, wp_astore_0, wp_aload_1, wp_astore_1, wp_aload_2, wp_astore_2, wp_aload_3, wp_astore_3, wp_aload, wp_astore, wp_iinc, wp_iadd, wp_isub, wp_imul, wp_iand, wp_ior, wp_ixor, wp_ishl, wp_ishr, wp_iushr, wp_irem, wp_ladd, wp_lsub, wp_lmul, wp_land, wp_lor, wp_lxor, wp_lshl, wp_lshr, wp_lushr, wp_lrem, wp_lcmp, wp_i2l, wp_l2i, wp_dupI, wp_dupA, wp_dup2J, wp_dup2IA, wp_popI, wp_popA, wp_pop2, wp_goto, wp_if_eq, wp_icmp_eq, wp_if_ne, wp_icmp_ne, wp_if_lt, wp_icmp_lt, wp_if_ge, wp_icmp_ge, wp_if_gt, wp_icmp_gt, wp_if_le, wp_icmp_le, wp_ifnull, wp_ifnonnull, wp_acmp_eq, wp_acmp_ne, wp_tableswitch, wp_get0, wp_put0, wp_get1, wp_put1, wp_get2, wp_put2, wp_get3, wp_put3, wp_new, wp_newarray, wp_anewarray, wp_alen, wp_iaload, wp_laload, wp_baload, wp_aaload, wp_iastore, wp_lastore, wp_bastore, wp_aastore, wp_return, wp_ireturnI, wp_ireturnZ, wp_lreturn, wp_areturnO, wp_areturnA, wp_max, wp_min, wp_obj, wp_virt, wp_nil, ld_I0, ld_Is, ld_J0, ld_Js, ld_A0, ld_As, ha_0, ha_s, cx_put1, cx_put2, cx_dl, cx_tgt, true_and, and_true, Nat.reduceAdd, Nat.reduceSub, Int.reduceAdd, Int.reduceNeg, Int.reduceToNat, Int.reduceSub, Int.cast_ofNat_Int, List.take_succ_cons, List.take_zero, List.drop_succ_cons, List.drop_zero, List.take_nil, List.drop_nil, Option.toList_some, Option.toList_none, List.cons_append, List.nil_append, wp_spec, ne_eq, Nat.reduceEqDiff, not_false_eq_true, true_or, or_true, Nat.left_eq_add, Nat.add_eq_left, Nat.add_left_cancel_iff, Nat.reduceEqDiff, Int.reduceEq, false_and, and_false, if_false, if_true, and_self, true_and, true_or, or_true, false_or, or_false]
  refine ⟨fun _ => ?_, fun q => absurd (by decide) q⟩
  refine bx_X11_come_30 hY (pf1_ok hY) ?_
  simp only [wp_iconst, wp_bipush, wp_sipush, wp_ldc, wp_ldc2_w, wp_lconst0, wp_lconst1, wp_aconst_null, wp_iload_0, wp_istore_0, wp_iload_1, wp_istore_1, wp_iload_2, wp_istore_2, wp_iload_3, wp_istore_3, wp_iload, wp_istore, wp_lload_0, wp_lstore_0, wp_lload_1, wp_lstore_1, wp_lload_2, wp_lstore_2, wp_lload_3, wp_lstore_3, wp_lload, wp_lstore, wp_aload_0, wp_astore_0, wp_aload_1, wp_astore_1, wp_aload_2, wp_astore_2, wp_aload_3, wp_astore_3, wp_aload, wp_astore, wp_iinc, wp_iadd, wp_isub, wp_imul, wp_iand, wp_ior, wp_ixor, wp_ishl, wp_ishr, wp_iushr, wp_irem, wp_ladd, wp_lsub, wp_lmul, wp_land, wp_lor, wp_lxor, wp_lshl, wp_lshr, wp_lushr, wp_lrem, wp_lcmp, wp_i2l, wp_l2i, wp_dupI, wp_dupA, wp_dup2J, wp_dup2IA, wp_popI, wp_popA, wp_pop2, wp_goto, wp_if_eq, wp_icmp_eq, wp_if_ne, wp_icmp_ne, wp_if_lt, wp_icmp_lt, wp_if_ge, wp_icmp_ge, wp_if_gt, wp_icmp_gt, wp_if_le, wp_icmp_le, wp_ifnull, wp_ifnonnull, wp_acmp_eq, wp_acmp_ne, wp_tableswitch, wp_get0, wp_put0, wp_get1, wp_put1, wp_get2, wp_put2, wp_get3, wp_put3, wp_new, wp_newarray, wp_anewarray, wp_alen, wp_iaload, wp_laload, wp_baload, wp_aaload, wp_iastore, wp_lastore, wp_bastore, wp_aastore, wp_return, wp_ireturnI, wp_ireturnZ, wp_lreturn, wp_areturnO, wp_areturnA, wp_max, wp_min, wp_obj, wp_virt, wp_nil, ld_I0, ld_Is, ld_J0, ld_Js, ld_A0, ld_As, ha_0, ha_s, cx_put1, cx_put2, cx_dl, cx_tgt, true_and, and_true, Nat.reduceAdd, Nat.reduceSub, Int.reduceAdd, Int.reduceNeg, Int.reduceToNat, Int.reduceSub, Int.cast_ofNat_Int, List.take_succ_cons, List.take_zero, List.drop_succ_cons, List.drop_zero, List.take_nil, List.drop_nil, Option.toList_some, Option.toList_none, List.cons_append, List.nil_append, wp_spec, ne_eq, Nat.reduceEqDiff, not_false_eq_true, true_or, or_true, rA_isUser hG, rs_isUser hG, rz_isUser hG, ra_116, (hG).1]
  refine ⟨by omega, fun q11 => ?_, fun q => hF (fun z => q (by rw [b11]; exact z.2.2.2.1)) _ g g eLs (eT.refl _ _) (RI.up ⟨M1, T1⟩)⟩
  refine bx_X11_come_42 hY (pf1_ok hY) ?_
  simp only [wp_iconst, wp_bipush, wp_sipush, wp_ldc, wp_ldc2_w, wp_lconst0, wp_lconst1, wp_aconst_null, wp_iload_0, wp_istore_0, wp_iload_1, wp_istore_1, wp_iload_2, wp_istore_2, wp_iload_3, wp_istore_3, wp_iload, wp_istore, wp_lload_0, wp_lstore_0, wp_lload_1, wp_lstore_1, wp_lload_2, wp_lstore_2, wp_lload_3, wp_lstore_3, wp_lload, wp_lstore, wp_aload_0, wp_astore_0, wp_aload_1, wp_astore_1, wp_aload_2, wp_astore_2, wp_aload_3, wp_astore_3, wp_aload, wp_astore, wp_iinc, wp_iadd, wp_isub, wp_imul, wp_iand, wp_ior, wp_ixor, wp_ishl, wp_ishr, wp_iushr, wp_irem, wp_ladd, wp_lsub, wp_lmul, wp_land, wp_lor, wp_lxor, wp_lshl, wp_lshr, wp_lushr, wp_lrem, wp_lcmp, wp_i2l, wp_l2i, wp_dupI, wp_dupA, wp_dup2J, wp_dup2IA, wp_popI, wp_popA, wp_pop2, wp_goto, wp_if_eq, wp_icmp_eq, wp_if_ne, wp_icmp_ne, wp_if_lt, wp_icmp_lt, wp_if_ge, wp_icmp_ge, wp_if_gt, wp_icmp_gt, wp_if_le, wp_icmp_le, wp_ifnull, wp_ifnonnull, wp_acmp_eq, wp_acmp_ne, wp_tableswitch, wp_get0, wp_put0, wp_get1, wp_put1, wp_get2, wp_put2, wp_get3, wp_put3, wp_new, wp_newarray, wp_anewarray, wp_alen, wp_iaload, wp_laload, wp_baload, wp_aaload, wp_iastore, wp_lastore, wp_bastore, wp_aastore, wp_return, wp_ireturnI, wp_ireturnZ, wp_lreturn, wp_areturnO, wp_areturnA, wp_max, wp_min, wp_obj, wp_virt, wp_nil, ld_I0, ld_Is, ld_J0, ld_Js, ld_A0, ld_As, ha_0, ha_s, cx_put1, cx_put2, cx_dl, cx_tgt, true_and, and_true, Nat.reduceAdd, Nat.reduceSub, Int.reduceAdd, Int.reduceNeg, Int.reduceToNat, Int.reduceSub, Int.cast_ofNat_Int, List.take_succ_cons, List.take_zero, List.drop_succ_cons, List.drop_zero, List.take_nil, List.drop_nil, Option.toList_some, Option.toList_none, List.cons_append, List.nil_append, wp_spec, ne_eq, Nat.reduceEqDiff, not_false_eq_true, true_or, or_true, hG.1]
  refine ⟨fun h84 => ?_, fun q => hF (fun z => q (by rw [b84]; have := z.2.2.2.2.1; omega)) _ g g eLs (eT.refl _ _) (RI.up ⟨M1, T1⟩)⟩
  have x84 := M1.x84
  refine bx_X11_come_55 hY (pf1_ok hY) ?_
  simp only [wp_iconst, wp_bipush, wp_sipush, wp_ldc, wp_ldc2_w, wp_lconst0, wp_lconst1, wp_aconst_null, wp_iload_0, wp_istore_0, wp_iload_1, wp_istore_1, wp_iload_2, wp_istore_2, wp_iload_3, wp_istore_3, wp_iload, wp_istore, wp_lload_0, wp_lstore_0, wp_lload_1, wp_lstore_1, wp_lload_2, wp_lstore_2, wp_lload_3, wp_lstore_3, wp_lload, wp_lstore, wp_aload_0, wp_astore_0, wp_aload_1, wp_astore_1, wp_aload_2, wp_astore_2, wp_aload_3, wp_astore_3, wp_aload, wp_astore, wp_iinc, wp_iadd, wp_isub, wp_imul, wp_iand, wp_ior, wp_ixor, wp_ishl, wp_ishr, wp_iushr, wp_irem, wp_ladd, wp_lsub, wp_lmul, wp_land, wp_lor, wp_lxor, wp_lshl, wp_lshr, wp_lushr, wp_lrem, wp_lcmp, wp_i2l, wp_l2i, wp_dupI, wp_dupA, wp_dup2J, wp_dup2IA, wp_popI, wp_popA, wp_pop2, wp_goto, wp_if_eq, wp_icmp_eq, wp_if_ne, wp_icmp_ne, wp_if_lt, wp_icmp_lt, wp_if_ge, wp_icmp_ge, wp_if_gt, wp_icmp_gt, wp_if_le, wp_icmp_le, wp_ifnull, wp_ifnonnull, wp_acmp_eq, wp_acmp_ne, wp_tableswitch, wp_get0, wp_put0, wp_get1, wp_put1, wp_get2, wp_put2, wp_get3, wp_put3, wp_new, wp_newarray, wp_anewarray, wp_alen, wp_iaload, wp_laload, wp_baload, wp_aaload, wp_iastore, wp_lastore, wp_bastore, wp_aastore, wp_return, wp_ireturnI, wp_ireturnZ, wp_lreturn, wp_areturnO, wp_areturnA, wp_max, wp_min, wp_obj, wp_virt, wp_nil, ld_I0, ld_Is, ld_J0, ld_Js, ld_A0, ld_As, ha_0, ha_s, cx_put1, cx_put2, cx_dl, cx_tgt, true_and, and_true, Nat.reduceAdd, Nat.reduceSub, Int.reduceAdd, Int.reduceNeg, Int.reduceToNat, Int.reduceSub, Int.cast_ofNat_Int, List.take_succ_cons, List.take_zero, List.drop_succ_cons, List.drop_zero, List.take_nil, List.drop_nil, Option.toList_some, Option.toList_none, List.cons_append, List.nil_append, wp_spec, ne_eq, Nat.reduceEqDiff, not_false_eq_true, true_or, or_true, rA_letterByte hG, rs_letterByte hG, rz_letterByte hG, ra_167, (hG).1, r77, b0, b1, cx_rg]
  clear k1 k2 k3 k4
  generalize cq_I h (x + 62) (100 * l + 1) = v at *
  have i84 : ∀ {m : cx_Q}, cq_sI m x 84 (cq_I m x 84 + 0) = m := fun {m} => sI_idm (by omega)
  refine ⟨by omega, by omega, by omega, by omega, by omega, fun q1 => ?_, fun q1 => ?_⟩
  · have q1' : ¬ cq_I h (x + 62) (100 * l) = 1 := q1
    rw [if_neg q1'] at hK
    refine bx_X11_come_100 hY (pf1_ok hY) ?_
    simp only [wp_iconst, wp_bipush, wp_sipush, wp_ldc, wp_ldc2_w, wp_lconst0, wp_lconst1, wp_aconst_null, wp_iload_0, wp_istore_0, wp_iload_1, wp_istore_1, wp_iload_2, wp_istore_2, wp_iload_3, wp_istore_3, wp_iload, wp_istore, wp_lload_0, wp_lstore_0, wp_lload_1, wp_lstore_1, wp_lload_2, wp_lstore_2, wp_lload_3, wp_lstore_3, wp_lload, wp_lstore, wp_aload_0, wp_astore_0, wp_aload_1, wp_astore_1, wp_aload_2, wp_astore_2, wp_aload_3, wp_astore_3, wp_aload, wp_astore, wp_iinc, wp_iadd, wp_isub, wp_imul, wp_iand, wp_ior, wp_ixor, wp_ishl, wp_ishr, wp_iushr, wp_irem, wp_ladd, wp_lsub, wp_lmul, wp_land, wp_lor, wp_lxor, wp_lshl, wp_lshr, wp_lushr, wp_lrem, wp_lcmp, wp_i2l, wp_l2i, wp_dupI, wp_dupA, wp_dup2J, wp_dup2IA, wp_popI, wp_popA, wp_pop2, wp_goto, wp_if_eq, wp_icmp_eq, wp_if_ne, wp_icmp_ne, wp_if_lt, wp_icmp_lt, wp_if_ge, wp_icmp_ge, wp_if_gt, wp_icmp_gt, wp_if_le, wp_icmp_le, wp_ifnull, wp_ifnonnull, wp_acmp_eq, wp_acmp_ne, wp_tableswitch, wp_get0, wp_put0, wp_get1, wp_put1, wp_get2, wp_put2, wp_get3, wp_put3, wp_new, wp_newarray, wp_anewarray, wp_alen, wp_iaload, wp_laload, wp_baload, wp_aaload, wp_iastore, wp_lastore, wp_bastore, wp_aastore, wp_return, wp_ireturnI, wp_ireturnZ, wp_lreturn, wp_areturnO, wp_areturnA, wp_max, wp_min, wp_obj, wp_virt, wp_nil, ld_I0, ld_Is, ld_J0, ld_Js, ld_A0, ld_As, ha_0, ha_s, cx_put1, cx_put2, cx_dl, cx_tgt, true_and, and_true, Nat.reduceAdd, Nat.reduceSub, Int.reduceAdd, Int.reduceNeg, Int.reduceToNat, Int.reduceSub, Int.cast_ofNat_Int, List.take_succ_cons, List.take_zero, List.drop_succ_cons, List.drop_zero, List.take_nil, List.drop_nil, Option.toList_some, Option.toList_none, List.cons_append, List.nil_append, wp_spec, ne_eq, Nat.reduceEqDiff, not_false_eq_true, true_or, or_true]
    refine cl_X11_comeLater (Nat.le_of_ble_eq_true rfl) hG.1 (Nat.le_refl _) (Nat.le_refl _) (c_X11_comeLater hY hG T1 (by omega) (by omega) hR (by omega) (by omega) M1.r12 (by omega) M1.r41 M1.r53 M1.r30 M1.r29 ?_ ?_)
    · intro a ea na
      have := m_clA_rg (h := g) (x := x) (l := l) (r := 6 * u + v)
      refine come_e hY hG x84 h84 (by omega) (fun _ m => ?_) (fun z => absurd z na)
      rw [i84]
      exact hF (fun z => na (by rw [← ea]; exact z.2.2.2.2.2.2 q1')) _ g g eLs (eT.refl _ _) (RI.up ⟨M1, T1⟩)
    · intro a g2 e2 t2
      have M2 := (MI.clQ M1 hR a).eT e2
      have f84 : cq_I g2 x 84 = cq_I h x 84 := by rw [e2.xI (j := 84) (by decide) (by decide) (by decide), clQ_84, b84]
      refine come_e hY M2.rS M2.x84 (by omega) (by decide) (fun z => absurd rfl z) (fun _ m => ?_)
      rw [f84]
      refine hK ⟨hu, hl', ok', by rw [← b11]; exact q11, by omega, fun z => absurd z q1', fun _ => a⟩ m _ (eT.sI e2) ?_
      have M3 : MI x n L k (20 * k + 1) U V h0 (cq_sI g2 x 84 (cq_I h x 84 + 1)) := by
        refine MI.sx M2 (j := 84) ?_ (by decide)
        exact ⟨by omega, by omega⟩
      exact RI.mk M3 (TI.sF t2 (by decide) (by decide) (by decide)) (by omega) (by omega) (by omega) (by omega)
  · have q1' : cq_I h (x + 62) (100 * l) = 1 := Classical.not_not.mp q1
    rw [if_pos q1'] at hK
    refine cl_X11_comeFirst (Nat.le_of_ble_eq_true rfl) hG.1 (Nat.le_refl _) (Nat.le_refl _) (c_X11_comeFirst hY hG T1 (by omega) (by omega) hR (by omega) (by omega) M1.r12 (by omega) M1.r62 M1.r41 M1.r53 M1.r30 M1.r29 ?_ (M1.r23 u) ?_ M1.x85 ?_ ?_)
    · rw [f16]; exact hV u
    · have := M1.r58 u
      omega
    · intro a ea na
      have := m_cfA_rg (h := g) (x := x) (l := l) (u := u) (r := 6 * u + v)
      refine bx_X11_come_97 hY (pf1_ok hY) ?_
      simp only [wp_iconst, wp_bipush, wp_sipush, wp_ldc, wp_ldc2_w, wp_lconst0, wp_lconst1, wp_aconst_null, wp_iload_0, wp_istore_0, wp_iload_1, wp_istore_1, wp_iload_2, wp_istore_2, wp_iload_3, wp_istore_3, wp_iload, wp_istore, wp_lload_0, wp_lstore_0, wp_lload_1, wp_lstore_1, wp_lload_2, wp_lstore_2, wp_lload_3, wp_lstore_3, wp_lload, wp_lstore, wp_aload_0, wp_astore_0, wp_aload_1, wp_astore_1, wp_aload_2, wp_astore_2, wp_aload_3, wp_astore_3, wp_aload, wp_astore, wp_iinc, wp_iadd, wp_isub, wp_imul, wp_iand, wp_ior, wp_ixor, wp_ishl, wp_ishr, wp_iushr, wp_irem, wp_ladd, wp_lsub, wp_lmul, wp_land, wp_lor, wp_lxor, wp_lshl, wp_lshr, wp_lushr, wp_lrem, wp_lcmp, wp_i2l, wp_l2i, wp_dupI, wp_dupA, wp_dup2J, wp_dup2IA, wp_popI, wp_popA, wp_pop2, wp_goto, wp_if_eq, wp_icmp_eq, wp_if_ne, wp_icmp_ne, wp_if_lt, wp_icmp_lt, wp_if_ge, wp_icmp_ge, wp_if_gt, wp_icmp_gt, wp_if_le, wp_icmp_le, wp_ifnull, wp_ifnonnull, wp_acmp_eq, wp_acmp_ne, wp_tableswitch, wp_get0, wp_put0, wp_get1, wp_put1, wp_get2, wp_put2, wp_get3, wp_put3, wp_new, wp_newarray, wp_anewarray, wp_alen, wp_iaload, wp_laload, wp_baload, wp_aaload, wp_iastore, wp_lastore, wp_bastore, wp_aastore, wp_return, wp_ireturnI, wp_ireturnZ, wp_lreturn, wp_areturnO, wp_areturnA, wp_max, wp_min, wp_obj, wp_virt, wp_nil, ld_I0, ld_Is, ld_J0, ld_Js, ld_A0, ld_As, ha_0, ha_s, cx_put1, cx_put2, cx_dl, cx_tgt, true_and, and_true, Nat.reduceAdd, Nat.reduceSub, Int.reduceAdd, Int.reduceNeg, Int.reduceToNat, Int.reduceSub, Int.cast_ofNat_Int, List.take_succ_cons, List.take_zero, List.drop_succ_cons, List.drop_zero, List.take_nil, List.drop_nil, Option.toList_some, Option.toList_none, List.cons_append, List.nil_append, wp_spec, ne_eq, Nat.reduceEqDiff, not_false_eq_true, true_or, or_true]
      refine come_e hY hG x84 h84 (by omega) (fun _ m => ?_) (fun z => absurd z na)
      rw [i84]
      exact hF (fun z => na (by rw [← ea]; exact z.2.2.2.2.2.1 q1')) _ g g eLs (eT.refl _ _) (RI.up ⟨M1, T1⟩)
    · intro a g2 e2 t2
      refine bx_X11_come_97 hY (pf1_ok hY) ?_
      simp only [wp_iconst, wp_bipush, wp_sipush, wp_ldc, wp_ldc2_w, wp_lconst0, wp_lconst1, wp_aconst_null, wp_iload_0, wp_istore_0, wp_iload_1, wp_istore_1, wp_iload_2, wp_istore_2, wp_iload_3, wp_istore_3, wp_iload, wp_istore, wp_lload_0, wp_lstore_0, wp_lload_1, wp_lstore_1, wp_lload_2, wp_lstore_2, wp_lload_3, wp_lstore_3, wp_lload, wp_lstore, wp_aload_0, wp_astore_0, wp_aload_1, wp_astore_1, wp_aload_2, wp_astore_2, wp_aload_3, wp_astore_3, wp_aload, wp_astore, wp_iinc, wp_iadd, wp_isub, wp_imul, wp_iand, wp_ior, wp_ixor, wp_ishl, wp_ishr, wp_iushr, wp_irem, wp_ladd, wp_lsub, wp_lmul, wp_land, wp_lor, wp_lxor, wp_lshl, wp_lshr, wp_lushr, wp_lrem, wp_lcmp, wp_i2l, wp_l2i, wp_dupI, wp_dupA, wp_dup2J, wp_dup2IA, wp_popI, wp_popA, wp_pop2, wp_goto, wp_if_eq, wp_icmp_eq, wp_if_ne, wp_icmp_ne, wp_if_lt, wp_icmp_lt, wp_if_ge, wp_icmp_ge, wp_if_gt, wp_icmp_gt, wp_if_le, wp_icmp_le, wp_ifnull, wp_ifnonnull, wp_acmp_eq, wp_acmp_ne, wp_tableswitch, wp_get0, wp_put0, wp_get1, wp_put1, wp_get2, wp_put2, wp_get3, wp_put3, wp_new, wp_newarray, wp_anewarray, wp_alen, wp_iaload, wp_laload, wp_baload, wp_aaload, wp_iastore, wp_lastore, wp_bastore, wp_aastore, wp_return, wp_ireturnI, wp_ireturnZ, wp_lreturn, wp_areturnO, wp_areturnA, wp_max, wp_min, wp_obj, wp_virt, wp_nil, ld_I0, ld_Is, ld_J0, ld_Js, ld_A0, ld_As, ha_0, ha_s, cx_put1, cx_put2, cx_dl, cx_tgt, true_and, and_true, Nat.reduceAdd, Nat.reduceSub, Int.reduceAdd, Int.reduceNeg, Int.reduceToNat, Int.reduceSub, Int.cast_ofNat_Int, List.take_succ_cons, List.take_zero, List.drop_succ_cons, List.drop_zero, List.take_nil, List.drop_nil, Option.toList_some, Option.toList_none, List.cons_append, List.nil_append, wp_spec, ne_eq, Nat.reduceEqDiff, not_false_eq_true, true_or, or_true]
      have M2 := (MI.cfQ M1 hk.1 (by omega) (by omega) hR a).eT e2
      have f84 : cq_I g2 x 84 = cq_I h x 84 := by rw [e2.xI (j := 84) (by decide) (by decide) (by decide), cfQ_84, b84]
      refine come_e hY M2.rS M2.x84 (by omega) (by decide) (fun z => absurd rfl z) (fun _ m => ?_)
      rw [f84]
      refine hK ⟨hu, hl', ok', by rw [← b11]; exact q11, by omega, fun _ => a, fun z => absurd q1' z⟩ m _ (eT.sI e2) ?_
      have M3 : MI x n L (k + 1) (20 * k + 1) U V h0 (cq_sI g2 x 84 (cq_I h x 84 + 1)) := by
        refine MI.sx M2 (j := 84) ?_ (by decide)
        exact ⟨by omega, by omega⟩
      exact RI.mk M3 (TI.sF t2 (by decide) (by decide) (by decide)) (by omega) (by omega) (by omega) (by omega)
end
/-! class and reference side by side behind k calls, by value -/
section
variable {x : Nat} {h k : cx_Q} {n u v w l p m : Int}
theorem reg_x63 : cq_I (m_register h x u) x 63 = cq_I h x 63 := by
  unfold m_register m_lend m_lend3 m_lend2 m_lend1 m_reg2 m_reg1
  simp only [m_draw_I, mm_sI, mm_sJ, mm_sA, mm_IJ, mm_IA, mm_JI, mm_JA, mm_AI, mm_AJ, mm_ssI, mm_ssJ, mm_ssA, mm_zI, mm_zJ, mm_zA, mm_nI, mm_nJ, mm_nA, Nat.left_eq_add, Nat.add_eq_left, Nat.add_left_cancel_iff, Nat.reduceEqDiff, Int.reduceEq, false_and, and_false, if_false, if_true, and_self, true_and, true_or, or_true, false_or, or_false]
theorem lend_x63 : cq_I (m_lend h x u) x 63 = cq_I h x 63 := by
  unfold m_lend m_lend3 m_lend2 m_lend1
  simp only [m_draw_I, mm_sI, mm_sJ, mm_sA, mm_IJ, mm_IA, mm_JI, mm_JA, mm_AI, mm_AJ, mm_ssI, mm_ssJ, mm_ssA, mm_zI, mm_zJ, mm_zA, mm_nI, mm_nJ, mm_nA, Nat.left_eq_add, Nat.add_eq_left, Nat.add_left_cancel_iff, Nat.reduceEqDiff, Int.reduceEq, false_and, and_false, if_false, if_true, and_self, true_and, true_or, or_true, false_or, or_false]
theorem pub_x63 : ∀ {r : Nat} {h : cx_Q}, cq_I (m_pub x u r h) x 63 = cq_I h x 63
  | 0, h => by rw [m_pub]
  | r + 1, h => by rw [m_pub, pub_x63, m_pub1_x]
theorem begin_x63 : cq_I (m_begin h x u v) x 63 = cq_I h x 63 + 1 := by
  unfold m_begin m_bn2 m_turn3 m_turnS m_bn1
  simp only [mm_sI, mm_sJ, mm_sA, mm_IJ, mm_IA, mm_JI, mm_JA, mm_AI, mm_AJ, mm_ssI, mm_ssJ, mm_ssA, mm_zI, mm_zJ, mm_zA, mm_nI, mm_nJ, mm_nA, Nat.left_eq_add, Nat.add_eq_left, Nat.add_left_cancel_iff, Nat.reduceEqDiff, Int.reduceEq, false_and, and_false, if_false, if_true, and_self, true_and, true_or, or_true, false_or, or_false, m_draw_I, clear_x, m_newS_x]
  unfold m_bnC
  simp only [m_draw_I, mm_sI, mm_sJ, mm_sA, mm_IJ, mm_IA, mm_JI, mm_JA, mm_AI, mm_AJ, mm_ssI, mm_ssJ, mm_ssA, mm_zI, mm_zJ, mm_zA, mm_nI, mm_nJ, mm_nA, Nat.left_eq_add, Nat.add_eq_left, Nat.add_left_cancel_iff, Nat.reduceEqDiff, Int.reduceEq, false_and, and_false, if_false, if_true, and_self, true_and, true_or, or_true, false_or, or_false]
theorem q63_reg : cq_I (qReg h x n u) x 63 ≤ cq_I h x 63 + 1 := by
  unfold qReg
  split
  · split
    · rw [reg_x63]; omega
    · omega
  · omega
theorem q63_rot : cq_I (qRot h x n u) x 63 ≤ cq_I h x 63 + 1 := by
  unfold qRot
  split
  · split
    · omega
    · split
      · omega
      · rw [lend_x63]; omega
  · omega
theorem q63_pub : cq_I (qPub h x n u w) x 63 ≤ cq_I h x 63 + 1 := by
  unfold qPub
  split
  · split
    · omega
    · split
      · omega
      · rw [pub_x63]; omega
  · omega
theorem q63_frg {a : Int64} : cq_I (qFrg h x n u a) x 63 ≤ cq_I h x 63 + 1 := by
  unfold qFrg
  split
  · rw [mm_IJ]; omega
  · omega
theorem q63_beg : cq_I (qBeg h x n u v) x 63 ≤ cq_I h x 63 + 1 := by
  unfold qBeg
  split
  · split
    · omega
    · split
      · rw [begin_x63]; omega
      · rw [bn0_x]; omega
  · omega
theorem q63_for : cq_I (qFor h x n u v) x 63 ≤ cq_I h x 63 + 1 := by
  unfold qFor
  split
  · rw [mm_sI, if_neg (by omega)]; omega
  · omega
theorem q63_end : cq_I (qEnd h x m) x 63 ≤ cq_I h x 63 + 1 := by
  unfold qEnd
  split
  · rw [mm_sI, if_neg (by omega)]; omega
  · omega
theorem q63_fd {a b c d e : Int} : cq_I (qFd h x a b c d e) x 63 ≤ cq_I h x 63 + 1 := by
  unfold qFd
  split
  · omega
  · rw [(m_fd_q (x := x) 20).2.2.1 x 63 (by omega) (by omega)]; omega
theorem q63_spo : cq_I (qSpo h x l p m) x 63 ≤ cq_I h x 63 + 1 := by
  unfold qSpo
  split
  · rw [mm_sI, if_neg (by omega)]; omega
  · omega
theorem q63_cop : cq_I (qCop h x l) x 63 ≤ cq_I h x 63 + 1 := by
  unfold qCop
  split
  · split
    · omega
    · unfold m_copy
      rw [mm_sI, if_neg (by omega), mm_sI, if_neg (by omega), mm_sI, if_neg (by omega), m_cp_I (by omega)]; omega
  · omega
theorem q63_lok : cq_I (qLok h x n u) x 63 ≤ cq_I h x 63 + 1 := by
  unfold qLok
  split
  · rw [mm_sI, if_neg (by omega)]; omega
  · omega
theorem q63_com : cq_I (CMQ h x l u) x 63 = cq_I h x 63 := by
  have eLs := rl_eL (x := x) (g := h) (l := l)
  have r63 : cq_I (m_rl h x l) x 63 = cq_I h x 63 := (eLs.2.2.2.2 x 63 (by omega)).1
  unfold CMQ
  rw [mm_sI, if_neg (by omega)]
  unfold CMQ0
  generalize m_rl h x l = g at r63 ⊢
  split
  · unfold m_cfQ m_cfQ1
    split
    · unfold m_cfQ0
      generalize m_cfR g x u _ _ _ _ = root
      have e1 : ∀ {ln on : Int} {e : Int64} {q : cx_Q} {s : Int}, cq_I (m_cfD q x u s ln on e) x 63 = cq_I q x 63 := fun {ln on e q s} => by
        unfold m_cfD m_cfN
        split
        · simp only [mm_sI, mm_sJ, mm_sA, mm_IJ, mm_IA, mm_JI, mm_JA, mm_AI, mm_AJ, mm_ssI, mm_ssJ, mm_ssA, mm_zI, mm_zJ, mm_zA, mm_nI, mm_nJ, mm_nA, Nat.left_eq_add, Nat.add_eq_left, Nat.add_left_cancel_iff, Nat.reduceEqDiff, Int.reduceEq, false_and, and_false, if_false, if_true, and_self, true_and, true_or, or_true, false_or, or_false]
        · simp only [mm_sI, mm_sJ, mm_sA, mm_IJ, mm_IA, mm_JI, mm_JA, mm_AI, mm_AJ, mm_ssI, mm_ssJ, mm_ssA, mm_zI, mm_zJ, mm_zA, mm_nI, mm_nJ, mm_nA, Nat.left_eq_add, Nat.add_eq_left, Nat.add_left_cancel_iff, Nat.reduceEqDiff, Int.reduceEq, false_and, and_false, if_false, if_true, and_self, true_and, true_or, or_true, false_or, or_false]
      rw [e1, openQ_x (by decide)]
      unfold m_cfG
      rw [cfS_x, mm_IJ, clear_x, m_newS_x, r63]
    · rw [front_x, openQ_x (by decide), r63]
  · unfold m_clQ
    rw [front_x, openQ_x (by decide), r63]
theorem q63_wr {g' : cx_Q} (R : rWr h x n u v g') : cq_I g' x 63 ≤ cq_I h x 63 + 1 := by
  unfold rWr at R
  by_cases q : ((0 ≤ u ∧ u < n) ∧ (0 ≤ v ∧ v < n) ∧ u ≠ v) ∧ cq_I h x 68 ≠ 0 ∧ ¬ (cq_I h (x + 11) u = 0 ∨ cq_I h (x + 11) v = 0) ∧ cq_I h x 72 ≠ 80
  · obtain ⟨a1, a2⟩ := R.1 q
    by_cases r : cq_I h (x + 30) (6 * u + v) = 0
    · by_cases s : m_seal h x v
      · obtain ⟨g1, e, W⟩ := (a1 r).2 s
        have w := WQ.x_ W 63 (by decide) (by decide) (by decide) (by decide) (by decide) (by decide)
        rw [w, e.xI (by decide) (by decide) (by decide), begin_x63]
        omega
      · have e := (a1 r).1 s
        rw [e.xI (by decide) (by decide) (by decide), bn0_x]
        omega
    · have w := WQ.x_ (a2 r) 63 (by decide) (by decide) (by decide) (by decide) (by decide) (by decide)
      rw [w]
      omega
  · rw [(R.2 q).xI (by decide) (by decide) (by decide)]
    omega
theorem ov_of {h1 : cx_Q} (W : FR h h1) (S : rS h x) : h1 = ov x h h1 := by
  have q : ∀ a, x ≤ a ∧ a ≤ x + 65 → cq_I h1 a = cq_I h a ∧ cq_J h1 a = cq_J h a := fun a w => by
    have := (W.2 a (S.isR w)).2
    exact ⟨this.2.2.1, this.2.2.2.1⟩
  refine qext rfl rfl rfl (fun a r => ?_) (fun a r => ?_) (fun a r => rfl)
  · rw [ov_a]
    by_cases w : x ≤ a ∧ a ≤ x + 65
    · rw [if_pos w, (q a w).1]
    · rw [if_neg w]
  · rw [ov_b]
    by_cases w : x ≤ a ∧ a ≤ x + 65
    · rw [if_pos w, (q a w).2]
    · rw [if_neg w]
end
section
variable {c x p : Nat} {n N L L1 Z k : Int} {U V : Int → Int} {E : Nat → Option Int} {h g h1 h2 gq k1 : cx_Q} {pe : Int → Nat} {ro : Int → Int → Nat} {pa lb tp rd en op ob : Nat} {T Lf : Int → Nat}
theorem FX.o_ (F : FX c x n pe ro pa lb tp rd en op ob T Lf h g) : FX c x n pe ro pa lb tp rd en op ob T Lf h (ov x g k1) := by
  have r : eqR x (fun _ _ => False) g (ov x g k1) := fun o j _ w _ _ => ⟨by rw [ov_I w], by rw [ov_J w]⟩
  exact F.upS (P := fun _ => False) evx.refl (fun _ _ => False) r (fun _ z => z.elim) (fun _ _ z => z.elim) rfl rfl (by rw [ov_I0]) (by rw [ov_I0]) (F.fs.ex (P := fun _ => False) evx.refl id id id (fun j z => by rw [ov_I0]) (fun j => by rw [ov_I (by decide)]) (fun j => by rw [ov_I (by decide)]))
theorem FX.uo (F : FX c x n pe ro pa lb tp rd en op ob T Lf h (ov x g k1)) : FX c x n pe ro pa lb tp rd en op ob T Lf h g := by
  have := F.o_ (k1 := g)
  rw [ov_ov, ov_id] at this
  exact this
/-- behind k calls, by value -/
def LF (p c x : Nat) (n N : Int) (pe : Int → Nat) (ro : Int → Int → Nat) (pa lb tp rd en op ob : Nat) (k : Int) (h : cx_Q) : Prop := ∃ (Z : Int) (E : Nat → Option Int) (L1 : Int) (T Lf : Int → Nat) (L : Int) (U V : Int → Int), CI c n L1 Z E h [] h ∧ Z ≤ 100 * k ∧ RI x n L U V k h h ∧ (2 ≤ n ∧ n ≤ 6) ∧ (0 ≤ L ∧ L ≤ k) ∧ (∀ u, 0 ≤ V u ∧ V u ≤ 20) ∧ (∀ u, U u = 0 → V u = 0) ∧ (cq_s h p = 98 ∧ cq_z h p = N) ∧ FX c x n pe ro pa lb tp rd en op ob T Lf h h ∧ cq_I h x 63 ≤ k
theorem LF.mk (G : CI c n L1 Z E h [] h1) (hZ : Z ≤ 100 * (k + 1)) (R : RI x n L U V (k + 1) h1 h2) (hn : 2 ≤ n ∧ n ≤ 6) (hL : 0 ≤ L ∧ L ≤ k + 1) (hV : ∀ u, 0 ≤ V u ∧ V u ≤ 20) (hU : ∀ u, U u = 0 → V u = 0) (S : rS h1 x) (hp : cq_s h1 p = 98 ∧ cq_z h1 p = N) (F : FX c x n pe ro pa lb tp rd en op ob T Lf h1 h2) (b63 : cq_I h2 x 63 ≤ k + 1) : LF p c x n N pe ro pa lb tp rd en op ob (k + 1) h2 := by
  have W := R.1.1
  have H2 := G.wz W S
  refine ⟨Z, E, L1, T, Lf, L, U, V, H2, hZ, R.fr ⟨Nat.le_refl _, fun a q => ⟨?_, rfl, rfl, rfl, rfl, rfl⟩⟩, hn, hL, hV, hU, ?_, F.wz W S, b63⟩
  · by_cases z : h2.1 ≤ a
    · exact absurd (H2.al a z) (isR_own q).2
    · omega
  · rw [W.2.1, W.2.2.1]; exact hp
/-- from what both calls told -/
theorem LF.st {Q : cx_Q} (b63 : cq_I h x 63 ≤ k) (G : CI c n L1 Z E h [] h1) (hZ : Z ≤ 100 * (k + 1)) (R : RI x n L U V (k + 1) h1 h2) (hn : 2 ≤ n ∧ n ≤ 6) (hL : 0 ≤ L ∧ L ≤ k + 1) (hV : ∀ u, 0 ≤ V u ∧ V u ≤ 20) (hU : ∀ u, U u = 0 → V u = 0) (S : rS h1 x) (hp : cq_s h1 p = 98 ∧ cq_z h1 p = N) (F : FX c x n pe ro pa lb tp rd en op ob T Lf h1 Q) (e : eT x (ov x Q k1) h2) (q63 : cq_I Q x 63 ≤ cq_I h x 63 + 1) : LF p c x n N pe ro pa lb tp rd en op ob (k + 1) h2 := by
  refine LF.mk G hZ R hn hL hV hU S hp (F.o_.eT e) ?_
  rw [e.xI (by decide) (by decide) (by decide), ov_I0]
  omega
theorem LF.up (X : LF p c x n N pe ro pa lb tp rd en op ob k h) (hk : 0 ≤ k) : LF p c x n N pe ro pa lb tp rd en op ob (k + 1) h := by
  obtain ⟨Z, E, L1, T, Lf, L, U, V, H, hZ, R, hn, hL, hV, hU, hp, F, b⟩ := X
  exact ⟨Z, E, L1, T, Lf, L, U, V, H, by omega, R.up, hn, by omega, hV, hU, hp, F, by omega⟩
end
/-! calls that change nothing: exact answers on both sides -/
def aByt (g : cx_Q) (x : Nat) (i : Int) : Int := if i < 0 ∨ cq_I g x 75 ≤ i then -1 else cq_I g (x + 65) i
def aLet (g : cx_Q) (x : Nat) (l p : Int) : Int := if (0 ≤ l ∧ l < cq_I g x 72) ∧ -1 ≤ p ∧ p < cq_I g (x + 63) l then (if p = -1 then cq_I g (x + 63) l else cq_I g (x + 62) (100 * l + p)) else -1
def aUsr (g : cx_Q) (x : Nat) (n u w : Int) : Int := if (0 ≤ u ∧ u < n) ∧ 0 ≤ w ∧ w ≤ 7 then (if w = 0 then (if cq_I g (x + 11) u = 0 then 0 else 1) else if w = 1 then cq_I g (x + 16) u else if w = 2 then m_onceDir g x u else if w = 3 then m_leastOnce g x u else if w = 4 then cq_I g (x + 23) u else if w = 5 then cq_I g (x + 12) u else if w = 6 then m_kept g x u else m_sessionsOf g x u) else -1
def aNum (g : cx_Q) (x : Nat) (n u w : Int) : Int64 := if (0 ≤ u ∧ u < n) ∧ cq_I g (x + 11) u ≠ 0 ∧ 0 ≤ w ∧ w ≤ 4 then (if w = 0 then cq_J g (x + 14) u else if w = 1 then cq_J g (x + 20) u else if w = 2 then cq_J g (x + 21) u else if w = 3 then cq_J g (x + 22) u else if m_leastOnce g x u = 0 then Int64.ofInt 0 else cq_J g (x + 25) (61 * u + m_leastOnce g x u)) else Int64.ofInt 0
def aSes (g : cx_Q) (x : Nat) (n u v i w : Int) : Int := if i = -1 ∧ w = 0 ∧ ((0 ≤ u ∧ u < n) ∧ (0 ≤ v ∧ v < n) ∧ u ≠ v) then cq_I g (x + 30) (6 * u + v) else if (((0 ≤ u ∧ u < n) ∧ (0 ≤ v ∧ v < n) ∧ u ≠ v) ∧ 0 ≤ i ∧ i < cq_I g (x + 30) (6 * u + v)) ∧ 0 ≤ w ∧ w ≤ 7 then m_sess g x (cq_I g (x + 29) (4 * (6 * u + v) + i)) w else -1
def aIns (g : cx_Q) (x : Nat) (n u v i w : Int) : Int64 := if (((0 ≤ u ∧ u < n) ∧ (0 ≤ v ∧ v < n) ∧ u ≠ v) ∧ 0 ≤ i ∧ i < cq_I g (x + 30) (6 * u + v)) ∧ 0 ≤ w ∧ w ≤ 4 then m_ins g x (cq_I g (x + 29) (4 * (6 * u + v) + i)) w else Int64.ofInt 0
section
variable {Y : cx_Y} {K : Option cx_V → cx_Q → Prop} {x : Nat} {n L k : Int} {U V : Int → Int} {h0 h : cx_Q}
theorem xy_byteOf (hY : cY Y) {i : Int} (R : RI x n L U V k h0 h) (hn : 2 ≤ n ∧ n ≤ 6) (hK : K (some (.inl (aByt h x i))) h) : cw Y mi_X11_byteOf K 0 [some (.inr (.inr (some x))), some (.inl i)] [] h 0 0 := by
  unfold aByt at hK
  refine c_X11_byteOf hY R.1.rS R.1.x75.2 (fun q => ?_) (fun q => ?_)
  · rw [if_pos q] at hK
    exact hK
  · rw [if_neg q] at hK
    exact hK
theorem xy_letter (hY : cY Y) {l p : Int} (R : RI x n L U V k h0 h) (hn : 2 ≤ n ∧ n ≤ 6) (hK : K (some (.inl (aLet h x l p))) h) : cw Y mi_X11_letter K 0 [some (.inr (.inr (some x))), some (.inl l), some (.inl p)] [] h 0 0 := by
  unfold aLet at hK
  refine c_X11_letter hY R.1.rS R.1.x72.2 (fun l => (R.1.r63 l).2) (fun q => ?_) (fun q => ?_)
  · unfold m_isLetter at q
    rw [if_neg q] at hK
    exact hK
  · unfold m_isLetter at q
    rw [if_pos q] at hK
    exact hK
theorem xy_count (hY : cY Y) {w : Int} (R : RI x n L U V k h0 h) (hn : 2 ≤ n ∧ n ≤ 6) (hK : K (some (.inl (m_count h x w))) h) : cw Y mi_X11_count K 0 [some (.inr (.inr (some x))), some (.inl w)] [] h 0 0 := c_X11_count hY R.1.rS hK
theorem xy_user (hY : cY Y) {u w : Int} (R : RI x n L U V k h0 h) (hn : 2 ≤ n ∧ n ≤ 6) (hK : K (some (.inl (aUsr h x n u w))) h) : cw Y mi_X11_user K 0 [some (.inr (.inr (some x))), some (.inl u), some (.inl w)] [] h 0 0 := by
  have e0 := R.n0
  have iu : m_isUser h x u = (0 ≤ u ∧ u < n) := by unfold m_isUser; rw [e0]
  unfold aUsr at hK
  refine c_X11_user hY R.1.rS (by rw [e0]; exact hn) R.1.r23 R.1.r30 ?_ ?_
  · rw [iu]
    intro q
    rw [if_neg q] at hK
    exact hK
  · rw [iu]
    intro q
    rw [if_pos q] at hK
    exact hK
theorem xy_number (hY : cY Y) {u w : Int} (R : RI x n L U V k h0 h) (hn : 2 ≤ n ∧ n ≤ 6) (hK : K (some (.inr (.inl (aNum h x n u w)))) h) : cw Y mi_X11_number K 0 [some (.inr (.inr (some x))), some (.inl u), some (.inl w), none] [] h 0 0 := by
  have e0 := R.n0
  have iu : m_isUser h x u = (0 ≤ u ∧ u < n) := by unfold m_isUser; rw [e0]
  unfold aNum at hK
  refine c_X11_number hY R.1.rS (by rw [e0]; exact hn.2) R.1.r23 ?_ ?_
  · rw [iu]
    intro q
    rw [if_neg q] at hK
    exact hK
  · rw [iu]
    intro q
    rw [if_pos q] at hK
    exact hK
theorem xy_session (hY : cY Y) {u v i w : Int} (R : RI x n L U V k h0 h) (hn : 2 ≤ n ∧ n ≤ 6) (hK : K (some (.inl (aSes h x n u v i w))) h) : cw Y mi_X11_session K 0 [some (.inr (.inr (some x))), some (.inl u), some (.inl v), some (.inl i), some (.inl w), none] [] h 0 0 := by
  have e0 := R.n0
  have ip : m_isPair h x u v = ((0 ≤ u ∧ u < n) ∧ (0 ≤ v ∧ v < n) ∧ u ≠ v) := by unfold m_isPair m_isUser; rw [e0]
  unfold aSes at hK
  refine c_X11_session hY R.1.rS (by rw [e0]; exact hn.2) R.1.r30 R.1.r29 ?_ ?_ ?_
  · rw [ip]
    intro q1 q2 q3
    rw [if_pos ⟨q1, q2, q3⟩] at hK
    exact hK
  · unfold m_slotP
    rw [ip]
    intro q1 q2
    rw [if_neg q1, if_neg q2] at hK
    exact hK
  · unfold m_slotP
    rw [ip]
    intro q1 q2 q3
    have q0 : ¬ (i = -1 ∧ w = 0 ∧ ((0 ≤ u ∧ u < n) ∧ (0 ≤ v ∧ v < n) ∧ u ≠ v)) := fun z => by omega
    rw [if_neg q0, if_pos ⟨q1, q2, q3⟩] at hK
    exact hK
theorem xy_inside (hY : cY Y) {u v i w : Int} (R : RI x n L U V k h0 h) (hn : 2 ≤ n ∧ n ≤ 6) (hK : K (some (.inr (.inl (aIns h x n u v i w)))) h) : cw Y mi_X11_inside K 0 [some (.inr (.inr (some x))), some (.inl u), some (.inl v), some (.inl i), some (.inl w), none] [] h 0 0 := by
  have e0 := R.n0
  have ip : m_isPair h x u v = ((0 ≤ u ∧ u < n) ∧ (0 ≤ v ∧ v < n) ∧ u ≠ v) := by unfold m_isPair m_isUser; rw [e0]
  unfold aIns at hK
  refine c_X11_inside hY R.1.rS (by rw [e0]; exact hn.2) R.1.r30 R.1.r29 ?_ ?_
  · unfold m_slotP
    rw [ip]
    intro q
    rw [if_neg q] at hK
    exact hK
  · unfold m_slotP
    rw [ip]
    intro q1 q2 q3
    rw [if_pos ⟨q1, q2, q3⟩] at hK
    exact hK
end
section
variable {Y : cx_Y} {K : Option cx_V → cx_Q → Prop} {c x : Nat} {n L Z : Int} {E : Nat → Option Int} {h0 : cx_Q} {h g : cx_Q} {pe : Int → Nat} {ro : Int → Int → Nat} {pa lb tp rd en op ob : Nat} {T Lf : Int → Nat}
theorem xa_byteOf (hY : cY Y) {u : Int} (H : CI c n L Z E h0 [] h) (F : FX c x n pe ro pa lb tp rd en op ob T Lf h g) (hK : K (some (.inl (aByt g x u))) h) : cw Y mi_X10_byteOf K 0 [some (.inr (.inr (some c))), some (.inl u)] [] h 0 0 := by
  have hc := H.cs
  have i11 := H.i9_11 hc
  have rc := F.fs.rc
  have zb : cq_z h rd = 40 := H.tz F.fs.s2
  unfold aByt at hK
  have j12 : (u < 0 ∨ cq_I g x 75 ≤ u) → cw Y mi_X10_byteOf K 12 [some (.inr (.inr (some c))), some (.inl u)] [] h 0 0 := by
    intro q
    rw [if_pos q] at hK
    refine bx_X10_byteOf_12 hY (pf2_ok hY) ?_
    simp only [wp_iconst, wp_bipush, wp_sipush, wp_ldc, wp_ldc2_w, wp_lconst0, wp_lconst1, wp_aconst_null, wp_iload_0, wp_istore_0, wp_iload_1, wp_istore_1, wp_iload_2, wp_istore_2, wp_iload_3, wp_istore_3, wp_iload, wp_istore, wp_lload_0, wp_lstore_0, wp_lload_1, wp_lstore_1, wp_lload_2, wp_lstore_2, wp_lload_3, wp_lstore_3, wp_lload, wp_lstore, wp_aload_0, wp_astore_0, wp_aload_1, wp_astore_1, wp_aload_2, wp_astore_2, wp_aload_3, wp_astore_3, wp_aload, wp_astore, wp_iinc, wp_iadd, wp_isub, wp_imul, wp_iand, wp_ior, wp_ixor, wp_ishl, wp_ishr, wp_iushr, wp_irem, wp_ladd, wp_lsub, wp_lmul, wp_land, wp_lor, wp_lxor, wp_lshl, wp_lshr, wp_lushr, wp_lrem, wp_lcmp, wp_i2l, wp_l2i, wp_dupI, wp_dupA, wp_dup2J, wp_dup2IA, wp_popI, wp_popA, wp_pop2, wp_goto, wp_if_eq, wp_icmp_eq, wp_if_ne, wp_icmp_ne, wp_if_lt, wp_icmp_lt, wp_if_ge, wp_icmp_ge, wp_if_gt, wp_icmp_gt, wp_if_le, wp_icmp_le, wp_ifnull, wp_ifnonnull, wp_acmp_eq, wp_acmp_ne, wp_tableswitch, wp_get0, wp_put0, wp_get1, wp_put1, wp_get2, wp_put2, wp_get3, wp_put3, wp_new, wp_newarray, wp_anewarray, wp_alen, wp_iaload, wp_laload, wp_baload, wp_aaload, wp_iastore, wp_lastore, wp_bastore, wp_aastore, wp_return, wp_ireturnI, wp_ireturnZ, wp_lreturn, wp_areturnO, wp_areturnA, wp_max, wp_min, wp_obj, wp_virt, wp_nil, ld_I0, ld_Is, ld_J0, ld_Js, ld_A0, ld_As, ha_0, ha_s, cx_put1, cx_put2, cx_dl, cx_tgt, true_and, and_true, Nat.reduceAdd, Nat.reduceSub, Int.reduceAdd, Int.reduceNeg, Int.reduceToNat, Int.reduceSub, Int.cast_ofNat_Int, List.take_succ_cons, List.take_zero, List.drop_succ_cons, List.drop_zero, List.take_nil, List.drop_nil, Option.toList_some, Option.toList_none, List.cons_append, List.nil_append, wp_spec, ne_eq, Nat.reduceEqDiff, not_false_eq_true, true_or, or_true]
    exact hK
  refine bx_X10_byteOf_0 hY (pf2_ok hY) ?_
  simp only [wp_iconst, wp_bipush, wp_sipush, wp_ldc, wp_ldc2_w, wp_lconst0, wp_lconst1, wp_aconst_null, wp_iload_0, wp_istore_0, wp_iload_1, wp_istore_1, wp_iload_2, wp_istore_2, wp_iload_3, wp_istore_3, wp_iload, wp_istore, wp_lload_0, wp_lstore_0, wp_lload_1, wp_lstore_1, wp_lload_2, wp_lstore_2, wp_lload_3, wp_lstore_3, wp_lload, wp_lstore, wp_aload_0, wp_astore_0, wp_aload_1, wp_astore_1, wp_aload_2, wp_astore_2, wp_aload_3, wp_astore_3, wp_aload, wp_astore, wp_iinc, wp_iadd, wp_isub, wp_imul, wp_iand, wp_ior, wp_ixor, wp_ishl, wp_ishr, wp_iushr, wp_irem, wp_ladd, wp_lsub, wp_lmul, wp_land, wp_lor, wp_lxor, wp_lshl, wp_lshr, wp_lushr, wp_lrem, wp_lcmp, wp_i2l, wp_l2i, wp_dupI, wp_dupA, wp_dup2J, wp_dup2IA, wp_popI, wp_popA, wp_pop2, wp_goto, wp_if_eq, wp_icmp_eq, wp_if_ne, wp_icmp_ne, wp_if_lt, wp_icmp_lt, wp_if_ge, wp_icmp_ge, wp_if_gt, wp_icmp_gt, wp_if_le, wp_icmp_le, wp_ifnull, wp_ifnonnull, wp_acmp_eq, wp_acmp_ne, wp_tableswitch, wp_get0, wp_put0, wp_get1, wp_put1, wp_get2, wp_put2, wp_get3, wp_put3, wp_new, wp_newarray, wp_anewarray, wp_alen, wp_iaload, wp_laload, wp_baload, wp_aaload, wp_iastore, wp_lastore, wp_bastore, wp_aastore, wp_return, wp_ireturnI, wp_ireturnZ, wp_lreturn, wp_areturnO, wp_areturnA, wp_max, wp_min, wp_obj, wp_virt, wp_nil, ld_I0, ld_Is, ld_J0, ld_Js, ld_A0, ld_As, ha_0, ha_s, cx_put1, cx_put2, cx_dl, cx_tgt, true_and, and_true, Nat.reduceAdd, Nat.reduceSub, Int.reduceAdd, Int.reduceNeg, Int.reduceToNat, Int.reduceSub, Int.cast_ofNat_Int, List.take_succ_cons, List.take_zero, List.drop_succ_cons, List.drop_zero, List.take_nil, List.drop_nil, Option.toList_some, Option.toList_none, List.cons_append, List.nil_append, wp_spec, ne_eq, Nat.reduceEqDiff, not_false_eq_true, true_or, or_true, hc]
  refine ⟨fun q => j12 (Or.inl (by omega)), fun q => ⟨fun q2 => ?_, fun q2 => j12 (Or.inr (by omega))⟩⟩
  have q3 : ¬ (u < 0 ∨ cq_I g x 75 ≤ u) := by omega
  rw [if_neg q3, ← F.fs.rd_ u (by omega) (by omega)] at hK
  refine bx_X10_byteOf_14 hY (pf2_ok hY) ?_
  simp only [wp_iconst, wp_bipush, wp_sipush, wp_ldc, wp_ldc2_w, wp_lconst0, wp_lconst1, wp_aconst_null, wp_iload_0, wp_istore_0, wp_iload_1, wp_istore_1, wp_iload_2, wp_istore_2, wp_iload_3, wp_istore_3, wp_iload, wp_istore, wp_lload_0, wp_lstore_0, wp_lload_1, wp_lstore_1, wp_lload_2, wp_lstore_2, wp_lload_3, wp_lstore_3, wp_lload, wp_lstore, wp_aload_0, wp_astore_0, wp_aload_1, wp_astore_1, wp_aload_2, wp_astore_2, wp_aload_3, wp_astore_3, wp_aload, wp_astore, wp_iinc, wp_iadd, wp_isub, wp_imul, wp_iand, wp_ior, wp_ixor, wp_ishl, wp_ishr, wp_iushr, wp_irem, wp_ladd, wp_lsub, wp_lmul, wp_land, wp_lor, wp_lxor, wp_lshl, wp_lshr, wp_lushr, wp_lrem, wp_lcmp, wp_i2l, wp_l2i, wp_dupI, wp_dupA, wp_dup2J, wp_dup2IA, wp_popI, wp_popA, wp_pop2, wp_goto, wp_if_eq, wp_icmp_eq, wp_if_ne, wp_icmp_ne, wp_if_lt, wp_icmp_lt, wp_if_ge, wp_icmp_ge, wp_if_gt, wp_icmp_gt, wp_if_le, wp_icmp_le, wp_ifnull, wp_ifnonnull, wp_acmp_eq, wp_acmp_ne, wp_tableswitch, wp_get0, wp_put0, wp_get1, wp_put1, wp_get2, wp_put2, wp_get3, wp_put3, wp_new, wp_newarray, wp_anewarray, wp_alen, wp_iaload, wp_laload, wp_baload, wp_aaload, wp_iastore, wp_lastore, wp_bastore, wp_aastore, wp_return, wp_ireturnI, wp_ireturnZ, wp_lreturn, wp_areturnO, wp_areturnA, wp_max, wp_min, wp_obj, wp_virt, wp_nil, ld_I0, ld_Is, ld_J0, ld_Js, ld_A0, ld_As, ha_0, ha_s, cx_put1, cx_put2, cx_dl, cx_tgt, true_and, and_true, Nat.reduceAdd, Nat.reduceSub, Int.reduceAdd, Int.reduceNeg, Int.reduceToNat, Int.reduceSub, Int.cast_ofNat_Int, List.take_succ_cons, List.take_zero, List.drop_succ_cons, List.drop_zero, List.take_nil, List.drop_nil, Option.toList_some, Option.toList_none, List.cons_append, List.nil_append, wp_spec, ne_eq, Nat.reduceEqDiff, not_false_eq_true, true_or, or_true, hc, F.fs.a10, F.fs.s2, zb, ra_104]
  exact ⟨by omega, hK⟩
theorem xa_count (hY : cY Y) {u : Int} (H : CI c n L Z E h0 [] h) (F : FX c x n pe ro pa lb tp rd en op ob T Lf h g) (hK : K (some (.inl (m_count g x u))) h) : cw Y mi_X10_count K 0 [some (.inr (.inr (some c))), some (.inl u)] [] h 0 0 := by
  have hc := H.cs
  have fs := F.fs
  unfold m_count at hK
  have a36 : u = 0 → cw Y mi_X10_count K 36 [some (.inr (.inr (some c))), some (.inl u)] [] h 0 0 := by
    intro q
    rw [if_pos q, ← fs.lc] at hK
    refine bx_X10_count_36 hY (pf2_ok hY) ?_
    simp only [wp_iconst, wp_bipush, wp_sipush, wp_ldc, wp_ldc2_w, wp_lconst0, wp_lconst1, wp_aconst_null, wp_iload_0, wp_istore_0, wp_iload_1, wp_istore_1, wp_iload_2, wp_istore_2, wp_iload_3, wp_istore_3, wp_iload, wp_istore, wp_lload_0, wp_lstore_0, wp_lload_1, wp_lstore_1, wp_lload_2, wp_lstore_2, wp_lload_3, wp_lstore_3, wp_lload, wp_lstore, wp_aload_0, wp_astore_0, wp_aload_1, wp_astore_1, wp_aload_2, wp_astore_2, wp_aload_3, wp_astore_3, wp_aload, wp_astore, wp_iinc, wp_iadd, wp_isub, wp_imul, wp_iand, wp_ior, wp_ixor, wp_ishl, wp_ishr, wp_iushr, wp_irem, wp_ladd, wp_lsub, wp_lmul, wp_land, wp_lor, wp_lxor, wp_lshl, wp_lshr, wp_lushr, wp_lrem, wp_lcmp, wp_i2l, wp_l2i, wp_dupI, wp_dupA, wp_dup2J, wp_dup2IA, wp_popI, wp_popA, wp_pop2, wp_goto, wp_if_eq, wp_icmp_eq, wp_if_ne, wp_icmp_ne, wp_if_lt, wp_icmp_lt, wp_if_ge, wp_icmp_ge, wp_if_gt, wp_icmp_gt, wp_if_le, wp_icmp_le, wp_ifnull, wp_ifnonnull, wp_acmp_eq, wp_acmp_ne, wp_tableswitch, wp_get0, wp_put0, wp_get1, wp_put1, wp_get2, wp_put2, wp_get3, wp_put3, wp_new, wp_newarray, wp_anewarray, wp_alen, wp_iaload, wp_laload, wp_baload, wp_aaload, wp_iastore, wp_lastore, wp_bastore, wp_aastore, wp_return, wp_ireturnI, wp_ireturnZ, wp_lreturn, wp_areturnO, wp_areturnA, wp_max, wp_min, wp_obj, wp_virt, wp_nil, ld_I0, ld_Is, ld_J0, ld_Js, ld_A0, ld_As, ha_0, ha_s, cx_put1, cx_put2, cx_dl, cx_tgt, true_and, and_true, Nat.reduceAdd, Nat.reduceSub, Int.reduceAdd, Int.reduceNeg, Int.reduceToNat, Int.reduceSub, Int.cast_ofNat_Int, List.take_succ_cons, List.take_zero, List.drop_succ_cons, List.drop_zero, List.take_nil, List.drop_nil, Option.toList_some, Option.toList_none, List.cons_append, List.nil_append, wp_spec, ne_eq, Nat.reduceEqDiff, not_false_eq_true, true_or, or_true, hc]
    exact hK
  have a41 : u = 1 → cw Y mi_X10_count K 41 [some (.inr (.inr (some c))), some (.inl u)] [] h 0 0 := by
    intro q
    rw [if_neg (by omega), if_pos q, ← fs.cc] at hK
    refine bx_X10_count_41 hY (pf2_ok hY) ?_
    simp only [wp_iconst, wp_bipush, wp_sipush, wp_ldc, wp_ldc2_w, wp_lconst0, wp_lconst1, wp_aconst_null, wp_iload_0, wp_istore_0, wp_iload_1, wp_istore_1, wp_iload_2, wp_istore_2, wp_iload_3, wp_istore_3, wp_iload, wp_istore, wp_lload_0, wp_lstore_0, wp_lload_1, wp_lstore_1, wp_lload_2, wp_lstore_2, wp_lload_3, wp_lstore_3, wp_lload, wp_lstore, wp_aload_0, wp_astore_0, wp_aload_1, wp_astore_1, wp_aload_2, wp_astore_2, wp_aload_3, wp_astore_3, wp_aload, wp_astore, wp_iinc, wp_iadd, wp_isub, wp_imul, wp_iand, wp_ior, wp_ixor, wp_ishl, wp_ishr, wp_iushr, wp_irem, wp_ladd, wp_lsub, wp_lmul, wp_land, wp_lor, wp_lxor, wp_lshl, wp_lshr, wp_lushr, wp_lrem, wp_lcmp, wp_i2l, wp_l2i, wp_dupI, wp_dupA, wp_dup2J, wp_dup2IA, wp_popI, wp_popA, wp_pop2, wp_goto, wp_if_eq, wp_icmp_eq, wp_if_ne, wp_icmp_ne, wp_if_lt, wp_icmp_lt, wp_if_ge, wp_icmp_ge, wp_if_gt, wp_icmp_gt, wp_if_le, wp_icmp_le, wp_ifnull, wp_ifnonnull, wp_acmp_eq, wp_acmp_ne, wp_tableswitch, wp_get0, wp_put0, wp_get1, wp_put1, wp_get2, wp_put2, wp_get3, wp_put3, wp_new, wp_newarray, wp_anewarray, wp_alen, wp_iaload, wp_laload, wp_baload, wp_aaload, wp_iastore, wp_lastore, wp_bastore, wp_aastore, wp_return, wp_ireturnI, wp_ireturnZ, wp_lreturn, wp_areturnO, wp_areturnA, wp_max, wp_min, wp_obj, wp_virt, wp_nil, ld_I0, ld_Is, ld_J0, ld_Js, ld_A0, ld_As, ha_0, ha_s, cx_put1, cx_put2, cx_dl, cx_tgt, true_and, and_true, Nat.reduceAdd, Nat.reduceSub, Int.reduceAdd, Int.reduceNeg, Int.reduceToNat, Int.reduceSub, Int.cast_ofNat_Int, List.take_succ_cons, List.take_zero, List.drop_succ_cons, List.drop_zero, List.take_nil, List.drop_nil, Option.toList_some, Option.toList_none, List.cons_append, List.nil_append, wp_spec, ne_eq, Nat.reduceEqDiff, not_false_eq_true, true_or, or_true, hc]
    exact hK
  have a46 : u = 2 → cw Y mi_X10_count K 46 [some (.inr (.inr (some c))), some (.inl u)] [] h 0 0 := by
    intro q
    rw [if_neg (by omega), if_neg (by omega), if_pos q, ← fs.kc] at hK
    refine bx_X10_count_46 hY (pf2_ok hY) ?_
    simp only [wp_iconst, wp_bipush, wp_sipush, wp_ldc, wp_ldc2_w, wp_lconst0, wp_lconst1, wp_aconst_null, wp_iload_0, wp_istore_0, wp_iload_1, wp_istore_1, wp_iload_2, wp_istore_2, wp_iload_3, wp_istore_3, wp_iload, wp_istore, wp_lload_0, wp_lstore_0, wp_lload_1, wp_lstore_1, wp_lload_2, wp_lstore_2, wp_lload_3, wp_lstore_3, wp_lload, wp_lstore, wp_aload_0, wp_astore_0, wp_aload_1, wp_astore_1, wp_aload_2, wp_astore_2, wp_aload_3, wp_astore_3, wp_aload, wp_astore, wp_iinc, wp_iadd, wp_isub, wp_imul, wp_iand, wp_ior, wp_ixor, wp_ishl, wp_ishr, wp_iushr, wp_irem, wp_ladd, wp_lsub, wp_lmul, wp_land, wp_lor, wp_lxor, wp_lshl, wp_lshr, wp_lushr, wp_lrem, wp_lcmp, wp_i2l, wp_l2i, wp_dupI, wp_dupA, wp_dup2J, wp_dup2IA, wp_popI, wp_popA, wp_pop2, wp_goto, wp_if_eq, wp_icmp_eq, wp_if_ne, wp_icmp_ne, wp_if_lt, wp_icmp_lt, wp_if_ge, wp_icmp_ge, wp_if_gt, wp_icmp_gt, wp_if_le, wp_icmp_le, wp_ifnull, wp_ifnonnull, wp_acmp_eq, wp_acmp_ne, wp_tableswitch, wp_get0, wp_put0, wp_get1, wp_put1, wp_get2, wp_put2, wp_get3, wp_put3, wp_new, wp_newarray, wp_anewarray, wp_alen, wp_iaload, wp_laload, wp_baload, wp_aaload, wp_iastore, wp_lastore, wp_bastore, wp_aastore, wp_return, wp_ireturnI, wp_ireturnZ, wp_lreturn, wp_areturnO, wp_areturnA, wp_max, wp_min, wp_obj, wp_virt, wp_nil, ld_I0, ld_Is, ld_J0, ld_Js, ld_A0, ld_As, ha_0, ha_s, cx_put1, cx_put2, cx_dl, cx_tgt, true_and, and_true, Nat.reduceAdd, Nat.reduceSub, Int.reduceAdd, Int.reduceNeg, Int.reduceToNat, Int.reduceSub, Int.cast_ofNat_Int, List.take_succ_cons, List.take_zero, List.drop_succ_cons, List.drop_zero, List.take_nil, List.drop_nil, Option.toList_some, Option.toList_none, List.cons_append, List.nil_append, wp_spec, ne_eq, Nat.reduceEqDiff, not_false_eq_true, true_or, or_true, hc]
    exact hK
  have a51 : u = 3 → cw Y mi_X10_count K 51 [some (.inr (.inr (some c))), some (.inl u)] [] h 0 0 := by
    intro q
    rw [if_neg (by omega), if_neg (by omega), if_neg (by omega), if_pos q, ← fs.rc] at hK
    refine bx_X10_count_51 hY (pf2_ok hY) ?_
    simp only [wp_iconst, wp_bipush, wp_sipush, wp_ldc, wp_ldc2_w, wp_lconst0, wp_lconst1, wp_aconst_null, wp_iload_0, wp_istore_0, wp_iload_1, wp_istore_1, wp_iload_2, wp_istore_2, wp_iload_3, wp_istore_3, wp_iload, wp_istore, wp_lload_0, wp_lstore_0, wp_lload_1, wp_lstore_1, wp_lload_2, wp_lstore_2, wp_lload_3, wp_lstore_3, wp_lload, wp_lstore, wp_aload_0, wp_astore_0, wp_aload_1, wp_astore_1, wp_aload_2, wp_astore_2, wp_aload_3, wp_astore_3, wp_aload, wp_astore, wp_iinc, wp_iadd, wp_isub, wp_imul, wp_iand, wp_ior, wp_ixor, wp_ishl, wp_ishr, wp_iushr, wp_irem, wp_ladd, wp_lsub, wp_lmul, wp_land, wp_lor, wp_lxor, wp_lshl, wp_lshr, wp_lushr, wp_lrem, wp_lcmp, wp_i2l, wp_l2i, wp_dupI, wp_dupA, wp_dup2J, wp_dup2IA, wp_popI, wp_popA, wp_pop2, wp_goto, wp_if_eq, wp_icmp_eq, wp_if_ne, wp_icmp_ne, wp_if_lt, wp_icmp_lt, wp_if_ge, wp_icmp_ge, wp_if_gt, wp_icmp_gt, wp_if_le, wp_icmp_le, wp_ifnull, wp_ifnonnull, wp_acmp_eq, wp_acmp_ne, wp_tableswitch, wp_get0, wp_put0, wp_get1, wp_put1, wp_get2, wp_put2, wp_get3, wp_put3, wp_new, wp_newarray, wp_anewarray, wp_alen, wp_iaload, wp_laload, wp_baload, wp_aaload, wp_iastore, wp_lastore, wp_bastore, wp_aastore, wp_return, wp_ireturnI, wp_ireturnZ, wp_lreturn, wp_areturnO, wp_areturnA, wp_max, wp_min, wp_obj, wp_virt, wp_nil, ld_I0, ld_Is, ld_J0, ld_Js, ld_A0, ld_As, ha_0, ha_s, cx_put1, cx_put2, cx_dl, cx_tgt, true_and, and_true, Nat.reduceAdd, Nat.reduceSub, Int.reduceAdd, Int.reduceNeg, Int.reduceToNat, Int.reduceSub, Int.cast_ofNat_Int, List.take_succ_cons, List.take_zero, List.drop_succ_cons, List.drop_zero, List.take_nil, List.drop_nil, Option.toList_some, Option.toList_none, List.cons_append, List.nil_append, wp_spec, ne_eq, Nat.reduceEqDiff, not_false_eq_true, true_or, or_true, hc]
    exact hK
  have a56 : u = 4 → cw Y mi_X10_count K 56 [some (.inr (.inr (some c))), some (.inl u)] [] h 0 0 := by
    intro q
    rw [if_neg (by omega), if_neg (by omega), if_neg (by omega), if_neg (by omega), if_pos q, ← fs.tc] at hK
    refine bx_X10_count_56 hY (pf2_ok hY) ?_
    simp only [wp_iconst, wp_bipush, wp_sipush, wp_ldc, wp_ldc2_w, wp_lconst0, wp_lconst1, wp_aconst_null, wp_iload_0, wp_istore_0, wp_iload_1, wp_istore_1, wp_iload_2, wp_istore_2, wp_iload_3, wp_istore_3, wp_iload, wp_istore, wp_lload_0, wp_lstore_0, wp_lload_1, wp_lstore_1, wp_lload_2, wp_lstore_2, wp_lload_3, wp_lstore_3, wp_lload, wp_lstore, wp_aload_0, wp_astore_0, wp_aload_1, wp_astore_1, wp_aload_2, wp_astore_2, wp_aload_3, wp_astore_3, wp_aload, wp_astore, wp_iinc, wp_iadd, wp_isub, wp_imul, wp_iand, wp_ior, wp_ixor, wp_ishl, wp_ishr, wp_iushr, wp_irem, wp_ladd, wp_lsub, wp_lmul, wp_land, wp_lor, wp_lxor, wp_lshl, wp_lshr, wp_lushr, wp_lrem, wp_lcmp, wp_i2l, wp_l2i, wp_dupI, wp_dupA, wp_dup2J, wp_dup2IA, wp_popI, wp_popA, wp_pop2, wp_goto, wp_if_eq, wp_icmp_eq, wp_if_ne, wp_icmp_ne, wp_if_lt, wp_icmp_lt, wp_if_ge, wp_icmp_ge, wp_if_gt, wp_icmp_gt, wp_if_le, wp_icmp_le, wp_ifnull, wp_ifnonnull, wp_acmp_eq, wp_acmp_ne, wp_tableswitch, wp_get0, wp_put0, wp_get1, wp_put1, wp_get2, wp_put2, wp_get3, wp_put3, wp_new, wp_newarray, wp_anewarray, wp_alen, wp_iaload, wp_laload, wp_baload, wp_aaload, wp_iastore, wp_lastore, wp_bastore, wp_aastore, wp_return, wp_ireturnI, wp_ireturnZ, wp_lreturn, wp_areturnO, wp_areturnA, wp_max, wp_min, wp_obj, wp_virt, wp_nil, ld_I0, ld_Is, ld_J0, ld_Js, ld_A0, ld_As, ha_0, ha_s, cx_put1, cx_put2, cx_dl, cx_tgt, true_and, and_true, Nat.reduceAdd, Nat.reduceSub, Int.reduceAdd, Int.reduceNeg, Int.reduceToNat, Int.reduceSub, Int.cast_ofNat_Int, List.take_succ_cons, List.take_zero, List.drop_succ_cons, List.drop_zero, List.take_nil, List.drop_nil, Option.toList_some, Option.toList_none, List.cons_append, List.nil_append, wp_spec, ne_eq, Nat.reduceEqDiff, not_false_eq_true, true_or, or_true, hc]
    exact hK
  have a61 : u < 0 ∨ 4 < u → cw Y mi_X10_count K 61 [some (.inr (.inr (some c))), some (.inl u)] [] h 0 0 := by
    intro q
    rw [if_neg (by omega), if_neg (by omega), if_neg (by omega), if_neg (by omega), if_neg (by omega)] at hK
    refine bx_X10_count_61 hY (pf2_ok hY) ?_
    simp only [wp_iconst, wp_bipush, wp_sipush, wp_ldc, wp_ldc2_w, wp_lconst0, wp_lconst1, wp_aconst_null, wp_iload_0, wp_istore_0, wp_iload_1, wp_istore_1, wp_iload_2, wp_istore_2, wp_iload_3, wp_istore_3, wp_iload, wp_istore, wp_lload_0, wp_lstore_0, wp_lload_1, wp_lstore_1, wp_lload_2, wp_lstore_2, wp_lload_3, wp_lstore_3, wp_lload, wp_lstore, wp_aload_0, wp_astore_0, wp_aload_1, wp_astore_1, wp_aload_2, wp_astore_2, wp_aload_3, wp_astore_3, wp_aload, wp_astore, wp_iinc, wp_iadd, wp_isub, wp_imul, wp_iand, wp_ior, wp_ixor, wp_ishl, wp_ishr, wp_iushr, wp_irem, wp_ladd, wp_lsub, wp_lmul, wp_land, wp_lor, wp_lxor, wp_lshl, wp_lshr, wp_lushr, wp_lrem, wp_lcmp, wp_i2l, wp_l2i, wp_dupI, wp_dupA, wp_dup2J, wp_dup2IA, wp_popI, wp_popA, wp_pop2, wp_goto, wp_if_eq, wp_icmp_eq, wp_if_ne, wp_icmp_ne, wp_if_lt, wp_icmp_lt, wp_if_ge, wp_icmp_ge, wp_if_gt, wp_icmp_gt, wp_if_le, wp_icmp_le, wp_ifnull, wp_ifnonnull, wp_acmp_eq, wp_acmp_ne, wp_tableswitch, wp_get0, wp_put0, wp_get1, wp_put1, wp_get2, wp_put2, wp_get3, wp_put3, wp_new, wp_newarray, wp_anewarray, wp_alen, wp_iaload, wp_laload, wp_baload, wp_aaload, wp_iastore, wp_lastore, wp_bastore, wp_aastore, wp_return, wp_ireturnI, wp_ireturnZ, wp_lreturn, wp_areturnO, wp_areturnA, wp_max, wp_min, wp_obj, wp_virt, wp_nil, ld_I0, ld_Is, ld_J0, ld_Js, ld_A0, ld_As, ha_0, ha_s, cx_put1, cx_put2, cx_dl, cx_tgt, true_and, and_true, Nat.reduceAdd, Nat.reduceSub, Int.reduceAdd, Int.reduceNeg, Int.reduceToNat, Int.reduceSub, Int.cast_ofNat_Int, List.take_succ_cons, List.take_zero, List.drop_succ_cons, List.drop_zero, List.take_nil, List.drop_nil, Option.toList_some, Option.toList_none, List.cons_append, List.nil_append, wp_spec, ne_eq, Nat.reduceEqDiff, not_false_eq_true, true_or, or_true]
    exact hK
  refine bx_X10_count_0 hY (pf2_ok hY) ?_
  simp only [wp_iconst, wp_bipush, wp_sipush, wp_ldc, wp_ldc2_w, wp_lconst0, wp_lconst1, wp_aconst_null, wp_iload_0, wp_istore_0, wp_iload_1, wp_istore_1, wp_iload_2, wp_istore_2, wp_iload_3, wp_istore_3, wp_iload, wp_istore, wp_lload_0, wp_lstore_0, wp_lload_1, wp_lstore_1, wp_lload_2, wp_lstore_2, wp_lload_3, wp_lstore_3, wp_lload, wp_lstore, wp_aload_0, wp_astore_0, wp_aload_1, wp_astore_1, wp_aload_2, wp_astore_2, wp_aload_3, wp_astore_3, wp_aload, wp_astore, wp_iinc, wp_iadd, wp_isub, wp_imul, wp_iand, wp_ior, wp_ixor, wp_ishl, wp_ishr, wp_iushr, wp_irem, wp_ladd, wp_lsub, wp_lmul, wp_land, wp_lor, wp_lxor, wp_lshl, wp_lshr, wp_lushr, wp_lrem, wp_lcmp, wp_i2l, wp_l2i, wp_dupI, wp_dupA, wp_dup2J, wp_dup2IA, wp_popI, wp_popA, wp_pop2, wp_goto, wp_if_eq, wp_icmp_eq, wp_if_ne, wp_icmp_ne, wp_if_lt, wp_icmp_lt, wp_if_ge, wp_icmp_ge, wp_if_gt, wp_icmp_gt, wp_if_le, wp_icmp_le, wp_ifnull, wp_ifnonnull, wp_acmp_eq, wp_acmp_ne, wp_tableswitch, wp_get0, wp_put0, wp_get1, wp_put1, wp_get2, wp_put2, wp_get3, wp_put3, wp_new, wp_newarray, wp_anewarray, wp_alen, wp_iaload, wp_laload, wp_baload, wp_aaload, wp_iastore, wp_lastore, wp_bastore, wp_aastore, wp_return, wp_ireturnI, wp_ireturnZ, wp_lreturn, wp_areturnO, wp_areturnA, wp_max, wp_min, wp_obj, wp_virt, wp_nil, ld_I0, ld_Is, ld_J0, ld_Js, ld_A0, ld_As, ha_0, ha_s, cx_put1, cx_put2, cx_dl, cx_tgt, true_and, and_true, Nat.reduceAdd, Nat.reduceSub, Int.reduceAdd, Int.reduceNeg, Int.reduceToNat, Int.reduceSub, Int.cast_ofNat_Int, List.take_succ_cons, List.take_zero, List.drop_succ_cons, List.drop_zero, List.take_nil, List.drop_nil, Option.toList_some, Option.toList_none, List.cons_append, List.nil_append, wp_spec, ne_eq, Nat.reduceEqDiff, not_false_eq_true, true_or, or_true, cx_swf]
  exact ⟨fun q => a61 (by omega), fun q => a36 (by omega), fun q => a41 (by omega), fun q => a46 (by omega), fun q => a51 (by omega), fun q => a56 (by omega)⟩
theorem xa_letter (hY : cY Y) {u v : Int} (H : CI c n L Z E h0 [] h) (F : FX c x n pe ro pa lb tp rd en op ob T Lf h g) (hK : K (some (.inl (aLet g x u v))) h) : cw Y mi_X10_letter K 0 [some (.inr (.inr (some c))), some (.inl u), some (.inl v), none] [] h 0 0 := by
  have hc := H.cs
  have lc := F.fs.lc
  have l80 := F.l80
  unfold aLet at hK
  refine bx_X10_letter_0 hY (pf2_ok hY) ?_
  simp only [wp_iconst, wp_bipush, wp_sipush, wp_ldc, wp_ldc2_w, wp_lconst0, wp_lconst1, wp_aconst_null, wp_iload_0, wp_istore_0, wp_iload_1, wp_istore_1, wp_iload_2, wp_istore_2, wp_iload_3, wp_istore_3, wp_iload, wp_istore, wp_lload_0, wp_lstore_0, wp_lload_1, wp_lstore_1, wp_lload_2, wp_lstore_2, wp_lload_3, wp_lstore_3, wp_lload, wp_lstore, wp_aload_0, wp_astore_0, wp_aload_1, wp_astore_1, wp_aload_2, wp_astore_2, wp_aload_3, wp_astore_3, wp_aload, wp_astore, wp_iinc, wp_iadd, wp_isub, wp_imul, wp_iand, wp_ior, wp_ixor, wp_ishl, wp_ishr, wp_iushr, wp_irem, wp_ladd, wp_lsub, wp_lmul, wp_land, wp_lor, wp_lxor, wp_lshl, wp_lshr, wp_lushr, wp_lrem, wp_lcmp, wp_i2l, wp_l2i, wp_dupI, wp_dupA, wp_dup2J, wp_dup2IA, wp_popI, wp_popA, wp_pop2, wp_goto, wp_if_eq, wp_icmp_eq, wp_if_ne, wp_icmp_ne, wp_if_lt, wp_icmp_lt, wp_if_ge, wp_icmp_ge, wp_if_gt, wp_icmp_gt, wp_if_le, wp_icmp_le, wp_ifnull, wp_ifnonnull, wp_acmp_eq, wp_acmp_ne, wp_tableswitch, wp_get0, wp_put0, wp_get1, wp_put1, wp_get2, wp_put2, wp_get3, wp_put3, wp_new, wp_newarray, wp_anewarray, wp_alen, wp_iaload, wp_laload, wp_baload, wp_aaload, wp_iastore, wp_lastore, wp_bastore, wp_aastore, wp_return, wp_ireturnI, wp_ireturnZ, wp_lreturn, wp_areturnO, wp_areturnA, wp_max, wp_min, wp_obj, wp_virt, wp_nil, ld_I0, ld_Is, ld_J0, ld_Js, ld_A0, ld_As, ha_0, ha_s, cx_put1, cx_put2, cx_dl, cx_tgt, true_and, and_true, Nat.reduceAdd, Nat.reduceSub, Int.reduceAdd, Int.reduceNeg, Int.reduceToNat, Int.reduceSub, Int.cast_ofNat_Int, List.take_succ_cons, List.take_zero, List.drop_succ_cons, List.drop_zero, List.take_nil, List.drop_nil, Option.toList_some, Option.toList_none, List.cons_append, List.nil_append, wp_spec, ne_eq, Nat.reduceEqDiff, not_false_eq_true, true_or, or_true]
  refine cl_X10_isLetter (Nat.le_of_ble_eq_true rfl) hc (Nat.le_refl _) (Nat.le_refl _) (c_X10_isLetter hY H (fun q => ?_) (fun hi => ?_))
  · rw [lc] at q
    rw [if_neg (fun z => q z.1)] at hK
    refine bx_X10_letter_5 hY (pf2_ok hY) ?_
    simp only [wp_iconst, wp_bipush, wp_sipush, wp_ldc, wp_ldc2_w, wp_lconst0, wp_lconst1, wp_aconst_null, wp_iload_0, wp_istore_0, wp_iload_1, wp_istore_1, wp_iload_2, wp_istore_2, wp_iload_3, wp_istore_3, wp_iload, wp_istore, wp_lload_0, wp_lstore_0, wp_lload_1, wp_lstore_1, wp_lload_2, wp_lstore_2, wp_lload_3, wp_lstore_3, wp_lload, wp_lstore, wp_aload_0, wp_astore_0, wp_aload_1, wp_astore_1, wp_aload_2, wp_astore_2, wp_aload_3, wp_astore_3, wp_aload, wp_astore, wp_iinc, wp_iadd, wp_isub, wp_imul, wp_iand, wp_ior, wp_ixor, wp_ishl, wp_ishr, wp_iushr, wp_irem, wp_ladd, wp_lsub, wp_lmul, wp_land, wp_lor, wp_lxor, wp_lshl, wp_lshr, wp_lushr, wp_lrem, wp_lcmp, wp_i2l, wp_l2i, wp_dupI, wp_dupA, wp_dup2J, wp_dup2IA, wp_popI, wp_popA, wp_pop2, wp_goto, wp_if_eq, wp_icmp_eq, wp_if_ne, wp_icmp_ne, wp_if_lt, wp_icmp_lt, wp_if_ge, wp_icmp_ge, wp_if_gt, wp_icmp_gt, wp_if_le, wp_icmp_le, wp_ifnull, wp_ifnonnull, wp_acmp_eq, wp_acmp_ne, wp_tableswitch, wp_get0, wp_put0, wp_get1, wp_put1, wp_get2, wp_put2, wp_get3, wp_put3, wp_new, wp_newarray, wp_anewarray, wp_alen, wp_iaload, wp_laload, wp_baload, wp_aaload, wp_iastore, wp_lastore, wp_bastore, wp_aastore, wp_return, wp_ireturnI, wp_ireturnZ, wp_lreturn, wp_areturnO, wp_areturnA, wp_max, wp_min, wp_obj, wp_virt, wp_nil, ld_I0, ld_Is, ld_J0, ld_Js, ld_A0, ld_As, ha_0, ha_s, cx_put1, cx_put2, cx_dl, cx_tgt, true_and, and_true, Nat.reduceAdd, Nat.reduceSub, Int.reduceAdd, Int.reduceNeg, Int.reduceToNat, Int.reduceSub, Int.cast_ofNat_Int, List.take_succ_cons, List.take_zero, List.drop_succ_cons, List.drop_zero, List.take_nil, List.drop_nil, Option.toList_some, Option.toList_none, List.cons_append, List.nil_append, wp_spec, ne_eq, Nat.reduceEqDiff, not_false_eq_true, true_or, or_true, Nat.left_eq_add, Nat.add_eq_left, Nat.add_left_cancel_iff, Nat.reduceEqDiff, Int.reduceEq, false_and, and_false, if_false, if_true, and_self, true_and, true_or, or_true, false_or, or_false]
    exact ⟨fun w => absurd trivial w, fun _ => hK⟩
  · rw [lc] at hi
    obtain ⟨e, f⟩ := F.fl u hi.1 hi.2
    have zl : cq_z h lb = 80 := H.tz F.s1
    have sz := f.sz
    have zr := f.zr
    refine bx_X10_letter_5 hY (pf2_ok hY) ?_
    simp only [wp_iconst, wp_bipush, wp_sipush, wp_ldc, wp_ldc2_w, wp_lconst0, wp_lconst1, wp_aconst_null, wp_iload_0, wp_istore_0, wp_iload_1, wp_istore_1, wp_iload_2, wp_istore_2, wp_iload_3, wp_istore_3, wp_iload, wp_istore, wp_lload_0, wp_lstore_0, wp_lload_1, wp_lstore_1, wp_lload_2, wp_lstore_2, wp_lload_3, wp_lstore_3, wp_lload, wp_lstore, wp_aload_0, wp_astore_0, wp_aload_1, wp_astore_1, wp_aload_2, wp_astore_2, wp_aload_3, wp_astore_3, wp_aload, wp_astore, wp_iinc, wp_iadd, wp_isub, wp_imul, wp_iand, wp_ior, wp_ixor, wp_ishl, wp_ishr, wp_iushr, wp_irem, wp_ladd, wp_lsub, wp_lmul, wp_land, wp_lor, wp_lxor, wp_lshl, wp_lshr, wp_lushr, wp_lrem, wp_lcmp, wp_i2l, wp_l2i, wp_dupI, wp_dupA, wp_dup2J, wp_dup2IA, wp_popI, wp_popA, wp_pop2, wp_goto, wp_if_eq, wp_icmp_eq, wp_if_ne, wp_icmp_ne, wp_if_lt, wp_icmp_lt, wp_if_ge, wp_icmp_ge, wp_if_gt, wp_icmp_gt, wp_if_le, wp_icmp_le, wp_ifnull, wp_ifnonnull, wp_acmp_eq, wp_acmp_ne, wp_tableswitch, wp_get0, wp_put0, wp_get1, wp_put1, wp_get2, wp_put2, wp_get3, wp_put3, wp_new, wp_newarray, wp_anewarray, wp_alen, wp_iaload, wp_laload, wp_baload, wp_aaload, wp_iastore, wp_lastore, wp_bastore, wp_aastore, wp_return, wp_ireturnI, wp_ireturnZ, wp_lreturn, wp_areturnO, wp_areturnA, wp_max, wp_min, wp_obj, wp_virt, wp_nil, ld_I0, ld_Is, ld_J0, ld_Js, ld_A0, ld_As, ha_0, ha_s, cx_put1, cx_put2, cx_dl, cx_tgt, true_and, and_true, Nat.reduceAdd, Nat.reduceSub, Int.reduceAdd, Int.reduceNeg, Int.reduceToNat, Int.reduceSub, Int.cast_ofNat_Int, List.take_succ_cons, List.take_zero, List.drop_succ_cons, List.drop_zero, List.take_nil, List.drop_nil, Option.toList_some, Option.toList_none, List.cons_append, List.nil_append, wp_spec, ne_eq, Nat.reduceEqDiff, not_false_eq_true, true_or, or_true, Nat.left_eq_add, Nat.add_eq_left, Nat.add_left_cancel_iff, Nat.reduceEqDiff, Int.reduceEq, false_and, and_false, if_false, if_true, and_self, true_and, true_or, or_true, false_or, or_false]
    refine ⟨fun _ => ?_, fun w => absurd (by decide) w⟩
    have j38 : ¬ (-1 ≤ v ∧ v < cq_I g (x + 63) u) → ∀ lv, cw Y mi_X10_letter K 38 lv [] h 0 0 := by
      intro q lv
      rw [if_neg (fun z => q z.2)] at hK
      refine bx_X10_letter_38 hY (pf2_ok hY) ?_
      simp only [wp_iconst, wp_bipush, wp_sipush, wp_ldc, wp_ldc2_w, wp_lconst0, wp_lconst1, wp_aconst_null, wp_iload_0, wp_istore_0, wp_iload_1, wp_istore_1, wp_iload_2, wp_istore_2, wp_iload_3, wp_istore_3, wp_iload, wp_istore, wp_lload_0, wp_lstore_0, wp_lload_1, wp_lstore_1, wp_lload_2, wp_lstore_2, wp_lload_3, wp_lstore_3, wp_lload, wp_lstore, wp_aload_0, wp_astore_0, wp_aload_1, wp_astore_1, wp_aload_2, wp_astore_2, wp_aload_3, wp_astore_3, wp_aload, wp_astore, wp_iinc, wp_iadd, wp_isub, wp_imul, wp_iand, wp_ior, wp_ixor, wp_ishl, wp_ishr, wp_iushr, wp_irem, wp_ladd, wp_lsub, wp_lmul, wp_land, wp_lor, wp_lxor, wp_lshl, wp_lshr, wp_lushr, wp_lrem, wp_lcmp, wp_i2l, wp_l2i, wp_dupI, wp_dupA, wp_dup2J, wp_dup2IA, wp_popI, wp_popA, wp_pop2, wp_goto, wp_if_eq, wp_icmp_eq, wp_if_ne, wp_icmp_ne, wp_if_lt, wp_icmp_lt, wp_if_ge, wp_icmp_ge, wp_if_gt, wp_icmp_gt, wp_if_le, wp_icmp_le, wp_ifnull, wp_ifnonnull, wp_acmp_eq, wp_acmp_ne, wp_tableswitch, wp_get0, wp_put0, wp_get1, wp_put1, wp_get2, wp_put2, wp_get3, wp_put3, wp_new, wp_newarray, wp_anewarray, wp_alen, wp_iaload, wp_laload, wp_baload, wp_aaload, wp_iastore, wp_lastore, wp_bastore, wp_aastore, wp_return, wp_ireturnI, wp_ireturnZ, wp_lreturn, wp_areturnO, wp_areturnA, wp_max, wp_min, wp_obj, wp_virt, wp_nil, ld_I0, ld_Is, ld_J0, ld_Js, ld_A0, ld_As, ha_0, ha_s, cx_put1, cx_put2, cx_dl, cx_tgt, true_and, and_true, Nat.reduceAdd, Nat.reduceSub, Int.reduceAdd, Int.reduceNeg, Int.reduceToNat, Int.reduceSub, Int.cast_ofNat_Int, List.take_succ_cons, List.take_zero, List.drop_succ_cons, List.drop_zero, List.take_nil, List.drop_nil, Option.toList_some, Option.toList_none, List.cons_append, List.nil_append, wp_spec, ne_eq, Nat.reduceEqDiff, not_false_eq_true, true_or, or_true]
      exact hK
    refine bx_X10_letter_10 hY (pf2_ok hY) ?_
    simp only [wp_iconst, wp_bipush, wp_sipush, wp_ldc, wp_ldc2_w, wp_lconst0, wp_lconst1, wp_aconst_null, wp_iload_0, wp_istore_0, wp_iload_1, wp_istore_1, wp_iload_2, wp_istore_2, wp_iload_3, wp_istore_3, wp_iload, wp_istore, wp_lload_0, wp_lstore_0, wp_lload_1, wp_lstore_1, wp_lload_2, wp_lstore_2, wp_lload_3, wp_lstore_3, wp_lload, wp_lstore, wp_aload_0, wp_astore_0, wp_aload_1, wp_astore_1, wp_aload_2, wp_astore_2, wp_aload_3, wp_astore_3, wp_aload, wp_astore, wp_iinc, wp_iadd, wp_isub, wp_imul, wp_iand, wp_ior, wp_ixor, wp_ishl, wp_ishr, wp_iushr, wp_irem, wp_ladd, wp_lsub, wp_lmul, wp_land, wp_lor, wp_lxor, wp_lshl, wp_lshr, wp_lushr, wp_lrem, wp_lcmp, wp_i2l, wp_l2i, wp_dupI, wp_dupA, wp_dup2J, wp_dup2IA, wp_popI, wp_popA, wp_pop2, wp_goto, wp_if_eq, wp_icmp_eq, wp_if_ne, wp_icmp_ne, wp_if_lt, wp_icmp_lt, wp_if_ge, wp_icmp_ge, wp_if_gt, wp_icmp_gt, wp_if_le, wp_icmp_le, wp_ifnull, wp_ifnonnull, wp_acmp_eq, wp_acmp_ne, wp_tableswitch, wp_get0, wp_put0, wp_get1, wp_put1, wp_get2, wp_put2, wp_get3, wp_put3, wp_new, wp_newarray, wp_anewarray, wp_alen, wp_iaload, wp_laload, wp_baload, wp_aaload, wp_iastore, wp_lastore, wp_bastore, wp_aastore, wp_return, wp_ireturnI, wp_ireturnZ, wp_lreturn, wp_areturnO, wp_areturnA, wp_max, wp_min, wp_obj, wp_virt, wp_nil, ld_I0, ld_Is, ld_J0, ld_Js, ld_A0, ld_As, ha_0, ha_s, cx_put1, cx_put2, cx_dl, cx_tgt, true_and, and_true, Nat.reduceAdd, Nat.reduceSub, Int.reduceAdd, Int.reduceNeg, Int.reduceToNat, Int.reduceSub, Int.cast_ofNat_Int, List.take_succ_cons, List.take_zero, List.drop_succ_cons, List.drop_zero, List.take_nil, List.drop_nil, Option.toList_some, Option.toList_none, List.cons_append, List.nil_append, wp_spec, ne_eq, Nat.reduceEqDiff, not_false_eq_true, true_or, or_true, hc, F.a1, F.s1, zl, e, f.s0, f.b0, f.s1, ra_102, ra_100]
    refine ⟨by omega, fun q => ?_, fun q => ⟨by omega, ?_⟩⟩
    · refine bx_X10_letter_28 hY (pf2_ok hY) ?_
      simp only [wp_iconst, wp_bipush, wp_sipush, wp_ldc, wp_ldc2_w, wp_lconst0, wp_lconst1, wp_aconst_null, wp_iload_0, wp_istore_0, wp_iload_1, wp_istore_1, wp_iload_2, wp_istore_2, wp_iload_3, wp_istore_3, wp_iload, wp_istore, wp_lload_0, wp_lstore_0, wp_lload_1, wp_lstore_1, wp_lload_2, wp_lstore_2, wp_lload_3, wp_lstore_3, wp_lload, wp_lstore, wp_aload_0, wp_astore_0, wp_aload_1, wp_astore_1, wp_aload_2, wp_astore_2, wp_aload_3, wp_astore_3, wp_aload, wp_astore, wp_iinc, wp_iadd, wp_isub, wp_imul, wp_iand, wp_ior, wp_ixor, wp_ishl, wp_ishr, wp_iushr, wp_irem, wp_ladd, wp_lsub, wp_lmul, wp_land, wp_lor, wp_lxor, wp_lshl, wp_lshr, wp_lushr, wp_lrem, wp_lcmp, wp_i2l, wp_l2i, wp_dupI, wp_dupA, wp_dup2J, wp_dup2IA, wp_popI, wp_popA, wp_pop2, wp_goto, wp_if_eq, wp_icmp_eq, wp_if_ne, wp_icmp_ne, wp_if_lt, wp_icmp_lt, wp_if_ge, wp_icmp_ge, wp_if_gt, wp_icmp_gt, wp_if_le, wp_icmp_le, wp_ifnull, wp_ifnonnull, wp_acmp_eq, wp_acmp_ne, wp_tableswitch, wp_get0, wp_put0, wp_get1, wp_put1, wp_get2, wp_put2, wp_get3, wp_put3, wp_new, wp_newarray, wp_anewarray, wp_alen, wp_iaload, wp_laload, wp_baload, wp_aaload, wp_iastore, wp_lastore, wp_bastore, wp_aastore, wp_return, wp_ireturnI, wp_ireturnZ, wp_lreturn, wp_areturnO, wp_areturnA, wp_max, wp_min, wp_obj, wp_virt, wp_nil, ld_I0, ld_Is, ld_J0, ld_Js, ld_A0, ld_As, ha_0, ha_s, cx_put1, cx_put2, cx_dl, cx_tgt, true_and, and_true, Nat.reduceAdd, Nat.reduceSub, Int.reduceAdd, Int.reduceNeg, Int.reduceToNat, Int.reduceSub, Int.cast_ofNat_Int, List.take_succ_cons, List.take_zero, List.drop_succ_cons, List.drop_zero, List.take_nil, List.drop_nil, Option.toList_some, Option.toList_none, List.cons_append, List.nil_append, wp_spec, ne_eq, Nat.reduceEqDiff, not_false_eq_true, true_or, or_true, f.s1, ra_100]
      refine ⟨fun q1 => j38 (by omega) _, fun q1 => ⟨by omega, fun q2 => ?_, fun q2 => j38 (by omega) _⟩⟩
      have c1 : (0 ≤ u ∧ u < cq_I g x 72) ∧ -1 ≤ v ∧ v < cq_I g (x + 63) u := ⟨hi, by omega, by omega⟩
      rw [if_pos c1, if_neg (by omega), ← f.by_ v (by omega) (by omega)] at hK
      refine bx_X10_letter_40 hY (pf2_ok hY) ?_
      simp only [wp_iconst, wp_bipush, wp_sipush, wp_ldc, wp_ldc2_w, wp_lconst0, wp_lconst1, wp_aconst_null, wp_iload_0, wp_istore_0, wp_iload_1, wp_istore_1, wp_iload_2, wp_istore_2, wp_iload_3, wp_istore_3, wp_iload, wp_istore, wp_lload_0, wp_lstore_0, wp_lload_1, wp_lstore_1, wp_lload_2, wp_lstore_2, wp_lload_3, wp_lstore_3, wp_lload, wp_lstore, wp_aload_0, wp_astore_0, wp_aload_1, wp_astore_1, wp_aload_2, wp_astore_2, wp_aload_3, wp_astore_3, wp_aload, wp_astore, wp_iinc, wp_iadd, wp_isub, wp_imul, wp_iand, wp_ior, wp_ixor, wp_ishl, wp_ishr, wp_iushr, wp_irem, wp_ladd, wp_lsub, wp_lmul, wp_land, wp_lor, wp_lxor, wp_lshl, wp_lshr, wp_lushr, wp_lrem, wp_lcmp, wp_i2l, wp_l2i, wp_dupI, wp_dupA, wp_dup2J, wp_dup2IA, wp_popI, wp_popA, wp_pop2, wp_goto, wp_if_eq, wp_icmp_eq, wp_if_ne, wp_icmp_ne, wp_if_lt, wp_icmp_lt, wp_if_ge, wp_icmp_ge, wp_if_gt, wp_icmp_gt, wp_if_le, wp_icmp_le, wp_ifnull, wp_ifnonnull, wp_acmp_eq, wp_acmp_ne, wp_tableswitch, wp_get0, wp_put0, wp_get1, wp_put1, wp_get2, wp_put2, wp_get3, wp_put3, wp_new, wp_newarray, wp_anewarray, wp_alen, wp_iaload, wp_laload, wp_baload, wp_aaload, wp_iastore, wp_lastore, wp_bastore, wp_aastore, wp_return, wp_ireturnI, wp_ireturnZ, wp_lreturn, wp_areturnO, wp_areturnA, wp_max, wp_min, wp_obj, wp_virt, wp_nil, ld_I0, ld_Is, ld_J0, ld_Js, ld_A0, ld_As, ha_0, ha_s, cx_put1, cx_put2, cx_dl, cx_tgt, true_and, and_true, Nat.reduceAdd, Nat.reduceSub, Int.reduceAdd, Int.reduceNeg, Int.reduceToNat, Int.reduceSub, Int.cast_ofNat_Int, List.take_succ_cons, List.take_zero, List.drop_succ_cons, List.drop_zero, List.take_nil, List.drop_nil, Option.toList_some, Option.toList_none, List.cons_append, List.nil_append, wp_spec, ne_eq, Nat.reduceEqDiff, not_false_eq_true, true_or, or_true, f.s1, ra_100]
      exact ⟨by omega, hK⟩
    · have c1 : (0 ≤ u ∧ u < cq_I g x 72) ∧ -1 ≤ v ∧ v < cq_I g (x + 63) u := ⟨hi, by omega, by omega⟩
      rw [if_pos c1, if_pos (by omega), ← sz] at hK
      exact hK
end
