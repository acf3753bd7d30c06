/-! the reference: each of its calls -/
section
variable {Y : cx_Y} {K : Option cx_V → cx_Q → Prop} {x : Nat} {n L k : Int} {U V : Int → Int} {h0 h : cx_Q}
theorem z_X11_register (hY : cY Y) {u : Int} (R : RI x n L U V k h0 h) (hk : 0 ≤ k ∧ k ≤ 63) (hn : 2 ≤ n ∧ n ≤ 6) (hV : ∀ u, 0 ≤ V u ∧ V u ≤ 20) (hUV : ∀ u, U u = 0 → V u = 0)
    (hB : ¬ (0 ≤ u ∧ u < n) → ∀ h', RI x n L U V (k + 1) h0 h' → K (some (.inl (-1))) h') (h0' : 0 ≤ u ∧ u < n → U u ≠ 0 → ∀ h', RI x n L U V (k + 1) h0 h' → K (some (.inl 0)) h')
    (h1 : 0 ≤ u ∧ u < n → U u = 0 → ∀ h', RI x n L (fu U u 1) (fu V u 1) (k + 1) h0 h' → K (some (.inl 1)) h') : cw Y mi_X11_register K 0 [some (.inr (.inr (some x))), some (.inl u)] [] h 0 0 := by
  have e0 := R.n0
  have e11 := R.e11
  have e16 := R.e16
  have iu : m_isUser h x u = (0 ≤ u ∧ u < n) := by unfold m_isUser; rw [e0]
  refine c_X11_register hY R.1.rS R.2 (by omega) (by omega) (by omega) (by rw [e16]; exact hV) (by rw [e16, e11]; exact hUV) R.1.r12 (by omega) ?_ ?_ ?_
  · rw [iu]; exact fun q => hB q _ R.up
  · rw [iu, e11]; exact fun q w => h0' q w _ R.up
  · rw [iu, e11]
    intro q w g e t
    have M := (R.1.reg (u := u)).eT e
    rw [hUV u w] at M
    exact h1 q w _ (RI.mk M t (by omega) (by omega) (by omega) (by omega))
theorem z_X11_rotate (hY : cY Y) {u : Int} (R : RI x n L U V k h0 h) (hk : 0 ≤ k ∧ k ≤ 63) (hn : 2 ≤ n ∧ n ≤ 6) (hV : ∀ u, 0 ≤ V u ∧ V u ≤ 20)
    (hB : ¬ (0 ≤ u ∧ u < n) → ∀ h', RI x n L U V (k + 1) h0 h' → K (some (.inl (-1))) h') (h0' : 0 ≤ u ∧ u < n → U u = 0 → ∀ h', RI x n L U V (k + 1) h0 h' → K (some (.inl (-2))) h')
    (hF : 0 ≤ u ∧ u < n → U u ≠ 0 → V u = 20 → ∀ h', RI x n L U V (k + 1) h0 h' → K (some (.inl (-3))) h')
    (h1 : 0 ≤ u ∧ u < n → U u ≠ 0 → V u ≠ 20 → ∀ h', RI x n L U (fu V u (V u + 1)) (k + 1) h0 h' → K (some (.inl (V u + 1))) h') : cw Y mi_X11_rotate K 0 [some (.inr (.inr (some x))), some (.inl u)] [] h 0 0 := by
  have e0 := R.n0
  have e11 := R.e11
  have e16 := R.e16
  have iu : m_isUser h x u = (0 ≤ u ∧ u < n) := by unfold m_isUser; rw [e0]
  refine c_X11_rotate hY R.1.rS R.2 (by omega) (by omega) (by omega) (by rw [e16]; exact hV) R.1.r12 (by omega) ?_ ?_ ?_ ?_
  · rw [iu]; exact fun q => hB q _ R.up
  · rw [iu, e11]; exact fun q w => h0' q w _ R.up
  · rw [iu, e11, e16]; exact fun q w z => hF q w z _ R.up
  · rw [iu, e11, e16]
    intro q w z g e t
    have M0 := R.1.lend (u := u)
    have e' : cq_I (m_lend h x u) (x + 16) u = V u + 1 := by
      rw [M0.2.2.2.2.2.1]
      unfold fu
      rw [if_pos rfl]
    rw [e']
    exact h1 q w z _ (RI.mk (M0.eT e) t (by omega) (by omega) (by omega) (by omega))
theorem m_oc_rg {f : Int → Int} {b : Int} : ∀ {r : Nat} {i a : Int}, a ≤ m_oc f b r i a ∧ m_oc f b r i a ≤ a + r
  | 0, i, a => by rw [m_oc]; omega
  | r + 1, i, a => by
    rw [m_oc]
    by_cases c : f (b + i) = 0
    · rw [if_pos c]
      have := m_oc_rg (f := f) (b := b) (r := r) (i := i + 1) (a := a + 0)
      omega
    · rw [if_neg c]
      have := m_oc_rg (f := f) (b := b) (r := r) (i := i + 1) (a := a + 1)
      omega
theorem z_X11_publish (hY : cY Y) {u m : Int} (R : RI x n L U V k h0 h) (hk : 0 ≤ k ∧ k ≤ 63) (hn : 2 ≤ n ∧ n ≤ 6) 
    (hK : ∀ a h', RI x n L U V (k + 1) h0 h' → K (some (.inl a)) h') : cw Y mi_X11_publish K 0 [some (.inr (.inr (some x))), some (.inl u), some (.inl m), none, none] [] h 0 0 := by
  have e0 := R.n0
  have a23 := R.1.r23 u
  refine c_X11_publish hY R.1.rS R.2 (by omega) (by omega) (by omega) R.1.r23 ?_ R.1.r12 (by omega) (fun _ => hK _ _ R.up) (fun _ _ => hK _ _ R.up) (fun _ _ _ => hK _ _ R.up) ?_
  · intro _
    have := m_oc_rg (f := cq_I h (x + 27)) (b := 61 * u) (r := (cq_I h (x + 23) u).toNat) (i := 1) (a := 0)
    unfold m_onceDir
    omega
  · intro q _ w g e t
    exact hK _ _ (RI.mk ((MI.pub m.toNat R.1 (by omega)).eT e) t (by omega) (by omega) (by omega) (by omega))
theorem z_X11_begin (hY : cY Y) {u v : Int} (R : RI x n L U V k h0 h) (hk : 0 ≤ k ∧ k ≤ 63) (hn : 2 ≤ n ∧ n ≤ 6)
    (hK : ∀ a h', RI x n L U V (k + 1) h0 h' → K (some (.inl a)) h') : cw Y mi_X11_begin K 0 [some (.inr (.inr (some x))), some (.inl u), some (.inl v)] [] h 0 0 :=
  w_X11_begin hY R.1 R.2 (by omega) (by omega) (by omega) (by omega) hn (fun a h' m t _ => hK a h' (RI.mk m t (by omega) (by omega) (by omega) (by omega)))
theorem z_X11_write (hY : cY Y) {u v : Int} (R : RI x n L U V k h0 h) (hk : 0 ≤ k ∧ k ≤ 63) (hn : 2 ≤ n ∧ n ≤ 6)
    (hK : ∀ a h', RI x n L U V (k + 1) h0 h' → K (some (.inl a)) h') : cw Y mi_X11_write K 0 [some (.inr (.inr (some x))), some (.inl u), some (.inl v), none, none, none, none, none, none, none] [] h 0 0 :=
  w_X11_write hY R.1 R.2 (by omega) (by omega) (by omega) (by omega) hn (fun a h' m t => hK a h' (RI.mk m t (by omega) (by omega) (by omega) (by omega)))
theorem z_X11_come (hY : cY Y) {l u : Int} (R : RI x n L U V k h0 h) (hk : 0 ≤ k ∧ k ≤ 63) (hn : 2 ≤ n ∧ n ≤ 6) (hV : ∀ u, 0 ≤ V u ∧ V u ≤ 20)
    (hK : ∀ a h', RI x n L U V (k + 1) h0 h' → K (some (.inl a)) h') : cw Y mi_X11_come K 0 [some (.inr (.inr (some x))), some (.inl l), some (.inl u), none, none, none] [] h 0 0 :=
  w_X11_come hY R.1 R.2 (by omega) (by omega) (by omega) (by omega) hn hV (fun a h' m t => hK a h' (RI.mk m t (by omega) (by omega) (by omega) (by omega)))
theorem z_X11_forget (hY : cY Y) {u v : Int} (R : RI x n L U V k h0 h) (hn : 2 ≤ n ∧ n ≤ 6)
    (hK : ∀ a h', RI x n L U V (k + 1) h0 h' → K (some (.inl a)) h') : cw Y mi_X11_forget K 0 [some (.inr (.inr (some x))), some (.inl u), some (.inl v), none] [] h 0 0 := by
  have e0 := R.n0
  refine c_X11_forget hY R.1.rS (by omega) (fun _ => hK _ _ R.up) (fun _ => hK _ _ (RI.up ⟨?_, ?_⟩))
  · exact MI.sI R.1 (o := 30) ⟨by decide, by decide⟩ (by decide) (by decide)
  · exact TI.sT R.2 (by decide) (fun q => absurd q (by decide))
theorem z_X11_end (hY : cY Y) {m : Int} (R : RI x n L U V k h0 h)
    (hK : ∀ a h', RI x n L U V (k + 1) h0 h' → K (some (.inl a)) h') : cw Y mi_X11_end K 0 [some (.inr (.inr (some x))), some (.inl m)] [] h 0 0 := by
  have a68 := R.1.x68
  refine c_X11_end hY R.1.rS a68 (fun _ => hK _ _ R.up) (fun q => hK _ _ (RI.up ⟨?_, ?_⟩))
  · refine MI.sx R.1 (j := 68) ?_ (by decide)
    exact ⟨by omega, by omega⟩
  · exact TI.sF R.2 (by decide) (by decide) (by decide)
theorem TI_fd {N O a b c d e : Int} : ∀ (r : Nat) {i : Int} {h : cx_Q}, TI x h N O → TI x (m_fd x a b c d e r i h) N O
  | 0, i, h, T => T
  | r + 1, i, h, T => by
    rw [m_fd]
    refine TI_fd r ?_
    unfold m_fd1
    exact TI.sF (TI.sT T (by decide) (fun q => absurd q (by decide))) (by decide) (by decide) (by decide)
theorem z_X11_feed (hY : cY Y) {a b c d e : Int} (R : RI x n L U V k h0 h)
    (hK : ∀ a h', RI x n L U V (k + 1) h0 h' → K (some (.inl a)) h') : cw Y mi_X11_feed K 0 [some (.inr (.inr (some x))), some (.inl a), some (.inl b), some (.inl c), some (.inl d), some (.inl e), none, none] [] h 0 0 := by
  have a68 := R.1.x68
  refine c_X11_feed hY R.1.rS a68 (fun _ => hK _ _ R.up) (fun q => hK _ _ (RI.up ⟨MI.fd 20 R.1 (by omega), TI_fd 20 R.2⟩))
theorem z_X11_byteOf (hY : cY Y) {i : Int} (R : RI x n L U V k h0 h) (hK : ∀ a h', RI x n L U V (k + 1) h0 h' → K (some (.inl a)) h') : cw Y mi_X11_byteOf K 0 [some (.inr (.inr (some x))), some (.inl i)] [] h 0 0 :=
  c_X11_byteOf hY R.1.rS R.1.x75.2 (fun _ => hK _ _ R.up) (fun _ => hK _ _ R.up)
theorem z_X11_spoil (hY : cY Y) {l p m : Int} (R : RI x n L U V k h0 h) (hK : ∀ a h', RI x n L U V (k + 1) h0 h' → K (some (.inl a)) h') : cw Y mi_X11_spoil K 0 [some (.inr (.inr (some x))), some (.inl l), some (.inl p), some (.inl m)] [] h 0 0 := by
  refine c_X11_spoil hY R.1.rS R.1.x72.2 (fun l => (R.1.r63 l).2) (fun _ => hK _ _ R.up) (fun q => hK _ _ (RI.up ⟨?_, ?_⟩))
  · exact MI.sI R.1 (o := 62) (xor8 (R.1.r62 _) ⟨by omega, by omega⟩) (by decide) (by decide)
  · exact TI.sT R.2 (by decide) (fun q => absurd q (by decide))
theorem z_X11_letter (hY : cY Y) {l p : Int} (R : RI x n L U V k h0 h) (hK : ∀ a h', RI x n L U V (k + 1) h0 h' → K (some (.inl a)) h') : cw Y mi_X11_letter K 0 [some (.inr (.inr (some x))), some (.inl l), some (.inl p)] [] h 0 0 :=
  c_X11_letter hY R.1.rS R.1.x72.2 (fun l => (R.1.r63 l).2) (fun _ => hK _ _ R.up) (fun _ => hK _ _ R.up)
theorem z_X11_copy (hY : cY Y) {l : Int} (R : RI x n L U V k h0 h) (hk : 0 ≤ k ∧ k ≤ 63) (hK : ∀ a h', RI x n L U V (k + 1) h0 h' → K (some (.inl a)) h') : cw Y mi_X11_copy K 0 [some (.inr (.inr (some x))), some (.inl l), none] [] h 0 0 := by
  have a73 := R.1.x73
  exact c_X11_copy hY R.1.rS R.2 R.1.x72 (by omega) R.1.r63 (fun _ => hK _ _ R.up) (fun _ _ => hK _ _ R.up) (fun _ w g e t => hK _ _ (RI.mk ((R.1.copy w).eT e) t (by omega) (by omega) (by omega) (by omega)))
theorem z_X11_forge (hY : cY Y) {u : Int} {a : Int64} (R : RI x n L U V k h0 h) (hn : 2 ≤ n ∧ n ≤ 6)
    (hB : ¬ ((0 ≤ u ∧ u < n) ∧ U u ≠ 0 ∧ 1 ≤ a.toInt ∧ a.toInt < 2305843009213693951) → ∀ h', RI x n L U V (k + 1) h0 h' → K (some (.inl (-1))) h') (h1 : (0 ≤ u ∧ u < n) ∧ U u ≠ 0 ∧ 1 ≤ a.toInt ∧ a.toInt < 2305843009213693951 → ∀ h', RI x n L U V (k + 1) h0 h' → K (some (.inl 1)) h') : cw Y mi_X11_forge K 0 [some (.inr (.inr (some x))), some (.inl u), some (.inr (.inl a)), none] [] h 0 0 := by
  have e0 := R.n0
  have e11 := R.e11
  have iu : m_isUser h x u = (0 ≤ u ∧ u < n) := by unfold m_isUser; rw [e0]
  refine c_X11_forge hY R.1.rS (by omega) ?_ ?_
  · rw [iu, e11]; exact fun q => hB q _ R.up
  · rw [iu, e11]; exact fun q => h1 q _ (RI.up ⟨R.1.sJ (by decide), TI.sJ R.2⟩)
theorem z_X11_count (hY : cY Y) {w : Int} (R : RI x n L U V k h0 h) (hK : ∀ a h', RI x n L U V (k + 1) h0 h' → K (some (.inl a)) h') : cw Y mi_X11_count K 0 [some (.inr (.inr (some x))), some (.inl w)] [] h 0 0 :=
  c_X11_count hY R.1.rS (hK _ _ R.up)
theorem z_X11_user (hY : cY Y) {u w : Int} (R : RI x n L U V k h0 h) (hn : 2 ≤ n ∧ n ≤ 6) (hK : ∀ a h', RI x n L U V (k + 1) h0 h' → K (some (.inl a)) h') : cw Y mi_X11_user K 0 [some (.inr (.inr (some x))), some (.inl u), some (.inl w)] [] h 0 0 := by
  have e0 := R.n0
  exact c_X11_user hY R.1.rS (by omega) R.1.r23 R.1.r30 (fun _ => hK _ _ R.up) (fun _ => hK _ _ R.up)
theorem z_X11_number (hY : cY Y) {u w : Int} (R : RI x n L U V k h0 h) (hn : 2 ≤ n ∧ n ≤ 6) (hK : ∀ a h', RI x n L U V (k + 1) h0 h' → K (some (.inr (.inl a))) h') : cw Y mi_X11_number K 0 [some (.inr (.inr (some x))), some (.inl u), some (.inl w), none] [] h 0 0 := by
  have e0 := R.n0
  exact c_X11_number hY R.1.rS (by omega) R.1.r23 (fun _ => hK _ _ R.up) (fun _ => hK _ _ R.up)
theorem z_X11_session (hY : cY Y) {u v i w : Int} (R : RI x n L U V k h0 h) (hn : 2 ≤ n ∧ n ≤ 6) (hK : ∀ a h', RI x n L U V (k + 1) h0 h' → K (some (.inl a)) h') : cw Y mi_X11_session K 0 [some (.inr (.inr (some x))), some (.inl u), some (.inl v), some (.inl i), some (.inl w), none] [] h 0 0 := by
  have e0 := R.n0
  exact c_X11_session hY R.1.rS (by omega) R.1.r30 R.1.r29 (fun _ _ _ => hK _ _ R.up) (fun _ _ => hK _ _ R.up) (fun _ _ _ => hK _ _ R.up)
theorem z_X11_inside (hY : cY Y) {u v i w : Int} (R : RI x n L U V k h0 h) (hn : 2 ≤ n ∧ n ≤ 6) (hK : ∀ a h', RI x n L U V (k + 1) h0 h' → K (some (.inr (.inl a))) h') : cw Y mi_X11_inside K 0 [some (.inr (.inr (some x))), some (.inl u), some (.inl v), some (.inl i), some (.inl w), none] [] h 0 0 := by
  have e0 := R.n0
  exact c_X11_inside hY R.1.rS (by omega) R.1.r30 R.1.r29 (fun _ => hK _ _ R.up) (fun _ _ _ => hK _ _ R.up)
theorem z_X11_same (hY : cY Y) {u v i j : Int} (R : RI x n L U V k h0 h) (hn : 2 ≤ n ∧ n ≤ 6) (hK : ∀ a h', RI x n L U V (k + 1) h0 h' → K (some (.inl a)) h') : cw Y mi_X11_same K 0 [some (.inr (.inr (some x))), some (.inl u), some (.inl v), some (.inl i), some (.inl j), none, none] [] h 0 0 := by
  have e0 := R.n0
  exact c_X11_same hY R.1.rS (by omega) R.1.r30 R.1.r29 (fun _ => hK _ _ R.up)
theorem z_X11_readable (hY : cY Y) {l : Int} (R : RI x n L U V k h0 h) (hk : 0 ≤ k ∧ k ≤ 63) (hK : ∀ a h', RI x n L U V (k + 1) h0 h' → K (some (.inl a)) h') : cw Y mi_X11_readable K 0 [some (.inr (.inr (some x))), some (.inl l), none] [] h 0 0 :=
  c_X11_readable hY R.1.rS R.2 (by omega) R.1.x72.2 (fun _ => hK _ _ R.up) (fun _ a g e t => hK _ _ (RI.up ⟨R.1.eT e, t⟩))
theorem z_X11_look (hY : cY Y) {u : Int} (R : RI x n L U V k h0 h) (hn : 2 ≤ n ∧ n ≤ 6) (hV : ∀ u, 0 ≤ V u ∧ V u ≤ 20) (hL : 0 ≤ L ∧ L ≤ 1000000)
    (hB : ¬ (0 ≤ u ∧ u < n) → ∀ h', RI x n L U V (k + 1) h0 h' → K (some (.inl (-1))) h') (h1 : 0 ≤ u ∧ u < n → ∀ h', RI x n (L + 1) U V (k + 1) h0 h' → K (some (.inl (L + 1))) h') : cw Y mi_X11_look K 0 [some (.inr (.inr (some x))), some (.inl u), none, none, none] [] h 0 0 := by
  have e0 := R.n0
  have e16 := R.e16
  have e86 := R.e86
  have iu : m_isUser h x u = (0 ≤ u ∧ u < n) := by unfold m_isUser; rw [e0]
  refine c_X11_look hY R.1.rS R.2 (by omega) (by omega) (by rw [e16]; exact hV) R.1.r23 R.1.r30 R.1.r29 R.1.r53 ?_ ?_
  · rw [iu]; exact fun q => hB q _ R.up
  · rw [iu, e86]; exact fun q g e t => h1 q _ (RI.up ⟨R.1.s86.eT e, t⟩)
end
