/-! both sides by one function each: answers and memories -/
def aReg (g : cx_Q) (x : Nat) (n u : Int) : Int := if 0 ≤ u ∧ u < n then (if cq_I g (x + 11) u = 0 then 1 else 0) else -1
def qReg (g : cx_Q) (x : Nat) (n u : Int) : cx_Q := if 0 ≤ u ∧ u < n then (if cq_I g (x + 11) u = 0 then m_register g x u else g) else g
def aRot (g : cx_Q) (x : Nat) (n u : Int) : Int := if 0 ≤ u ∧ u < n then (if cq_I g (x + 11) u = 0 then -2 else if cq_I g (x + 16) u = 20 then -3 else cq_I g (x + 16) u + 1) else -1
def qRot (g : cx_Q) (x : Nat) (n u : Int) : cx_Q := if 0 ≤ u ∧ u < n then (if cq_I g (x + 11) u = 0 then g else if cq_I g (x + 16) u = 20 then g else m_lend g x u) else g
def aPub (g : cx_Q) (x : Nat) (n u w : Int) : Int := if (0 ≤ u ∧ u < n) ∧ 1 ≤ w ∧ w ≤ 12 then (if cq_I g (x + 11) u = 0 then -2 else if 12 < m_onceDir g x u + w ∨ 60 < cq_I g (x + 23) u + w then -3 else m_onceDir (m_pub x u w.toNat g) x u) else -1
def qPub (g : cx_Q) (x : Nat) (n u w : Int) : cx_Q := if (0 ≤ u ∧ u < n) ∧ 1 ≤ w ∧ w ≤ 12 then (if cq_I g (x + 11) u = 0 then g else if 12 < m_onceDir g x u + w ∨ 60 < cq_I g (x + 23) u + w then g else m_pub x u w.toNat g) else g
def aFrg (g : cx_Q) (x : Nat) (n u : Int) (v : Int64) : Int := if (0 ≤ u ∧ u < n) ∧ cq_I g (x + 11) u ≠ 0 ∧ 1 ≤ v.toInt ∧ v.toInt < 2305843009213693951 then 1 else -1
def qFrg (g : cx_Q) (x : Nat) (n u : Int) (v : Int64) : cx_Q := if (0 ≤ u ∧ u < n) ∧ cq_I g (x + 11) u ≠ 0 ∧ 1 ≤ v.toInt ∧ v.toInt < 2305843009213693951 then cq_sJ g (x + 20) u v else g
noncomputable def aBeg (g : cx_Q) (x : Nat) (n u v : Int) : Int := if (0 ≤ u ∧ u < n) ∧ (0 ≤ v ∧ v < n) ∧ u ≠ v then (if cq_I g (x + 11) u = 0 ∨ cq_I g (x + 11) v = 0 then -2 else @ite Int (m_seal g x v) (Classical.propDecidable _) 1 (-10)) else -1
noncomputable def qBeg (g : cx_Q) (x : Nat) (n u v : Int) : cx_Q := if (0 ≤ u ∧ u < n) ∧ (0 ≤ v ∧ v < n) ∧ u ≠ v then (if cq_I g (x + 11) u = 0 ∨ cq_I g (x + 11) v = 0 then g else @ite cx_Q (m_seal g x v) (Classical.propDecidable _) (m_begin g x u v) (m_bn0 g x v)) else g
def aFor (g : cx_Q) (x : Nat) (n u v : Int) : Int := if (0 ≤ u ∧ u < n) ∧ (0 ≤ v ∧ v < n) ∧ u ≠ v then cq_I g (x + 30) (6 * u + v) else -1
def qFor (g : cx_Q) (x : Nat) (n u v : Int) : cx_Q := if (0 ≤ u ∧ u < n) ∧ (0 ≤ v ∧ v < n) ∧ u ≠ v then cq_sI g (x + 30) (6 * u + v) 0 else g
def aEnd (g : cx_Q) (x : Nat) (m : Int) : Int := if 0 ≤ m ∧ m ≤ 20 ∧ 20 ≤ cq_I g x 68 then cq_I g x 68 - 20 + m else -1
def qEnd (g : cx_Q) (x : Nat) (m : Int) : cx_Q := if 0 ≤ m ∧ m ≤ 20 ∧ 20 ≤ cq_I g x 68 then cq_sI g x 68 (cq_I g x 68 - 20 + m) else g
def aFd (g : cx_Q) (x : Nat) : Int := if 40 < cq_I g x 68 + 20 then -3 else cq_I g x 68 + 20
def qFd (g : cx_Q) (x : Nat) (a b c d e : Int) : cx_Q := if 40 < cq_I g x 68 + 20 then g else m_fd x a b c d e 20 0 g
def aSpo (g : cx_Q) (x : Nat) (l p m : Int) : Int := if (0 ≤ l ∧ l < cq_I g x 72) ∧ 0 ≤ p ∧ p < cq_I g (x + 63) l ∧ 1 ≤ m ∧ m ≤ 255 then cx_xor (cq_I g (x + 62) (100 * l + p)) m else -1
def qSpo (g : cx_Q) (x : Nat) (l p m : Int) : cx_Q := if (0 ≤ l ∧ l < cq_I g x 72) ∧ 0 ≤ p ∧ p < cq_I g (x + 63) l ∧ 1 ≤ m ∧ m ≤ 255 then cq_sI g (x + 62) (100 * l + p) (cx_xor (cq_I g (x + 62) (100 * l + p)) m) else g
def aCop (g : cx_Q) (x : Nat) (l : Int) : Int := if 0 ≤ l ∧ l < cq_I g x 72 then (if cq_I g x 72 = 80 then -3 else cq_I g x 72) else -1
def qCop (g : cx_Q) (x : Nat) (l : Int) : cx_Q := if 0 ≤ l ∧ l < cq_I g x 72 then (if cq_I g x 72 = 80 then g else m_copy g x l) else g
def aLok (g : cx_Q) (x : Nat) (n u : Int) : Int := if 0 ≤ u ∧ u < n then cq_I g x 86 + 1 else -1
def qLok (g : cx_Q) (x : Nat) (n u : Int) : cx_Q := if 0 ≤ u ∧ u < n then cq_sI g x 86 (cq_I g x 86 + 1) else g
noncomputable def qCom (g : cx_Q) (x : Nat) (n l u : Int) : cx_Q := @ite cx_Q (CO g x n l u) (Classical.propDecidable _) (CMQ g x l u) g
noncomputable def aWr (g : cx_Q) (x : Nat) (n u v : Int) : Int := if ((0 ≤ u ∧ u < n) ∧ (0 ≤ v ∧ v < n) ∧ u ≠ v) ∧ cq_I g x 68 ≠ 0 then (if cq_I g (x + 11) u = 0 ∨ cq_I g (x + 11) v = 0 then -2 else if cq_I g x 72 = 80 then -3 else @ite Int (cq_I g (x + 30) (6 * u + v) = 0 ∧ ¬ m_seal g x v) (Classical.propDecidable _) (-10) (cq_I g x 72)) else -1
/-- what writing leaves -/
def rWr (g : cx_Q) (x : Nat) (n u v : Int) (g' : cx_Q) : Prop := (((0 ≤ u ∧ u < n) ∧ (0 ≤ v ∧ v < n) ∧ u ≠ v) ∧ cq_I g x 68 ≠ 0 ∧ ¬ (cq_I g (x + 11) u = 0 ∨ cq_I g (x + 11) v = 0) ∧ cq_I g x 72 ≠ 80 → (cq_I g (x + 30) (6 * u + v) = 0 → (¬ m_seal g x v → eT x (m_bn0 g x v) g') ∧ (m_seal g x v → ∃ g1, eT x (m_begin g x u v) g1 ∧ WR x u v g1 g')) ∧ (cq_I g (x + 30) (6 * u + v) ≠ 0 → WR x u v g g')) ∧ (¬ (((0 ≤ u ∧ u < n) ∧ (0 ≤ v ∧ v < n) ∧ u ≠ v) ∧ cq_I g x 68 ≠ 0 ∧ ¬ (cq_I g (x + 11) u = 0 ∨ cq_I g (x + 11) v = 0) ∧ cq_I g x 72 ≠ 80) → eT x g g')
theorem isO_1 {a : Int64} : g_isOpen a ≠ 0 ↔ 1 ≤ a.toInt ∧ a.toInt < 2305843009213693951 := by
  unfold g_isOpen
  constructor
  · intro q
    split at q
    · exact absurd rfl q
    · omega
  · intro q
    split
    · omega
    · decide
/-- what the class's call left of its SESSIONS, letters and turns -/
def Fq0 (T Lf T' Lf' : Int → Nat) (_ : cx_Q) : Prop := T' = T ∧ Lf' = Lf
def FBg (c x : Nat) (n : Int) (pe : Int → Nat) (T Lf : Int → Nat) (g : cx_Q) (u v : Int) (h : cx_Q) (T' Lf' : Int → Nat) (h' : cx_Q) : Prop := Lf' = Lf ∧ ((((0 ≤ u ∧ u < n) ∧ (0 ≤ v ∧ v < n) ∧ u ≠ v) ∧ ¬ (cq_I g (x + 11) u = 0 ∨ cq_I g (x + 11) v = 0) ∧ m_seal g x v) → BX c pe T T' h h' u v (m_leastOnce g x v) (m_slotN (m_draw (cq_sI (m_bn0 g x v) x 63 (cq_I g x 63 + 1)) x u) x (6 * u + v)) (cq_J g (x + 20) v) (cq_J g (x + 1) u) (cq_I g (x + 12) u)) ∧ (¬ (((0 ≤ u ∧ u < n) ∧ (0 ≤ v ∧ v < n) ∧ u ≠ v) ∧ ¬ (cq_I g (x + 11) u = 0 ∨ cq_I g (x + 11) v = 0) ∧ m_seal g x v) → T' = T)
def FCp (x : Nat) (T Lf : Int → Nat) (g : cx_Q) (l : Int) (h : cx_Q) (T' Lf' : Int → Nat) (h' : cx_Q) : Prop := T' = T ∧ (((0 ≤ l ∧ l < cq_I g x 72) ∧ cq_I g x 72 ≠ 80) → (∀ k, k ≠ cq_I g x 72 → Lf' k = Lf k) ∧ cq_A h' (Lf' (cq_I g x 72)) 2 = cq_A h (Lf l) 2 ∧ cq_I h' (Lf' (cq_I g x 72)) 3 = cq_I h (Lf l) 3) ∧ (¬ ((0 ≤ l ∧ l < cq_I g x 72) ∧ cq_I g x 72 ≠ 80) → Lf' = Lf)
def FLk (c : Nat) (n L : Int) (pe : Int → Nat) (T Lf : Int → Nat) (u : Int) (h : cx_Q) (T' Lf' : Int → Nat) (h' : cx_Q) : Prop := (T' = T ∧ Lf' = Lf) ∧ (0 ≤ u ∧ u < n → ∃ m, LM (S5 h n (pe u)) h m ∧ h' = cq_sI m c 7 (L + 1)) ∧ (¬ (0 ≤ u ∧ u < n) → h' = h)
def FCm (c x : Nat) (n : Int) (pe : Int → Nat) (T Lf : Int → Nat) (g : cx_Q) (l u : Int) (h : cx_Q) (T' Lf' : Int → Nat) (h' : cx_Q) : Prop := Lf' = Lf ∧ (CO g x n l u → CMX c x pe T T' g l u h h') ∧ (¬ CO g x n l u → T' = T ∧ WN h h')
def FWr (c x : Nat) (n : Int) (pe : Int → Nat) (T Lf : Int → Nat) (g : cx_Q) (u v : Int) (h : cx_Q) (T' Lf' : Int → Nat) (h' : cx_Q) : Prop := ((((0 ≤ u ∧ u < n) ∧ (0 ≤ v ∧ v < n) ∧ u ≠ v) ∧ cq_I g x 68 ≠ 0 ∧ ¬ (cq_I g (x + 11) u = 0 ∨ cq_I g (x + 11) v = 0) ∧ cq_I g x 72 ≠ 80) → cq_I g (x + 30) (6 * u + v) = 0 → m_seal g x v → BX c pe T T' h h' u v (m_leastOnce g x v) (m_slotN (m_draw (cq_sI (m_bn0 g x v) x 63 (cq_I g x 63 + 1)) x u) x (6 * u + v)) (cq_J g (x + 20) v) (cq_J g (x + 1) u) (cq_I g (x + 12) u) ∧ LX x T' Lf Lf' (m_begin g x u v) u v h') ∧ ((((0 ≤ u ∧ u < n) ∧ (0 ≤ v ∧ v < n) ∧ u ≠ v) ∧ cq_I g x 68 ≠ 0 ∧ ¬ (cq_I g (x + 11) u = 0 ∨ cq_I g (x + 11) v = 0) ∧ cq_I g x 72 ≠ 80) → cq_I g (x + 30) (6 * u + v) ≠ 0 → T' = T ∧ LX x T Lf Lf' g u v h') ∧ (¬ ((((0 ≤ u ∧ u < n) ∧ (0 ≤ v ∧ v < n) ∧ u ≠ v) ∧ cq_I g x 68 ≠ 0 ∧ ¬ (cq_I g (x + 11) u = 0 ∨ cq_I g (x + 11) v = 0) ∧ cq_I g x 72 ≠ 80) ∧ (cq_I g (x + 30) (6 * u + v) = 0 → m_seal g x v)) → T' = T ∧ Lf' = Lf)
section
variable {Y : cx_Y} {K : Option cx_V → cx_Q → Prop} {c x : Nat} {n L Z : Int} {E : Nat → Option Int} {h0 : cx_Q} {h g : cx_Q} {pe : Int → Nat} {ro : Int → Int → Nat} {pa lb tp rd en op ob : Nat} {T Lf : Int → Nat}
/-- the class's call is done -/
def FK (c x : Nat) (n : Int) (pe : Int → Nat) (ro : Int → Int → Nat) (pa lb tp rd en op ob : Nat) (Z : Int) (h0 : cx_Q) (K : Option cx_V → cx_Q → Prop) (a : Option cx_V) (gq : cx_Q) (E : Nat → Option Int) (h : cx_Q) (Φ : (Int → Nat) → (Int → Nat) → cx_Q → Prop) : Prop := ∀ h' T' Lf' Z' E' L', CI c n L' Z' E' h0 [] h' → Z' ≤ Z + 100 → FX c x n pe ro pa lb tp rd en op ob T' Lf' h' gq → (∀ d, cq_s h d ≠ 4 → E' d = E d) → Φ T' Lf' h' → K a h'
theorem fa_register (hY : cY Y) {u : Int} (H : CI c n L Z E h0 [] h) (hZ : Z ≤ 100000) (F : FX c x n pe ro pa lb tp rd en op ob T Lf h g) (hl : ∀ u, cq_I g (x + 11) u = 0 → cq_I g (x + 16) u = 0) (hK : FK c x n pe ro pa lb tp rd en op ob Z h0 K (some (.inl (aReg g x n u))) (qReg g x n u) E h (Fq0 T Lf)) : cw Y mi_X10_register K 0 [some (.inr (.inr (some c))), some (.inl u)] [] h 3 12 := by
  unfold aReg qReg at hK
  refine f_X10_register hY H (by omega) F hl (fun q => ?_) (fun q w => ?_) (fun q w h' G' F' => ?_)
  · rw [if_neg q, if_neg q] at hK
    exact hK h T Lf Z E L H (by omega) F (fun _ _ => rfl) ⟨rfl, rfl⟩
  · rw [if_pos q, if_pos q, if_neg w, if_neg w] at hK
    exact hK h T Lf Z E L H (by omega) F (fun _ _ => rfl) ⟨rfl, rfl⟩
  · rw [if_pos q, if_pos q, if_pos w, if_pos w] at hK
    exact hK h' T Lf _ _ L G' (by omega) F' (fun d w => if_neg (fun e => w (by rw [e]; exact (F.fu u q.1 q.2).s0))) ⟨rfl, rfl⟩
theorem fa_rotate (hY : cY Y) {u : Int} (H : CI c n L Z E h0 [] h) (hZ : Z ≤ 100000) (F : FX c x n pe ro pa lb tp rd en op ob T Lf h g) (hK : FK c x n pe ro pa lb tp rd en op ob Z h0 K (some (.inl (aRot g x n u))) (qRot g x n u) E h (Fq0 T Lf)) : cw Y mi_X10_rotate K 0 [some (.inr (.inr (some c))), some (.inl u), none] [] h 2 8 := by
  unfold aRot qRot at hK
  refine f_X10_rotate hY H (by omega) F (fun q => ?_) (fun q w => ?_) (fun q w z => ?_) (fun q w z h' G' F' => ?_)
  · rw [if_neg q, if_neg q] at hK
    exact hK h T Lf Z E L H (by omega) F (fun _ _ => rfl) ⟨rfl, rfl⟩
  · rw [if_pos q, if_pos q, if_pos w, if_pos w] at hK
    exact hK h T Lf Z E L H (by omega) F (fun _ _ => rfl) ⟨rfl, rfl⟩
  · rw [if_pos q, if_pos q, if_neg w, if_neg w, if_pos z, if_pos z] at hK
    exact hK h T Lf Z E L H (by omega) F (fun _ _ => rfl) ⟨rfl, rfl⟩
  · rw [if_pos q, if_pos q, if_neg w, if_neg w, if_neg z, if_neg z] at hK
    exact hK h' T Lf _ _ L G' (by omega) F' (fun d w => if_neg (fun e => w (by rw [e]; exact (F.fu u q.1 q.2).s0))) ⟨rfl, rfl⟩
theorem fa_publish (hY : cY Y) {u w : Int} (H : CI c n L Z E h0 [] h) (hZ : Z ≤ 100000) (F : FX c x n pe ro pa lb tp rd en op ob T Lf h g) (hK : FK c x n pe ro pa lb tp rd en op ob Z h0 K (some (.inl (aPub g x n u w))) (qPub g x n u w) E h (Fq0 T Lf)) : cw Y mi_X10_publish K 0 [some (.inr (.inr (some c))), some (.inl u), some (.inl w), none, none] [] h 12 48 := by
  unfold aPub qPub at hK
  refine f_X10_publish hY H (by omega) F (fun q => ?_) (fun q w => ?_) (fun q w z => ?_) (fun q w z h' G' F' => ?_)
  · rw [if_neg q, if_neg q] at hK
    exact hK h T Lf Z E L H (by omega) F (fun _ _ => rfl) ⟨rfl, rfl⟩
  · rw [if_pos q, if_pos q, if_pos w, if_pos w] at hK
    exact hK h T Lf Z E L H (by omega) F (fun _ _ => rfl) ⟨rfl, rfl⟩
  · rw [if_pos q, if_pos q, if_neg w, if_neg w, if_pos z, if_pos z] at hK
    exact hK h T Lf Z E L H (by omega) F (fun _ _ => rfl) ⟨rfl, rfl⟩
  · rw [if_pos q, if_pos q, if_neg w, if_neg w, if_neg z, if_neg z] at hK
    exact hK h' T Lf _ _ L G' (by omega) F' (fun _ _ => rfl) ⟨rfl, rfl⟩
theorem fa_forge (hY : cY Y) {u : Int} {v : Int64} (H : CI c n L Z E h0 [] h) (F : FX c x n pe ro pa lb tp rd en op ob T Lf h g) (hK : FK c x n pe ro pa lb tp rd en op ob Z h0 K (some (.inl (aFrg g x n u v))) (qFrg g x n u v) E h (Fq0 T Lf)) : cw Y mi_X10_forge K 0 [some (.inr (.inr (some c))), some (.inl u), some (.inr (.inl v)), none] [] h 0 0 := by
  unfold aFrg qFrg at hK
  refine f_X10_forge hY H F (fun q => ?_) (fun q h' G' F' => ?_)
  · have q' : ¬ ((0 ≤ u ∧ u < n) ∧ cq_I g (x + 11) u ≠ 0 ∧ 1 ≤ v.toInt ∧ v.toInt < 2305843009213693951) := fun z => q ⟨z.1, z.2.1, isO_1.mpr z.2.2⟩
    rw [if_neg q', if_neg q'] at hK
    exact hK h T Lf Z E L H (by omega) F (fun _ _ => rfl) ⟨rfl, rfl⟩
  · have q' : (0 ≤ u ∧ u < n) ∧ cq_I g (x + 11) u ≠ 0 ∧ 1 ≤ v.toInt ∧ v.toInt < 2305843009213693951 := ⟨q.1, q.2.1, isO_1.mp q.2.2⟩
    rw [if_pos q', if_pos q'] at hK
    exact hK h' T Lf _ _ L G' (by omega) F' (fun _ _ => rfl) ⟨rfl, rfl⟩
theorem fa_begin (hY : cY Y) {u v : Int} (H : CI c n L Z E h0 [] h) (hZ : Z ≤ 100000) (F : FX c x n pe ro pa lb tp rd en op ob T Lf h g) (hC : E c = none) (hP : uE pe n h0) (h63 : cq_I g x 63 < 100) (hK : FK c x n pe ro pa lb tp rd en op ob Z h0 K (some (.inl (aBeg g x n u v))) (qBeg g x n u v) E h (FBg c x n pe T Lf g u v h)) : cw Y mi_X10_begin K 0 [some (.inr (.inr (some c))), some (.inl u), some (.inl v)] [] h 15 303 := by
  unfold aBeg qBeg at hK
  refine f_X10_begin hY H (by omega) F hC hP h63 (fun q => ?_) (fun q w => ?_) (fun q w z h' G' F' => ?_) (fun q w z h' T' G' F' bx => ?_)
  · rw [if_neg q, if_neg q] at hK
    exact hK h T Lf Z E L H (by omega) F (fun _ _ => rfl) ⟨rfl, fun y => absurd y.1 q, fun _ => rfl⟩
  · rw [if_pos q, if_pos q, if_pos w, if_pos w] at hK
    exact hK h T Lf Z E L H (by omega) F (fun _ _ => rfl) ⟨rfl, fun y => absurd w y.2.1, fun _ => rfl⟩
  · rw [if_pos q, if_pos q, if_neg w, if_neg w, if_neg z, if_neg z] at hK
    exact hK h' T Lf _ _ L G' (by omega) F' (fun _ _ => rfl) ⟨rfl, fun y => absurd y.2.2 z, fun _ => rfl⟩
  · rw [if_pos q, if_pos q, if_neg w, if_neg w, if_pos z, if_pos z] at hK
    exact hK h' T' Lf _ _ L G' (by omega) F' (fun _ _ => rfl) ⟨rfl, fun _ => bx, fun y => absurd ⟨q, w, z⟩ y⟩
theorem fa_forget (hY : cY Y) {u v : Int} (H : CI c n L Z E h0 [] h) (F : FX c x n pe ro pa lb tp rd en op ob T Lf h g) (hK : FK c x n pe ro pa lb tp rd en op ob Z h0 K (some (.inl (aFor g x n u v))) (qFor g x n u v) E h (Fq0 T Lf)) : cw Y mi_X10_forget K 0 [some (.inr (.inr (some c))), some (.inl u), some (.inl v)] [] h 0 0 := by
  unfold aFor qFor at hK
  refine f_X10_forget hY H F (fun q => ?_) (fun q h' G' F' => ?_)
  · rw [if_neg q, if_neg q] at hK
    exact hK h T Lf Z E L H (by omega) F (fun _ _ => rfl) ⟨rfl, rfl⟩
  · rw [if_pos q, if_pos q] at hK
    exact hK h' T Lf _ _ L G' (by omega) F' (fun _ _ => rfl) ⟨rfl, rfl⟩
theorem fa_end (hY : cY Y) {m : Int} (H : CI c n L Z E h0 [] h) (F : FX c x n pe ro pa lb tp rd en op ob T Lf h g) (hK : FK c x n pe ro pa lb tp rd en op ob Z h0 K (some (.inl (aEnd g x m))) (qEnd g x m) E h (Fq0 T Lf)) : cw Y mi_X10_end K 0 [some (.inr (.inr (some c))), some (.inl m)] [] h 0 0 := by
  have tc := F.fs.tc
  unfold aEnd qEnd at hK
  refine e_X10_end hY H (fun q => ?_) (fun q h' G' e' => ?_)
  · rw [tc] at q
    rw [if_neg q, if_neg q] at hK
    exact hK h T Lf Z E L H (by omega) F (fun _ _ => rfl) ⟨rfl, rfl⟩
  · have F' := fx_end F (v := cq_I h c 9 - 20 + m) (by omega)
    rw [← e', tc] at F'
    rw [tc] at q ⊢
    rw [if_pos q, if_pos q] at hK
    exact hK h' T Lf _ _ L G' (by omega) F' (fun _ _ => rfl) ⟨rfl, rfl⟩
theorem fa_feed (hY : cY Y) {a b d e f : Int} (H : CI c n L Z E h0 [] h) (F : FX c x n pe ro pa lb tp rd en op ob T Lf h g) (hK : FK c x n pe ro pa lb tp rd en op ob Z h0 K (some (.inl (aFd g x))) (qFd g x a b d e f) E h (Fq0 T Lf)) : cw Y mi_X10_feed K 0 [some (.inr (.inr (some c))), some (.inl a), some (.inl b), some (.inl d), some (.inl e), some (.inl f)] [] h 0 0 := by
  have tc := F.fs.tc
  have hc := H.cs
  unfold aFd qFd at hK
  refine e_X10_feed hY H F.fs.a8 (fun q => ?_) (fun q h' G' e' => ?_)
  · rw [tc] at q
    rw [if_pos q, if_pos q] at hK
    exact hK h T Lf Z E L H (by omega) F (fun _ _ => rfl) ⟨rfl, rfl⟩
  · have F' := fx_feed F (a := a) (b := b) (c' := d) (d := e) (e := f) hc
    rw [← e'] at F'
    rw [tc] at q ⊢
    rw [if_neg (by omega), if_neg (by omega)] at hK
    exact hK h' T Lf _ _ L G' (by omega) F' (fun _ _ => rfl) ⟨rfl, rfl⟩
theorem fa_spoil (hY : cY Y) {l p m : Int} (H : CI c n L Z E h0 [] h) (F : FX c x n pe ro pa lb tp rd en op ob T Lf h g) (hK : FK c x n pe ro pa lb tp rd en op ob Z h0 K (some (.inl (aSpo g x l p m))) (qSpo g x l p m) E h (Fq0 T Lf)) : cw Y mi_X10_spoil K 0 [some (.inr (.inr (some c))), some (.inl l), some (.inl p), some (.inl m), none] [] h 0 0 := by
  unfold aSpo qSpo at hK
  refine f_X10_spoil hY H F (fun q => ?_) (fun q h' G' F' => ?_)
  · rw [if_neg q, if_neg q] at hK
    exact hK h T Lf Z E L H (by omega) F (fun _ _ => rfl) ⟨rfl, rfl⟩
  · rw [if_pos q, if_pos q] at hK
    exact hK h' T Lf _ _ L G' (by omega) F' (fun _ _ => rfl) ⟨rfl, rfl⟩
theorem fa_copy (hY : cY Y) {l : Int} (H : CI c n L Z E h0 [] h) (hZ : Z ≤ 100000) (F : FX c x n pe ro pa lb tp rd en op ob T Lf h g) (hK : FK c x n pe ro pa lb tp rd en op ob Z h0 K (some (.inl (aCop g x l))) (qCop g x l) E h (FCp x T Lf g l h)) : cw Y mi_X10_copy K 0 [some (.inr (.inr (some c))), some (.inl l)] [] h 2 104 := by
  unfold aCop qCop at hK
  refine f_X10_copy hY H (by omega) F (fun q => ?_) (fun q w => ?_) (fun q w h' Lf' G' F' l1 l2 l3 => ?_)
  · rw [if_neg q, if_neg q] at hK
    exact hK h T Lf Z E L H (by omega) F (fun _ _ => rfl) ⟨rfl, fun y => absurd y.1 q, fun _ => rfl⟩
  · rw [if_pos q, if_pos q, if_pos w, if_pos w] at hK
    exact hK h T Lf Z E L H (by omega) F (fun _ _ => rfl) ⟨rfl, fun y => absurd w y.2, fun _ => rfl⟩
  · rw [if_pos q, if_pos q, if_neg w, if_neg w] at hK
    exact hK h' T Lf' _ _ L G' (by omega) F' (fun _ _ => rfl) ⟨rfl, fun _ => ⟨l1, l2, l3⟩, fun y => absurd ⟨q, w⟩ y⟩
theorem fa_look (hY : cY Y) {u : Int} (H : CI c n L Z E h0 [] h) (hE : E c ≠ none) (F : FX c x n pe ro pa lb tp rd en op ob T Lf h g) (hL : 0 ≤ L ∧ L ≤ 64) (eL : cq_I g x 86 = L) (hK : FK c x n pe ro pa lb tp rd en op ob Z h0 K (some (.inl (aLok g x n u))) (qLok g x n u) E h (FLk c n L pe T Lf u h)) : cw Y mi_X10_look K 0 [some (.inr (.inr (some c))), some (.inl u)] [] h 0 0 := by
  unfold aLok qLok at hK
  refine f_X10_look hY H hE F (by omega) (fun q => ?_) (fun q h' G' F' lm => ?_)
  · rw [if_neg q, if_neg q] at hK
    exact hK h T Lf Z E L H (by omega) F (fun _ _ => rfl) ⟨⟨rfl, rfl⟩, fun y => absurd y q, fun _ => rfl⟩
  · rw [if_pos q, if_pos q] at hK
    rw [← eL]
    exact hK h' T Lf _ _ _ G' (by omega) F' (fun _ _ => rfl) ⟨⟨rfl, rfl⟩, fun _ => lm, fun y => absurd q y⟩
theorem fa_come (hY : cY Y) {l u : Int} (H : CI c n L Z E h0 [] h) (hZ : Z ≤ 100000) (F : FX c x n pe ro pa lb tp rd en op ob T Lf h g) (h62 : ∀ j, 0 ≤ cq_I g (x + 62) j ∧ cq_I g (x + 62) j ≤ 255) (h58 : cq_I g (x + 58) u < 100) (h85 : cq_I g x 85 ≤ 100) (hC : E c = none) (hE4 : ∀ d, d ≠ c → cq_s h0 d ≠ 4 → cq_s h0 d ≠ 1 → E d ≠ none) (hP : uE pe n h0) (hK : ∀ m, FK c x n pe ro pa lb tp rd en op ob Z h0 K (some (.inl m)) (qCom g x n l u) E h (FCm c x n pe T Lf g l u h)) : cw Y mi_X10_come K 0 [some (.inr (.inr (some c))), some (.inl l), some (.inl u), none] [] h 52 1298 := by
  unfold qCom at hK
  refine f_X10_come hY H (by omega) F h62 h58 h85 hC hE4 hP (fun q m h' G' F' wn => ?_) (fun q m h' T' G' F' cm => ?_)
  · rw [if_neg q] at hK
    exact hK m h' T Lf _ _ L G' (by omega) F' (fun _ _ => rfl) ⟨rfl, fun y => absurd y q, fun _ => ⟨rfl, wn⟩⟩
  · rw [if_pos q] at hK
    exact hK m h' T' Lf _ _ L G' (by omega) F' (fun _ _ => rfl) ⟨rfl, fun _ => cm, fun y => absurd q y⟩
theorem fa_write (hY : cY Y) {u v : Int} (H : CI c n L Z E h0 [] h) (hZ : Z ≤ 100000) (F : FX c x n pe ro pa lb tp rd en op ob T Lf h g) (hC : E c = none) (hP : uE pe n h0) (h63 : cq_I g x 63 < 100) (h4 : ∀ j, 0 ≤ cq_I g (x + 30) j ∧ cq_I g (x + 30) j ≤ 4) (hK : ∀ h' T' Lf' Z' E' L', CI c n L' Z' E' h0 [] h' → Z' ≤ Z + 100 → (∀ g', rWr g x n u v g' → FX c x n pe ro pa lb tp rd en op ob T' Lf' h' g') → (∀ d, cq_s h d ≠ 4 → E' d = E d) → FWr c x n pe T Lf g u v h T' Lf' h' → K (some (.inl (aWr g x n u v))) h') : cw Y mi_X10_write K 0 [some (.inr (.inr (some c))), some (.inl u), some (.inl v), none, none] [] h 17 407 := by
  unfold aWr at hK
  refine f_X10_write hY H (by omega) F hC hP h63 h4 (fun q => ?_) (fun q w => ?_) (fun q w z => ?_) (fun q w z r s h' G' F' => ?_) (fun q w z r s h' T' Lf' G' F' bx lx => ?_) (fun q w z r h' Lf' G' F' lx => ?_)
  · rw [if_neg q] at hK
    refine hK h T Lf Z E L H (by omega) (fun g' R => F.eT (R.2 (fun y => q ⟨y.1, y.2.1⟩))) (fun _ _ => rfl) ⟨fun y => absurd ⟨y.1, y.2.1⟩ q, fun y => absurd ⟨y.1, y.2.1⟩ q, fun _ => ⟨rfl, rfl⟩⟩
  · rw [if_pos q, if_pos w] at hK
    refine hK h T Lf Z E L H (by omega) (fun g' R => F.eT (R.2 (fun y => y.2.2.1 w))) (fun _ _ => rfl) ⟨fun y => absurd w y.2.2.1, fun y => absurd w y.2.2.1, fun _ => ⟨rfl, rfl⟩⟩
  · rw [if_pos q, if_neg w, if_pos z] at hK
    refine hK h T Lf Z E L H (by omega) (fun g' R => F.eT (R.2 (fun y => y.2.2.2 z))) (fun _ _ => rfl) ⟨fun y => absurd z y.2.2.2, fun y => absurd z y.2.2.2, fun _ => ⟨rfl, rfl⟩⟩
  · have r' : cq_I g (x + 30) (6 * u + v) = 0 ∧ ¬ m_seal g x v := ⟨r, s⟩
    rw [if_pos q, if_neg w, if_neg z, if_pos r'] at hK
    refine hK h' T Lf _ _ L G' (by omega) (fun g' R => F'.eT (((R.1 ⟨q.1, q.2, w, z⟩).1 r).1 s)) (fun _ _ => rfl) ⟨fun _ _ y => absurd y s, fun _ y => absurd r y, fun _ => ⟨rfl, rfl⟩⟩
  · have r' : ¬ (cq_I g (x + 30) (6 * u + v) = 0 ∧ ¬ m_seal g x v) := fun y => y.2 s
    rw [if_pos q, if_neg w, if_neg z, if_neg r'] at hK
    refine hK h' T' Lf' _ _ L G' (by omega) (fun g' R => ?_) (fun _ _ => rfl) ⟨fun _ _ _ => ⟨bx, lx⟩, fun _ y => absurd r y, fun y => absurd ⟨⟨q.1, q.2, w, z⟩, fun _ => s⟩ y⟩
    obtain ⟨g1, e1, e2⟩ := ((R.1 ⟨q.1, q.2, w, z⟩).1 r).2 s
    exact F' g1 g' e1 e2
  · have r' : ¬ (cq_I g (x + 30) (6 * u + v) = 0 ∧ ¬ m_seal g x v) := fun y => r y.1
    rw [if_pos q, if_neg w, if_neg z, if_neg r'] at hK
    exact hK h' T Lf' _ _ L G' (by omega) (fun g' R => F' g' ((R.1 ⟨q.1, q.2, w, z⟩).2 r)) (fun _ _ => rfl) ⟨fun _ y => absurd y r, fun _ _ => ⟨rfl, lx⟩, fun y => absurd ⟨⟨q.1, q.2, w, z⟩, fun y => absurd y r⟩ y⟩
end
