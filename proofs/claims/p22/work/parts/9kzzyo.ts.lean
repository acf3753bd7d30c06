/-! turns and terms behind k calls -/
def TS (c x : Nat) (n : Int) (pe : Int → Nat) (T Lf : Int → Nat) (k : Int) (h : cx_Q) : Prop := (∃ nt dom sd rt ct dp kd, TX c x nt n T Lf dom sd rt ct dp kd (2 * k.toNat + 3) h h) ∧ zAA x n h ∧ DBf x n k h ∧ uE pe n h
section
variable {c x nt : Nat} {n k L Z L1 Z1 : Int} {U V : Int → Int} {T Lf T1 Lf1 : Int → Nat} {dom sd : Nat → Prop} {rt ct : Nat → Int} {dp : Nat → Nat} {kd : Int → Nat} {m m' : Nat} {h h1 h2 g g' k1 : cx_Q} {E E1 : Nat → Option Int} {pe : Int → Nat} {ro : Int → Int → Nat} {pa lb tp rd en op ob : Nat}
/-- what stands ahead of the reference's call: h ahead of the class's, h1 behind it -/
def AH (c x nt : Nat) (n k : Int) (pe : Int → Nat) (ro : Int → Int → Nat) (pa lb tp rd en op ob : Nat) (T Lf : Int → Nat) (dom sd : Nat → Prop) (rt ct : Nat → Int) (dp : Nat → Nat) (kd : Int → Nat) (h h1 : cx_Q) : Prop := (TX c x nt n T Lf dom sd rt ct dp kd (2 * k.toNat + 3) h h1) ∧ (FX c x n pe ro pa lb tp rd en op ob T Lf h h1) ∧ (CT c (fun _ => none) h [] h) ∧ (cq_s h c = 9) ∧ (zFr x n h h1) ∧ (zAA x n h1) ∧ (DBf x n k h1) ∧ (1 ≤ cq_I h1 x 2) ∧ (0 ≤ cq_I h1 x 10) ∧ (∀ u, 0 ≤ cq_I h1 (x + 12) u) ∧ (∀ u, 0 ≤ cq_I h1 (x + 23) u ∧ cq_I h1 (x + 23) u ≤ 60) ∧ (∀ j, 0 ≤ cq_I h1 (x + 30) j ∧ cq_I h1 (x + 30) j ≤ 4) ∧ (∀ j, 0 ≤ cq_I h1 (x + 41) j) ∧ (∀ j, 0 ≤ cq_I h1 (x + 62) j ∧ cq_I h1 (x + 62) j ≤ 255) ∧ (∀ l, 0 ≤ cq_I h1 (x + 63) l ∧ cq_I h1 (x + 63) l ≤ 100) ∧ (0 ≤ k ∧ k ≤ 63)
theorem AH.X {c x nt : Nat} {n k : Int} {pe : Int → Nat} {ro : Int → Int → Nat} {pa lb tp rd en op ob : Nat} {T Lf : Int → Nat} {dom sd : Nat → Prop} {rt ct : Nat → Int} {dp : Nat → Nat} {kd : Int → Nat} {h h1 : cx_Q} (F_ : AH c x nt n k pe ro pa lb tp rd en op ob T Lf dom sd rt ct dp kd h h1) : TX c x nt n T Lf dom sd rt ct dp kd (2 * k.toNat + 3) h h1 := F_.1
theorem AH.F {c x nt : Nat} {n k : Int} {pe : Int → Nat} {ro : Int → Int → Nat} {pa lb tp rd en op ob : Nat} {T Lf : Int → Nat} {dom sd : Nat → Prop} {rt ct : Nat → Int} {dp : Nat → Nat} {kd : Int → Nat} {h h1 : cx_Q} (F_ : AH c x nt n k pe ro pa lb tp rd en op ob T Lf dom sd rt ct dp kd h h1) : FX c x n pe ro pa lb tp rd en op ob T Lf h h1 := F_.2.1
theorem AH.C0 {c x nt : Nat} {n k : Int} {pe : Int → Nat} {ro : Int → Int → Nat} {pa lb tp rd en op ob : Nat} {T Lf : Int → Nat} {dom sd : Nat → Prop} {rt ct : Nat → Int} {dp : Nat → Nat} {kd : Int → Nat} {h h1 : cx_Q} (F_ : AH c x nt n k pe ro pa lb tp rd en op ob T Lf dom sd rt ct dp kd h h1) : CT c (fun _ => none) h [] h := F_.2.2.1
theorem AH.hc {c x nt : Nat} {n k : Int} {pe : Int → Nat} {ro : Int → Int → Nat} {pa lb tp rd en op ob : Nat} {T Lf : Int → Nat} {dom sd : Nat → Prop} {rt ct : Nat → Int} {dp : Nat → Nat} {kd : Int → Nat} {h h1 : cx_Q} (F_ : AH c x nt n k pe ro pa lb tp rd en op ob T Lf dom sd rt ct dp kd h h1) : cq_s h c = 9 := F_.2.2.2.1
theorem AH.Fr {c x nt : Nat} {n k : Int} {pe : Int → Nat} {ro : Int → Int → Nat} {pa lb tp rd en op ob : Nat} {T Lf : Int → Nat} {dom sd : Nat → Prop} {rt ct : Nat → Int} {dp : Nat → Nat} {kd : Int → Nat} {h h1 : cx_Q} (F_ : AH c x nt n k pe ro pa lb tp rd en op ob T Lf dom sd rt ct dp kd h h1) : zFr x n h h1 := F_.2.2.2.2.1
theorem AH.A {c x nt : Nat} {n k : Int} {pe : Int → Nat} {ro : Int → Int → Nat} {pa lb tp rd en op ob : Nat} {T Lf : Int → Nat} {dom sd : Nat → Prop} {rt ct : Nat → Int} {dp : Nat → Nat} {kd : Int → Nat} {h h1 : cx_Q} (F_ : AH c x nt n k pe ro pa lb tp rd en op ob T Lf dom sd rt ct dp kd h h1) : zAA x n h1 := F_.2.2.2.2.2.1
theorem AH.D {c x nt : Nat} {n k : Int} {pe : Int → Nat} {ro : Int → Int → Nat} {pa lb tp rd en op ob : Nat} {T Lf : Int → Nat} {dom sd : Nat → Prop} {rt ct : Nat → Int} {dp : Nat → Nat} {kd : Int → Nat} {h h1 : cx_Q} (F_ : AH c x nt n k pe ro pa lb tp rd en op ob T Lf dom sd rt ct dp kd h h1) : DBf x n k h1 := F_.2.2.2.2.2.2.1
theorem AH.n2 {c x nt : Nat} {n k : Int} {pe : Int → Nat} {ro : Int → Int → Nat} {pa lb tp rd en op ob : Nat} {T Lf : Int → Nat} {dom sd : Nat → Prop} {rt ct : Nat → Int} {dp : Nat → Nat} {kd : Int → Nat} {h h1 : cx_Q} (F_ : AH c x nt n k pe ro pa lb tp rd en op ob T Lf dom sd rt ct dp kd h h1) : 1 ≤ cq_I h1 x 2 := F_.2.2.2.2.2.2.2.1
theorem AH.o10 {c x nt : Nat} {n k : Int} {pe : Int → Nat} {ro : Int → Int → Nat} {pa lb tp rd en op ob : Nat} {T Lf : Int → Nat} {dom sd : Nat → Prop} {rt ct : Nat → Int} {dp : Nat → Nat} {kd : Int → Nat} {h h1 : cx_Q} (F_ : AH c x nt n k pe ro pa lb tp rd en op ob T Lf dom sd rt ct dp kd h h1) : 0 ≤ cq_I h1 x 10 := F_.2.2.2.2.2.2.2.2.1
theorem AH.r12 {c x nt : Nat} {n k : Int} {pe : Int → Nat} {ro : Int → Int → Nat} {pa lb tp rd en op ob : Nat} {T Lf : Int → Nat} {dom sd : Nat → Prop} {rt ct : Nat → Int} {dp : Nat → Nat} {kd : Int → Nat} {h h1 : cx_Q} (F_ : AH c x nt n k pe ro pa lb tp rd en op ob T Lf dom sd rt ct dp kd h h1) : ∀ u, 0 ≤ cq_I h1 (x + 12) u := F_.2.2.2.2.2.2.2.2.2.1
theorem AH.r23 {c x nt : Nat} {n k : Int} {pe : Int → Nat} {ro : Int → Int → Nat} {pa lb tp rd en op ob : Nat} {T Lf : Int → Nat} {dom sd : Nat → Prop} {rt ct : Nat → Int} {dp : Nat → Nat} {kd : Int → Nat} {h h1 : cx_Q} (F_ : AH c x nt n k pe ro pa lb tp rd en op ob T Lf dom sd rt ct dp kd h h1) : ∀ u, 0 ≤ cq_I h1 (x + 23) u ∧ cq_I h1 (x + 23) u ≤ 60 := F_.2.2.2.2.2.2.2.2.2.2.1
theorem AH.r30 {c x nt : Nat} {n k : Int} {pe : Int → Nat} {ro : Int → Int → Nat} {pa lb tp rd en op ob : Nat} {T Lf : Int → Nat} {dom sd : Nat → Prop} {rt ct : Nat → Int} {dp : Nat → Nat} {kd : Int → Nat} {h h1 : cx_Q} (F_ : AH c x nt n k pe ro pa lb tp rd en op ob T Lf dom sd rt ct dp kd h h1) : ∀ j, 0 ≤ cq_I h1 (x + 30) j ∧ cq_I h1 (x + 30) j ≤ 4 := F_.2.2.2.2.2.2.2.2.2.2.2.1
theorem AH.r41 {c x nt : Nat} {n k : Int} {pe : Int → Nat} {ro : Int → Int → Nat} {pa lb tp rd en op ob : Nat} {T Lf : Int → Nat} {dom sd : Nat → Prop} {rt ct : Nat → Int} {dp : Nat → Nat} {kd : Int → Nat} {h h1 : cx_Q} (F_ : AH c x nt n k pe ro pa lb tp rd en op ob T Lf dom sd rt ct dp kd h h1) : ∀ j, 0 ≤ cq_I h1 (x + 41) j := F_.2.2.2.2.2.2.2.2.2.2.2.2.1
theorem AH.r62 {c x nt : Nat} {n k : Int} {pe : Int → Nat} {ro : Int → Int → Nat} {pa lb tp rd en op ob : Nat} {T Lf : Int → Nat} {dom sd : Nat → Prop} {rt ct : Nat → Int} {dp : Nat → Nat} {kd : Int → Nat} {h h1 : cx_Q} (F_ : AH c x nt n k pe ro pa lb tp rd en op ob T Lf dom sd rt ct dp kd h h1) : ∀ j, 0 ≤ cq_I h1 (x + 62) j ∧ cq_I h1 (x + 62) j ≤ 255 := F_.2.2.2.2.2.2.2.2.2.2.2.2.2.1
theorem AH.r63 {c x nt : Nat} {n k : Int} {pe : Int → Nat} {ro : Int → Int → Nat} {pa lb tp rd en op ob : Nat} {T Lf : Int → Nat} {dom sd : Nat → Prop} {rt ct : Nat → Int} {dp : Nat → Nat} {kd : Int → Nat} {h h1 : cx_Q} (F_ : AH c x nt n k pe ro pa lb tp rd en op ob T Lf dom sd rt ct dp kd h h1) : ∀ l, 0 ≤ cq_I h1 (x + 63) l ∧ cq_I h1 (x + 63) l ≤ 100 := F_.2.2.2.2.2.2.2.2.2.2.2.2.2.2.1
theorem AH.hk {c x nt : Nat} {n k : Int} {pe : Int → Nat} {ro : Int → Int → Nat} {pa lb tp rd en op ob : Nat} {T Lf : Int → Nat} {dom sd : Nat → Prop} {rt ct : Nat → Int} {dp : Nat → Nat} {kd : Int → Nat} {h h1 : cx_Q} (F_ : AH c x nt n k pe ro pa lb tp rd en op ob T Lf dom sd rt ct dp kd h h1) : 0 ≤ k ∧ k ≤ 63 := F_.2.2.2.2.2.2.2.2.2.2.2.2.2.2.2
theorem TS.ah (S : TS c x n pe T Lf k h) (H : CI c n L1 Z E h [] h) (F : FX c x n pe ro pa lb tp rd en op ob T Lf h h) (R : RI x n L U V k h h) (e1 : h1 = ov x h k1) (hk : 0 ≤ k ∧ k ≤ 63) : ∃ nt dom sd rt ct dp kd, AH c x nt n k pe ro pa lb tp rd en op ob T Lf dom sd rt ct dp kd h h1 := by
  obtain ⟨⟨nt, dom, sd, rt, ct, dp, kd, X⟩, A, D, P⟩ := S
  have C0 : CT c (fun _ => none) h [] h := H.ct.an
  have e0 : cq_I h1 x = cq_I h x := by rw [e1, ov_I0]
  have eI : ∀ o, o ≤ 65 → cq_I h1 (x + o) = cq_I h (x + o) := fun o w => by rw [e1, ov_I w]
  have eJ : ∀ o, o ≤ 65 → cq_J h1 (x + o) = cq_J h (x + o) := fun o w => by rw [e1, ov_J w]
  have X1 := X.tg F C0 H.cs (g' := h1) (fun j _ => by rw [e0]) (fun o j _ w => by rw [eI o w]) (fun o j _ w => by rw [eJ o w])
  have F1 : FX c x n pe ro pa lb tp rd en op ob T Lf h h1 := by rw [e1]; exact F.o_
  have A1 : zAA x n h1 := fun u1 u2 i1 i2 => by rw [eJ 1 (by decide)]; exact A u1 u2 i1 i2
  have D1 : DBf x n k h1 := fun u u0 u1 => by
    have od : m_onceDir h1 x u = m_onceDir h x u := by rw [e1, ov_m_onceDir]
    rw [od, eI 11 (by decide), eI 12 (by decide)]
    exact D u u0 u1
  have Fr := (secs H.ct F1 P A1 (D1.b (by omega))).1
  exact ⟨nt, dom, sd, rt, ct, dp, kd, X1, F1, C0, H.cs, Fr, A1, D1, by rw [e0]; exact R.2.1.1, by rw [e0]; exact R.2.2.1.1, fun u => by rw [eI 12 (by decide)]; exact (R.1.r12 u).1, fun u => by rw [eI 23 (by decide)]; exact R.1.r23 u, fun j => by rw [eI 30 (by decide)]; exact R.1.r30 j, fun j => by rw [eI 41 (by decide)]; exact (R.1.r41 j).1, fun j => by rw [eI 62 (by decide)]; exact R.1.r62 j, fun j => by rw [eI 63 (by decide)]; exact R.1.r63 j, hk⟩
theorem AH.un (Q : AH c x nt n k pe ro pa lb tp rd en op ob T Lf dom sd rt ct dp kd h h1) (C : CT c E1 h [] h1) (P : uE pe n h1) (F1 : FX c x n pe ro pa lb tp rd en op ob T1 Lf1 h1 g) (r : RS x n h1 g) : ∀ w w', cq_s h1 w = 6 → cq_s h1 w' = 6 → cq_J h1 w 1 = cq_J h1 w' 1 → w = w' := by
  have hk := Q.hk
  have A : zAA x n g := fun u1 u2 i1 i2 a1 a2 a3 a4 a5 a6 a7 a8 a9 => by
    rw [(r u1 a1 a2).1, (r u2 a3 a4).1] at a9
    exact Q.A u1 u2 i1 i2 a1 a2 a3 a4 a5 a6 a7 a8 a9
  exact (secs C F1 P A ((Q.D.st hk.1 r).b (by omega))).2
theorem uE.st (C : CT c E1 h [] h1) (hC : E1 c = none) (P : uE pe n h) : uE pe n h1 := fun p sp => by
  rcases C.2.2.2.2.2.2.2.2.2.2.2.2.2.2.2.2.1 p sp with z | z
  · exact P p z
  · exact absurd hC z
/-- the class's cells are as they were -/
theorem TX.wz (X : TX c x nt n T Lf dom sd rt ct dp kd m h1 h2) (F : FX c x n pe ro pa lb tp rd en op ob T Lf h1 h2) (C : CT c E1 h [] h1) (hc : cq_s h1 c = 9) (W : wz x h1 h2) (S : rS h1 x) (TW_ : TW x h2) (hm : m ≤ m') : TX c x nt n T Lf dom sd rt ct dp kd m' h2 h2 := by
  have no : ∀ a, (cq_s h1 a = 6 ∨ cq_s h1 a = 8 ∨ cq_s h1 a = 183 ∨ cq_s h1 a = 4 ∨ cq_s h1 a = 2) → ¬ (x ≤ a ∧ a ≤ x + 65) := fun a q w => by
    have := S.isR w
    unfold isR at this
    omega
  have C1 : CT c (fun _ => none) h1 [] h1 := C.an
  have C2 : CT c (fun _ => none) h1 [] h2 := by
    refine C1.cg W.2.1 W.2.2.1 (fun a j q => ?_) (fun a j q => ?_) (fun a j q => by rw [W.2.2.2.1])
    · unfold rlI at q
      simp only [Bool.or_eq_true, Bool.and_eq_true, beq_iff_eq] at q
      rw [(W.2.2.2.2 a (no a (by omega))).1]
    · unfold rlJ at q
      simp only [Bool.or_eq_true, Bool.and_eq_true, beq_iff_eq] at q
      rw [(W.2.2.2.2 a (no a (by omega))).2]
  refine X.quiet F C1 C2 rfl hc (fun _ _ => rfl) TW_ (fun w w' s s' e => ?_) hm (exT.refl _ _) rfl ⟨fun _ _ _ => rfl, fun _ => Or.inl rfl⟩ rfl (fun _ _ _ => rfl) (fun _ _ _ => rfl)
  rw [W.2.1] at s s'
  rw [(W.2.2.2.2 w (no w (Or.inl s))).2, (W.2.2.2.2 w' (no w' (Or.inl s'))).2] at e
  exact X.b.u1 w w' s s' e
theorem TS.mk (Q : AH c x nt n k pe ro pa lb tp rd en op ob T Lf dom sd rt ct dp kd h h1) (C : CT c E1 h [] h1) (hc : cq_s h1 c = 9) (P : uE pe n h1) (F2 : FX c x n pe ro pa lb tp rd en op ob T1 Lf1 h1 h2) (W : wz x h1 h2) (S : rS h1 x) (TW_ : TW x h2) (r : RS x n h1 h2) (X : ∃ dom' sd' rt' ct' dp' kd', TX c x nt n T1 Lf1 dom' sd' rt' ct' dp' kd' (2 * k.toNat + 5) h1 h2) : TS c x n pe T1 Lf1 (k + 1) h2 := by
  have hk := Q.hk
  obtain ⟨dom', sd', rt', ct', dp', kd', X⟩ := X
  refine ⟨⟨nt, dom', sd', rt', ct', dp', kd', X.wz F2 C hc W S TW_ (by omega)⟩, fun u1 u2 i1 i2 a1 a2 a3 a4 a5 a6 a7 a8 a9 => ?_, Q.D.st hk.1 r, fun p sp => P p (by rw [← W.2.1]; exact sp)⟩
  rw [(r u1 a1 a2).1, (r u2 a3 a4).1] at a9
  exact Q.A u1 u2 i1 i2 a1 a2 a3 a4 a5 a6 a7 a8 a9
end
