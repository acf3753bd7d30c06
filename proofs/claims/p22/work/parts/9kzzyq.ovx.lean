/-! what the class's calls told: of the reference's cells alone -/
section
variable {c x : Nat} {n u v l s : Int} {pe : Int → Nat} {T Lf T' Lf' : Int → Nat} {g k h h' : cx_Q} {a d : Nat} {oc : Option Nat} {who e : Int64}
theorem LX_o : LX x T Lf Lf' (ov x g k) u v h' = LX x T Lf Lf' g u v h' := by
  unfold LX wrS
  rw [ov_I0, ov_I (o := 29) (by decide), ov_I (o := 40) (by decide)]
theorem OX_o : OX x u s (ov x g k) a h h' = OX x u s g a h h' := by
  unfold OX
  simp only [ov_m_keptAt, ov_m_tn, ov_m_bef, ov_I0, ov_J0, ov_I (x := x) (h := g) (k := k) (o := 53) (by decide), ov_I (x := x) (h := g) (k := k) (o := 41) (by decide), ov_I (x := x) (h := g) (k := k) (o := 12) (by decide), ov_J (x := x) (h := g) (k := k) (o := 1) (by decide)]
theorem NX_o : NX c x pe u who e (ov x g k) a d oc h h' = NX c x pe u who e g a d oc h h' := by
  unfold NX
  simp only [ov_I0, ov_J0, ov_I (x := x) (h := g) (k := k) (o := 12) (by decide), ov_J (x := x) (h := g) (k := k) (o := 1) (by decide)]
theorem CMX_o : CMX c x pe T T' (ov x g k) l u h h' = CMX c x pe T T' g l u h h' := by
  unfold CMX
  simp only [ov_m_rl, ov_I (x := x) (k := k) (o := 62) (by decide), ov_I (x := x) (k := k) (o := 29) (by decide), ov_m_cfI, ov_m_bytes, ov_m_slotN, ov_m_clI, OX_o, NX_o]
theorem FBg_o : FBg c x n pe T Lf (ov x g k) u v h T' Lf' h' = FBg c x n pe T Lf g u v h T' Lf' h' := by
  unfold FBg
  simp only [ov_I (x := x) (h := g) (k := k) (o := 11) (by decide), ov_I (x := x) (h := g) (k := k) (o := 12) (by decide), ov_J (x := x) (h := g) (k := k) (o := 20) (by decide), ov_J (x := x) (h := g) (k := k) (o := 1) (by decide), ov_m_seal, ov_m_leastOnce, ov_m_bn0, ov_sI0, ov_I0, ov_m_draw, ov_m_slotN]
theorem FCp_o : FCp x T Lf (ov x g k) l h T' Lf' h' = FCp x T Lf g l h T' Lf' h' := by
  unfold FCp
  simp only [ov_I0]
theorem FCm_o : FCm c x n pe T Lf (ov x g k) l u h T' Lf' h' = FCm c x n pe T Lf g l u h T' Lf' h' := by
  unfold FCm
  simp only [ov_CO, CMX_o]
theorem FWr_o : FWr c x n pe T Lf (ov x g k) u v h T' Lf' h' = FWr c x n pe T Lf g u v h T' Lf' h' := by
  unfold FWr
  simp only [ov_I (x := x) (h := g) (k := k) (o := 11) (by decide), ov_I (x := x) (h := g) (k := k) (o := 12) (by decide), ov_I (x := x) (h := g) (k := k) (o := 30) (by decide), ov_J (x := x) (h := g) (k := k) (o := 20) (by decide), ov_J (x := x) (h := g) (k := k) (o := 1) (by decide), ov_m_seal, ov_m_leastOnce, ov_m_bn0, ov_sI0, ov_I0, ov_m_draw, ov_m_slotN, ov_m_begin, LX_o]
end
