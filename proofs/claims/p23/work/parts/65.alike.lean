/-! opening, alike but for terms; what it leaves as it was -/
theorem eT_keptAt {x : Nat} {s : Int} {h h' : cx_Q} (a : eT x h h') : m_keptAt h' x s = m_keptAt h x s := by
  unfold m_keptAt
  rw [a.fJ (o := 54) (by decide) (by decide), a.fI (o := 55) (by decide) (by decide), a.xJ (j := 79) (by decide) (by decide) (by decide), a.xI (j := 81) (by decide) (by decide) (by decide), a.fI (o := 53) (by decide) (by decide)]
theorem eT_bytes {x : Nat} {p m : Int} {h h' : cx_Q} (a : eT x h h') : m_bytes h' x p m = m_bytes h x p m := by
  unfold m_bytes
  rw [a.fI (o := 62) (by decide) (by decide), a.xI (j := 77) (by decide) (by decide) (by decide)]
theorem eT_tg {x : Nat} {l : Int} {k : Int64} {h h' : cx_Q} (a : eT x h h') : m_tg h' x l k = m_tg h x l k := by
  unfold m_tg
  rw [eT_bytes a, a.fI (o := 62) (by decide) (by decide), a.xI (j := 78) (by decide) (by decide) (by decide)]
theorem eT_bef {x : Nat} {s t : Int} {h h' : cx_Q} (a : eT x h h') : m_bef h' x s t = m_bef h x s t := by
  unfold m_bef
  rw [a.fI (o := 35) (by decide) (by decide), a.fI (o := 41) (by decide) (by decide), a.xI (j := 80) (by decide) (by decide) (by decide)]
theorem eT_beh {x : Nat} {s t : Int} {h h' : cx_Q} (a : eT x h h') : m_beh h' x s t = m_beh h x s t := by
  unfold m_beh
  rw [a.fI (o := 41) (by decide) (by decide), a.xI (j := 81) (by decide) (by decide) (by decide)]
theorem eT_com {x : Nat} {s t : Int} {h h' : cx_Q} (a : eT x h h') : m_com h' x s t = m_com h x s t := by
  unfold m_com
  rw [a.fJ (o := 36) (by decide) (by decide), a.xJ (j := 79) (by decide) (by decide) (by decide)]
theorem eT_okey {x : Nat} {s t : Int} {h h' : cx_Q} (a : eT x h h') : m_okey h' x s t = m_okey h x s t := by
  unfold m_okey m_ch0
  rw [eT_com a, eT_beh a, a.fJ (o := 31) (by decide) (by decide), a.fJ (o := 34) (by decide) (by decide)]
theorem eT_oA {x : Nat} {l s t : Int} {h h' : cx_Q} (a : eT x h h') : m_oA h' x l s t = m_oA h x l s t := by
  unfold m_oA
  rw [eT_bef a, eT_beh a, eT_okey a, eT_tg a, a.xI (j := 81) (by decide) (by decide) (by decide), a.fI (o := 41) (by decide) (by decide), a.fI (o := 53) (by decide) (by decide), a.fI (o := 35) (by decide) (by decide)]
theorem eT_tn {x : Nat} {s : Int} {h h' : cx_Q} (a : eT x h h') : m_tn h' x s = m_tn h x s := by
  unfold m_tn
  rw [a.fI (o := 39) (by decide) (by decide), a.xJ (j := 79) (by decide) (by decide) (by decide), a.fJ (o := 38) (by decide) (by decide)]
theorem eT_openA {x : Nat} {l s : Int} {h h' : cx_Q} (a : eT x h h') : m_openA h' x l s = m_openA h x l s := by
  unfold m_openA
  rw [eT_keptAt a, eT_tn a, eT_oA a, eT_tg a, a.fJ (o := 56) (by decide) (by decide)]
theorem eT_drop {x : Nat} {s i : Int} {h h' : cx_Q} (a : eT x h h') : eT x (m_drop h x s i) (m_drop h' x s i) := by
  unfold m_drop m_dk
  rw [a.fI (o := 53) (by decide) (by decide)]
  refine itq_eT (f := fun i h => m_dk1 h x i) (fun i g g' q => ?_) _ _ _ _ (eT.sI a)
  show eT x (m_dk1 g x i) (m_dk1 g' x i)
  unfold m_dk1
  rw [q.fJ (o := 54) (by decide) (by decide), q.fI (o := 55) (by decide) (by decide), q.fJ (o := 56) (by decide) (by decide)]
  repeat' (first | with_reducible exact eT.refl _ _ | with_reducible assumption | (with_reducible refine eT.tI ?_ ?_; rotate_left; first | exact isT_a (by decide) | exact isT_f (by decide)) | (with_reducible refine eT.tJ ?_ ?_; rotate_left; first | exact isT_a (by decide) | exact isT_f (by decide)) | with_reducible refine eT.sI ?_ | with_reducible refine eT.sJ ?_)
theorem eT_oEnd {x : Nat} {s : Int} {k : Int64} {h h' : cx_Q} (a : eT x h h') : eT x (m_oEnd h x s k) (m_oEnd h' x s k) := by
  unfold m_oEnd
  rw [a.xI (j := 81) (by decide) (by decide) (by decide), a.fI (o := 41) (by decide) (by decide)]
  exact eT.sI (eT_readText (eT_step (eT_keep a)))
theorem eT_oT {x : Nat} {u s t : Int} {h h' : cx_Q} (a : eT x h h') : eT x (m_oT h x u s t) (m_oT h' x u s t) := by
  unfold m_oT
  rw [eT_com a]
  split
  · refine eT_turn ?_
    unfold m_oK0
    rw [a.fI (o := 35) (by decide) (by decide), a.xI (j := 80) (by decide) (by decide) (by decide), a.fI (o := 41) (by decide) (by decide)]
    split
    · exact eT_keep a
    · exact a
  · exact a
theorem eT_openQ {x : Nat} {u s : Int} {h h' : cx_Q} (a : eT x h h') : eT x (m_openQ h x u s) (m_openQ h' x u s) := by
  unfold m_openQ
  rw [eT_keptAt a, eT_tn a, eT_okey a, a.fJ (o := 56) (by decide) (by decide)]
  split
  · exact eT_oEnd (eT_oT a)
  · unfold m_openK
    exact eT.sI (eT_readText (eT_drop a))
