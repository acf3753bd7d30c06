/-! class and reference side by side: what was read -/
def RF2 (x : Nat) (k : Int64) (g g' : cx_Q) : Prop := (cq_I g' x 75 = cq_I g x 83) ∧ (∀ i, 0 ≤ i → i < cq_I g x 83 → cq_I g' (x + 65) i = cx_and (Int64.ofInt (cq_I g (x + 62) (cq_I g x 77 + cq_I g x 82 + i)) ^^^ f_key 5 k (Int64.ofInt i)).toInt32.toInt 255)
theorem RF2.x75 {x : Nat} {k : Int64} {g g' : cx_Q} (F_ : RF2 x k g g') : cq_I g' x 75 = cq_I g x 83 := F_.1
theorem RF2.r_ {x : Nat} {k : Int64} {g g' : cx_Q} (F_ : RF2 x k g g') : ∀ i, 0 ≤ i → i < cq_I g x 83 → cq_I g' (x + 65) i = cx_and (Int64.ofInt (cq_I g (x + 62) (cq_I g x 77 + cq_I g x 82 + i)) ^^^ f_key 5 k (Int64.ofInt i)).toInt32.toInt 255 := F_.2
theorem RD.e {x : Nat} {k : Int64} {g g' : cx_Q} (A : RD x k g g') : RF2 x k g g' := ⟨A.x75, A.r_⟩
section
variable {c x : Nat} {n : Int} {pe : Int → Nat} {ro : Int → Int → Nat} {pa lb tp rd en op ob : Nat} {T Lf : Int → Nat} {h g h' g1 g2 gq : cx_Q} {b : Nat} {l : Int} {key : Int64}
theorem fx_read (F : FX c x n pe ro pa lb tp rd en op ob T Lf h g1) (R : ER x en b l h g) (A : RF2 x key g gq) (d0 : 0 ≤ cq_I g x 82) (h8 : ∀ j, 0 ≤ cq_I h b j ∧ cq_I h b j ≤ 255) (e : h' = rdW h c rd en b key (cq_I h en 12)) (eI : ∀ o j, 1 ≤ o → o ≠ 65 → cq_I g2 (x + o) j = cq_I g1 (x + o) j) (eJ : ∀ o j, 1 ≤ o → cq_J g2 (x + o) j = cq_J g1 (x + o) j) (ex : ∀ j, j ≠ 75 → cq_I g2 x j = cq_I g1 x j) (x75 : cq_I g2 x 75 = cq_I gq x 75) (r65 : ∀ i, cq_I g2 (x + 65) i = cq_I gq (x + 65) i) : FX c x n pe ro pa lb tp rd en op ob T Lf h' g2 := by
  have fs := F.fs
  have ncr : ¬ c = rd := ns fs.s0 fs.s2 (by decide)
  have nrc : ¬ rd = c := fun z => ncr z.symm
  have ntr : ¬ tp = rd := ns fs.s1 fs.s2 (by decide)
  have ntc : ¬ tp = c := ns fs.s1 fs.s0 (by decide)
  have e1 : evx (fun a => a = c ∨ a = rd) h h' := by
    rw [e]
    exact evx.rI (P := fun a => a = c ∨ a = rd) (evx.sI (P := fun a => a = c ∨ a = rd) evx.refl (Or.inl rfl)) (Or.inr rfl)
  have eA : cq_A h' = cq_A h := by rw [e]; exact Eq.trans rfl rfl
  have hI : ∀ j, j ≠ 11 → cq_I h' c j = cq_I h c j := fun j w => by
    rw [e]
    unfold rdW
    rw [rr_I, if_neg ncr, mm_sI, if_neg (fun q => w q.2)]
  have h11 : cq_I h' c 11 = cq_I h en 12 := by
    rw [e]
    unfold rdW
    rw [rr_I, if_neg ncr, mm_sI, if_pos ⟨rfl, rfl⟩]
  have ht : cq_I h' tp = cq_I h tp := by
    rw [e]
    unfold rdW
    funext j
    rw [rr_I, if_neg ntr, mm_sI, if_neg (fun q => ntc q.1)]
  have hr : ∀ k, cq_I h' rd k = if 0 ≤ k ∧ k < cq_I h en 12 then vB (cq_I h b (cq_I h en 13 + k)) key k else cq_I h rd k := fun k => by
    rw [e]
    unfold rdW
    rw [rr_I, if_pos rfl]
  clear e
  have a75 := A.x75
  have t1 := R.t1
  have tz := R.tz
  refine F.upS e1 (fun o _ => o = 65) (fun o j h1 h2 h3 w => ⟨eI o j h1 w, eJ o j h1⟩) (fun a w => ?_) (fun o j w => Or.inr w) (by rw [eA]) (by rw [eA]) (ex 0 (by decide)) (ex 72 (by decide)) ⟨e1.s fs.s0 (by decide), e1.s fs.s1 (by decide), e1.s fs.s2 (by decide), by rw [eA]; exact fs.a8, by rw [eA]; exact fs.a10, by rw [hI 2 (by decide), ex 72 (by decide)]; exact fs.lc, by rw [hI 3 (by decide), ex 73 (by decide)]; exact fs.cc, by rw [hI 4 (by decide), ex 63 (by decide)]; exact fs.bc, by rw [hI 5 (by decide), ex 85 (by decide)]; exact fs.mc, by rw [hI 6 (by decide), ex 84 (by decide)]; exact fs.oc, by rw [hI 7 (by decide), ex 86 (by decide)]; exact fs.kc, by rw [hI 9 (by decide), ex 68 (by decide)]; exact fs.tc, by rw [h11, x75, a75]; exact R.tl, fun k k0 k1 => ?_, fun k k0 k1 => ?_, fun k k0 k1 => ?_⟩
  · rcases w with rfl | rfl
    · rw [fs.s0]; rfl
    · rw [fs.s2]; rfl
  · rw [ex 68 (by decide)] at k1
    rw [ht, eI 61 k (by decide) (by decide)]
    exact fs.tp_ k k0 k1
  · rw [x75, a75] at k1
    have tl := R.tl
    rw [hr, if_pos (by omega), r65, A.r_ k k0 k1, R.i77, R.ta]
    have bb := R.bb (cq_I g x 82 + k) (by omega) (by omega)
    have ea : 100 * l + cq_I g x 82 + k = 100 * l + (cq_I g x 82 + k) := by omega
    rw [ea, ← bb, veil_8 (h8 _)]
  · rw [ex 68 (by decide)] at k1
    rw [eI 61 k (by decide) (by decide)]
    exact fs.tb k k0 k1
end
