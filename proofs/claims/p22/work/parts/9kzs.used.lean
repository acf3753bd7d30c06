/-! class and reference side by side: a ONCE key is used -/
section
variable {c x : Nat} {n : Int} {pe : Int → Nat} {ro : Int → Int → Nat} {pa lb tp rd en op ob : Nat} {T Lf : Int → Nat} {h g h' g' : cx_Q} {u m : Int}
theorem fx_used (F : FX c x n pe ro pa lb tp rd en op ob T Lf h g) (hu : 0 ≤ u ∧ u < n) (hm : 1 ≤ m ∧ m ≤ cq_I g (x + 23) u) (eh : h' = cq_sI h (pe u + 3) m 1) : FX c x n pe ro pa lb tp rd en op ob T Lf h' (cq_sI g (x + 28) (61 * u + m) 0) := by
  have f := F.fu u hu.1 hu.2
  have o60 := f.o60
  have ex : evx (ucl (pe u)) h h' := by
    rw [eh]
    refine evx.sI (P := ucl (pe u)) evx.refl ?_
    unfold ucl
    omega
  have gI : ∀ o j, ¬ (o = 28 ∧ j = 61 * u + m) → cq_I (cq_sI g (x + 28) (61 * u + m) 0) (x + o) j = cq_I g (x + o) j := fun o j w => by rw [mm_sI, if_neg (fun q => w ⟨by omega, q.2⟩)]
  have gx : ∀ j, cq_I (cq_sI g (x + 28) (61 * u + m) 0) x j = cq_I g x j := fun j => by rw [mm_sI, if_neg (fun q => by omega)]
  have g28 : cq_I (cq_sI g (x + 28) (61 * u + m) 0) (x + 28) (61 * u + m) = 0 := by rw [mm_sI, if_pos ⟨rfl, rfl⟩]
  have gJ : cq_J (cq_sI g (x + 28) (61 * u + m) 0) = cq_J g := Eq.trans rfl rfl
  have hA : cq_A h' = cq_A h := by rw [eh]; exact Eq.trans rfl rfl
  have hs : cq_s h' = cq_s h := by rw [eh]; exact Eq.trans rfl rfl
  have hJ : cq_J h' = cq_J h := by rw [eh]; exact Eq.trans rfl rfl
  have oI : ∀ d, d ≠ pe u + 3 → cq_I h' d = cq_I h d := fun d w => by
    funext k
    rw [eh, mm_sI, if_neg (fun q => w q.1)]
  have r3 : ∀ k, cq_I h' (pe u + 3) k = if k = m then 1 else cq_I h (pe u + 3) k := fun k => by
    rw [eh, mm_sI]
    by_cases w : k = m
    · rw [if_pos ⟨rfl, w⟩, if_pos w]
    · rw [if_neg (fun q => w q.2), if_neg w]
  clear eh
  have hp := oI (pe u) (by omega)
  have h5 := oI (pe u + 5) (by omega)
  generalize cq_sI g (x + 28) (61 * u + m) 0 = g1 at gI gx g28 gJ ⊢
  have iI : ∀ o, o ≠ 28 → ∀ j, cq_I g1 (x + o) j = cq_I g (x + o) j := fun o w j => gI o j (fun q => w q.1)
  refine F.upU hu ex (fun a w => w) (fun o j h1 h2 h3 w => ⟨gI o j (fun q => w (by unfold inU; omega)), by rw [gJ]⟩) (fun j _ => gx j) (by rw [hA]) ⟨by rw [hs]; exact f.s0, by rw [hs]; exact f.s1, by rw [hs]; exact f.s2, by rw [hs]; exact f.s3, by rw [hs]; exact f.s4, by rw [hs]; exact f.s5, by rw [hA]; exact f.a8, by rw [hA]; exact f.a9, by rw [hA]; exact f.a10, by rw [hA]; exact f.a14, by rw [hA]; exact f.a15, by rw [hJ, gJ]; exact f.sd, by rw [hp, iI 12 (by decide)]; exact f.dr, by rw [iI 11 (by decide), hA]; exact f.n0, by rw [iI 11 (by decide), hA, hs, hJ, gJ]; exact f.n1, by rw [gJ]; exact f.sb, by rw [hp, iI 16 (by decide)]; exact f.ln, by rw [iI 16 (by decide)]; exact f.l20, by rw [hJ, gJ]; exact f.lo, by rw [hJ, gJ]; exact f.so, by rw [hJ, gJ]; exact f.sp, by rw [iI 16 (by decide), hA, hs, hJ, gJ]; exact f.lk, by rw [hp, iI 23 (by decide)]; exact f.on, by rw [iI 23 (by decide)]; exact f.o60, by rw [iI 23 (by decide), hA, hs, hJ, gJ]; exact f.ok, fun k k1 k2 => ?_, fun k k1 => ?_, by rw [hp, iI 23 (by decide)]; exact f.ot, fun k k1 k2 => ?_, by rw [hp, iI 58 (by decide)]; exact f.hd, by rw [iI 58 (by decide)]; exact f.h100, fun k k1 k2 => ?_⟩
  · rw [iI 23 (by decide)] at k2
    rw [r3]
    by_cases w : k = m
    · rw [if_pos w, w, g28]
      exact ⟨fun q => absurd q (by decide), fun q => absurd rfl q⟩
    · rw [if_neg w, gI 28 _ (fun q => w (by omega))]
      exact f.ou k k1 k2
  · rw [iI 23 (by decide)] at k1
    rw [r3, if_neg (by omega)]
    exact f.oz k k1
  · rw [iI 23 (by decide)] at k2
    rw [hp, iI 27 (by decide)]
    exact f.od k k1 k2
  · rw [iI 58 (by decide)] at k2
    rw [hJ, h5, gJ, iI 59 (by decide)]
    exact f.he k k1 k2
end
