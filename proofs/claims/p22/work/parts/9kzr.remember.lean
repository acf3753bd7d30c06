/-! class and reference side by side: a beginning is remembered -/
section
variable {c x : Nat} {n : Int} {pe : Int → Nat} {ro : Int → Int → Nat} {pa lb tp rd en op ob : Nat} {T Lf : Int → Nat} {h g h' g' : cx_Q} {u ln : Int} {e : Int64}
/-- a beginning more -/
def sn (g : cx_Q) (x : Nat) (u ln : Int) (e : Int64) : cx_Q := cq_sI (cq_sJ (cq_sI g (x + 59) (100 * u + cq_I g (x + 58) u) ln) (x + 60) (100 * u + cq_I g (x + 58) u) e) (x + 58) u (cq_I g (x + 58) u + 1)
theorem fx_seen (F : FX c x n pe ro pa lb tp rd en op ob T Lf h g) (hu : 0 ≤ u ∧ u < n) (hl : cq_I g (x + 58) u < 100) (eh : h' = cq_sI (cq_sI (cq_sJ h (pe u + 4) (cq_I h (pe u) 16) e) (pe u + 5) (cq_I h (pe u) 16) ln) (pe u) 16 (cq_I h (pe u) 16 + 1)) : FX c x n pe ro pa lb tp rd en op ob T Lf h' (sn g x u ln e) := by
  have f := F.fu u hu.1 hu.2
  have hd := f.hd
  have h100 := f.h100
  have s0 := f.s0
  have n6 : cq_s h (pe u + 4) ≠ 6 := by rw [f.s4]; decide
  have ex : evx (ucl (pe u)) h h' := by
    rw [eh]
    refine evx.sI (P := ucl (pe u)) (evx.sI (P := ucl (pe u)) (evx.sJ (P := ucl (pe u)) evx.refl ?_ n6) ?_) ?_ <;> (unfold ucl; omega)
  have gI : ∀ o j, 1 ≤ o → ¬ (o = 59 ∧ j = 100 * u + cq_I g (x + 58) u) → ¬ (o = 58 ∧ j = u) → cq_I (sn g x u ln e) (x + o) j = cq_I g (x + o) j := fun o j w1 w2 w3 => by
    unfold sn
    rw [mm_sI, if_neg (fun q => w3 ⟨by omega, q.2⟩), mm_IJ, mm_sI, if_neg (fun q => w2 ⟨by omega, q.2⟩)]
  have gJ : ∀ o j, 1 ≤ o → ¬ (o = 60 ∧ j = 100 * u + cq_I g (x + 58) u) → cq_J (sn g x u ln e) (x + o) j = cq_J g (x + o) j := fun o j w1 w2 => by
    unfold sn
    rw [mm_JI, mm_sJ, if_neg (fun q => w2 ⟨by omega, q.2⟩), mm_JI]
  have g58 : cq_I (sn g x u ln e) (x + 58) u = cq_I g (x + 58) u + 1 := by
    unfold sn
    rw [mm_sI, if_pos ⟨rfl, rfl⟩]
  have g59 : cq_I (sn g x u ln e) (x + 59) (100 * u + cq_I g (x + 58) u) = ln := by
    unfold sn
    rw [mm_sI, if_neg (fun q => by omega), mm_IJ, mm_sI, if_pos ⟨rfl, rfl⟩]
  have g60 : cq_J (sn g x u ln e) (x + 60) (100 * u + cq_I g (x + 58) u) = e := by
    unfold sn
    rw [mm_JI, mm_sJ, if_pos ⟨rfl, rfl⟩]
  have gx : ∀ j, cq_I (sn g x u ln e) x j = cq_I g x j := fun j => by
    unfold sn
    rw [mm_sI, if_neg (fun q => by omega), mm_IJ, mm_sI, if_neg (fun q => by omega)]
  have hA : cq_A h' = cq_A h := by rw [eh]; exact Eq.trans rfl rfl
  have hs : cq_s h' = cq_s h := by rw [eh]; exact Eq.trans rfl rfl
  have hI : ∀ j, j ≠ 16 → cq_I h' (pe u) j = cq_I h (pe u) j := fun j w => by
    rw [eh, mm_sI, if_neg (fun q => w q.2), mm_sI, if_neg (fun q => by omega), mm_IJ]
  have h16 : cq_I h' (pe u) 16 = cq_I g (x + 58) u + 1 := by rw [eh, mm_sI, if_pos ⟨rfl, rfl⟩, hd]
  have oJ : ∀ d, d ≠ pe u + 4 → cq_J h' d = cq_J h d := fun d w => by
    funext k
    rw [eh, mm_JI, mm_JI, mm_sJ, if_neg (fun q => w q.1)]
  have i3 : cq_I h' (pe u + 3) = cq_I h (pe u + 3) := by
    funext k
    rw [eh, mm_sI, if_neg (fun q => by omega), mm_sI, if_neg (fun q => by omega), mm_IJ]
  have r4 : ∀ k, cq_J h' (pe u + 4) k = if k = cq_I g (x + 58) u then e else cq_J h (pe u + 4) k := fun k => by
    rw [eh, mm_JI, mm_JI, mm_sJ, hd]
    by_cases w : k = cq_I g (x + 58) u
    · rw [if_pos ⟨rfl, w⟩, if_pos w]
    · rw [if_neg (fun q => w q.2), if_neg w]
  have r5 : ∀ k, cq_I h' (pe u + 5) k = if k = cq_I g (x + 58) u then ln else cq_I h (pe u + 5) k := fun k => by
    rw [eh, mm_sI, if_neg (fun q => by omega), mm_sI, hd, mm_IJ]
    by_cases w : k = cq_I g (x + 58) u
    · rw [if_pos ⟨rfl, w⟩, if_pos w]
    · rw [if_neg (fun q => w q.2), if_neg w]
  clear eh
  have s4 := f.s4
  have d6 : ∀ d, cq_s h d = 6 → cq_J h' d = cq_J h d := fun d w => oJ d (fun z => by rw [z, s4] at w; exact absurd w (by decide))
  have Jp : cq_J h' (pe u) = cq_J h (pe u) := oJ _ (by omega)
  generalize sn g x u ln e = g1 at gI gJ g58 g59 g60 gx ⊢
  have iI : ∀ o, 1 ≤ o → o < 58 → ∀ j, cq_I g1 (x + o) j = cq_I g (x + o) j := fun o w1 w2 j => gI o j w1 (by omega) (by omega)
  have iJ : ∀ o, 1 ≤ o → o < 58 → ∀ j, cq_J g1 (x + o) j = cq_J g (x + o) j := fun o w1 w2 j => gJ o j w1 (by omega)
  refine F.upU hu ex (fun a w => w) (fun o j h1 h2 h3 w => ⟨gI o j h1 (fun q => w (by unfold inU; omega)) (fun q => w (by unfold inU; omega)), gJ o j h1 (fun q => w (by unfold inU; omega))⟩) (fun j _ => gx j) (by rw [hA]) ⟨by rw [hs]; exact f.s0, by rw [hs]; exact f.s1, by rw [hs]; exact f.s2, by rw [hs]; exact f.s3, by rw [hs]; exact f.s4, by rw [hs]; exact f.s5, by rw [hA]; exact f.a8, by rw [hA]; exact f.a9, by rw [hA]; exact f.a10, by rw [hA]; exact f.a14, by rw [hA]; exact f.a15, by rw [Jp, iJ 1 (by decide) (by decide)]; exact f.sd, by rw [hI 1 (by decide), iI 12 (by decide) (by decide)]; exact f.dr, by rw [iI 11 (by decide) (by decide), hA]; exact f.n0, fun q => ?_, by rw [iJ 21 (by decide) (by decide)]; exact f.sb, by rw [hI 4 (by decide), iI 16 (by decide) (by decide)]; exact f.ln, by rw [iI 16 (by decide) (by decide)]; exact f.l20, by rw [Jp, iJ 20 (by decide) (by decide)]; exact f.lo, by rw [Jp, iJ 21 (by decide) (by decide)]; exact f.so, by rw [Jp, iJ 22 (by decide) (by decide)]; exact f.sp, fun k k1 k2 => ?_, by rw [hI 11 (by decide), iI 23 (by decide) (by decide)]; exact f.on, by rw [iI 23 (by decide) (by decide)]; exact f.o60, fun k k1 k2 => ?_, fun k k1 k2 => ?_, fun k k1 => ?_, by rw [hI 12 (by decide), iI 23 (by decide) (by decide)]; exact f.ot, fun k k1 k2 => ?_, by rw [h16, g58], by rw [g58]; omega, fun k k1 k2 => ?_⟩
  · rw [iI 11 (by decide) (by decide)] at q
    obtain ⟨d, q1, q2, q3, q4, q5, q6, q7⟩ := f.n1 q
    exact ⟨d, by rw [hA]; exact q1, by rw [hs]; exact q2, by rw [d6 d q2, iJ 13 (by decide) (by decide)]; exact q3, by rw [d6 d q2, iJ 14 (by decide) (by decide)]; exact q4, by rw [iJ 13 (by decide) (by decide)]; exact q5, by rw [iJ 14 (by decide) (by decide)]; exact q6, by rw [iJ 14 (by decide) (by decide)]; exact q7⟩
  · rw [iI 16 (by decide) (by decide)] at k2
    obtain ⟨d, q1, q2, q3, q4⟩ := f.lk k k1 k2
    exact ⟨d, by rw [hA]; exact q1, by rw [hs]; exact q2, by rw [d6 d q2, iJ 17 (by decide) (by decide)]; exact q3, by rw [d6 d q2, iJ 18 (by decide) (by decide)]; exact q4⟩
  · rw [iI 23 (by decide) (by decide)] at k2
    obtain ⟨d, q1, q2, q3, q4⟩ := f.ok k k1 k2
    exact ⟨d, by rw [hA]; exact q1, by rw [hs]; exact q2, by rw [d6 d q2, iJ 24 (by decide) (by decide)]; exact q3, by rw [d6 d q2, iJ 25 (by decide) (by decide)]; exact q4⟩
  · rw [iI 23 (by decide) (by decide)] at k2
    rw [i3, iI 28 (by decide) (by decide)]
    exact f.ou k k1 k2
  · rw [iI 23 (by decide) (by decide)] at k1
    rw [i3]
    exact f.oz k k1
  · rw [iI 23 (by decide) (by decide)] at k2
    rw [hI 12 (by decide), iI 27 (by decide) (by decide)]
    exact f.od k k1 k2
  · rw [g58] at k2
    rw [r4, r5]
    by_cases w : k = cq_I g (x + 58) u
    · rw [if_pos w, if_pos w, w, g59, g60]
      exact ⟨rfl, rfl⟩
    · rw [if_neg w, if_neg w, gI 59 _ (by decide) (by omega) (by omega), gJ 60 _ (by decide) (by omega)]
      exact f.he k k1 (by omega)
end
