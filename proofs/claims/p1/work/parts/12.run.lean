section EVK
variable {l : Launch} {o : Bool} {B b L : Nat} {xs : Nat → Int32} {D : va_G} {tys : List (ClassId × FieldType)} {Tg Tn : List Cond} {AO : List String} {G : ev_G} {TY : Nat → Nat → FieldType} {PG : List ev_M} {dk : ev_M → Prop} {fin : Option ev_A → ev_Q → Bool} {stop : ev_S → Bool}
/-- the abstract machine says nothing wrong: a run that is found good is one that the machine makes -/
theorem ev_sound (Fx : ev_Fx Tg Tn G TY) (hM : ∀ M ∈ PG, ev_mok Tg Tn AO G TY PG M) (hdk : ∀ M ∈ PG, dk M) (hdd : ∀ M, dk M → ∀ (pc : Nat) (E : ev_E), ev_at M pc = some E → decode (ev_mB M) pc = .ok (E.1, E.2.1) ∧ ev_lok Tg Tn AO G TY PG (ev_mN M).cls (ev_mK M) E) (hPl : PG.length ≤ 900) (ht : tys.map Prod.snd = G.2.1) (hv : ∀ M ∈ PG, 10 ≤ ev_mK M → ev_Hv l Tg M) (hstop : ∀ (n : Nat) (S : ev_S), stop S = true → ev_Goal G PG fin stop l D tys Tg Tn AO o B b L xs dk n S) :
    ∀ (n : Nat) (S : ev_S), ev_run G PG fin stop n S = true → ev_Goal G PG fin stop l D tys Tg Tn AO o B b L xs dk n S := by
  intro n
  induction n using Nat.strongRecOn with
  | ind n ih =>
    intro S hS
    cases n with
    | zero => cases hS
    | succ k =>
      have ih' : ∀ j, j ≤ k → ∀ S, ev_run G PG fin stop j S = true → ev_Goal G PG fin stop l D tys Tg Tn AO o B b L xs dk j S := fun j hj => ih j (by omega)
      unfold ev_run at hS
      split at hS
      · rename_i hst
        exact hstop _ _ hst
      · split at hS
        · cases hS
        · rename_i Ls hnext
          have hall : ∀ S ∈ Ls, ev_run G PG fin stop k S = true := fun S' h' => List.all_eq_true.mp hS S' h'
          obtain ⟨frs, h, sg⟩ := S
          cases frs with
          | nil => trivial
          | cons f fs =>
            obtain ⟨M, pc, lv, st, bc, bs⟩ := f
            intro hMem hfs p e R s m args below meth c Q H locs cells slots ls clv cst mc ms X hl h2 h1 hR hL hSd hc hs hmc hms hF hO hRH
            have hRH' := ev_RH_mono G PG fin stop l D tys o B b L xs (Nat.le_succ k) hRH
            unfold ev_next at hnext
            dsimp only at hnext
            split at hnext
            · cases hnext
            · rename_i E hat
              obtain ⟨hd, lk⟩ := hdd M hMem pc E hat
              split at hnext
              · split at hnext
                · rename_i len lv' st' hpu hlen
                  cases hnext
                  rw [beq_iff_eq] at hlen
                  subst hlen
                  exact ev_pure_ok X.1 X.2.1 hd hpu hl h2 h1 (fun ls' clv' cst' a1 a2 a3 => ih' k (Nat.le_refl _) _ (hall _ (List.mem_singleton.mpr rfl)) hMem hfs p e R s m args below meth c Q H locs cells slots ls' clv' cst' mc ms X a1 a2 a3 hR hL hSd hc hs hmc hms hF hO hRH')
                · cases hnext
              · split at hnext
                · rename_i Lb hbr
                  cases hnext
                  exact ev_br_ok X.1 X.2.1 hd hbr h1 (fun q hq cst' a3 => ih' k (Nat.le_refl _) _ (hall _ (List.mem_map.mpr ⟨q, hq, rfl⟩)) hMem hfs p e R s m args below meth c Q H locs cells slots ls clv cst' mc ms X hl h2 a3 hR hL hSd hc hs hmc hms hF hO hRH')
                · split at hnext
                  · rename_i Lq hhp
                    cases hnext
                    exact ev_hp_ok Fx X lk hd hhp ht hR hL hSd h1 hl.1 (by omega) (by omega) hF hO (fun q hq H1 locs1 cst1 cells1 slots1 a1 a2 a3 a4 a5 a6 => ih' k (Nat.le_refl _) _ (hall _ (List.mem_map.mpr ⟨q, hq, rfl⟩)) hMem hfs p e R s m args below meth c Q H1 locs1 cells1 slots1 ls clv cst1 mc ms X hl h2 a4 a1 a2 a3 (by omega) (by omega) hmc hms hF hO hRH')
                  · split at hnext
                    · rename_i a hrok
                      split at hnext
                      · rename_i hlen
                        rw [beq_iff_eq] at hlen
                        refine hRH H locs cells slots ls pc cst E st a h sg ?_ hat hlen hrok h1 hR hL hSd (by omega) (by omega)
                        unfold ev_back at hnext
                        cases fs with
                        | nil =>
                          dsimp only at hnext
                          split at hnext
                          · rename_i hf
                            exact hf
                          · cases hnext
                        | cons f2 fs2 =>
                          obtain ⟨M2, pc2, lv2, st2, bc2, bs2⟩ := f2
                          dsimp only at hnext
                          cases hnext
                          exact ⟨k, Nat.lt_succ_self k, hall _ (List.mem_singleton.mpr rfl)⟩
                      · cases hnext
                    · split at hnext
                      · rename_i idx hi
                        exact ev_call_ok Fx hM hdk hPl hv ih' (Or.inr (Or.inl ⟨rfl, hi⟩)) hnext hall hMem hfs X lk hd hl h2 h1 hR hL hSd hc hs hmc hms hF hO hRH
                      · rename_i idx hi
                        exact ev_call_ok Fx hM hdk hPl hv ih' (Or.inl ⟨rfl, hi⟩) hnext hall hMem hfs X lk hd hl h2 h1 hR hL hSd hc hs hmc hms hF hO hRH
                      · rename_i idx hi
                        exact ev_call_ok Fx hM hdk hPl hv ih' (Or.inr (Or.inr ⟨rfl, hi⟩)) hnext hall hMem hfs X lk hd hl h2 h1 hR hL hSd hc hs hmc hms hF hO hRH
                      · cases hnext
end EVK
