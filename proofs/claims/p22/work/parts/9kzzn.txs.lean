/-! turns and terms: SESSIONS, letters, keys of the DIRECTORY -/
/-- a SESSION: its turns and its terms -/
def zR (x nt : Nat) (dom sd : Nat → Prop) (rt ct : Nat → Int) (h g : cx_Q) (a : Nat) (s : Int) : Prop :=
  (∃ S r w, cq_A h a 7 = some S ∧ cq_A h a 9 = some S ∧ sd S ∧ cq_I g (x + 48) s = rt S ∧ nx x g (ct S) (cq_I g (x + 40) s).toNat (cq_I g (x + 50) s) ∧ cq_A h a 12 = some w ∧ cq_A h S 1 = some r ∧ cq_A h r 0 = some w ∧ cq_s h w = 6 ∧ zS x g (cq_J h w 1) (cq_I g (x + 52) s))
  ∧ (∀ R, cq_A h a 11 = some R → dom R ∧ cq_A h R 0 ≠ some nt ∧ nx x g (ct R) (cq_I g (x + 41) s).toNat (cq_I g (x + 51) s))
  ∧ (cq_A h (a + 1) 3 = some (a + 5) ∧ cq_s h (a + 1) = 1 ∧ cq_s h (a + 5) = 174 ∧ ∀ r, 0 ≤ r → r < cq_I g (x + 53) s → ∃ R, cq_A h (a + 5) r = some R ∧ dom R ∧ cq_A h R 0 ≠ some nt ∧ 0 ≤ cq_I g (x + 55) (20 * s + r) ∧ kx x g (ct R) (cq_I g (x + 55) (20 * s + r)).toNat (cq_I g (x + 57) (20 * s + r)))
  ∧ (cq_s h a = 7 ∧ 0 ≤ cq_I g (x + 40) s ∧ cq_I g (x + 40) s ≤ cq_I g x 72)
/-- a letter: its turn and its term -/
def zL (x : Nat) (sd : Nat → Prop) (ct : Nat → Int) (h g : cx_Q) (a : Nat) (l : Int) : Prop := ∃ S, cq_A h a 2 = some S ∧ sd S ∧ 0 ≤ cq_I h a 3 ∧ cq_I h a 3 < 80 ∧ kx x g (ct S) (cq_I h a 3).toNat (cq_I g (x + 64) l)
/-- all of it -/
def TX (c x nt : Nat) (n : Int) (T Lf : Int → Nat) (dom sd : Nat → Prop) (rt ct : Nat → Int) (dp : Nat → Nat) (kd : Int → Nat) (m : Nat) (h g : cx_Q) : Prop := (TB c x nt dom sd rt ct dp kd m h g) ∧ (kd 0 = 0) ∧ (∀ u, 0 ≤ u → u < n → cq_I g (x + 11) u = 0 → cq_I g (x + 16) u = 0 ∧ cq_I g (x + 23) u = 0 ∧ ∀ v, 0 ≤ v → v < n → cq_I g (x + 30) (6 * u + v) = 0) ∧ (∀ u, 0 ≤ u → u < n → cq_I g (x + 11) u ≠ 0 → zS x g (cq_J g (x + 14) u) (cq_I g (x + 15) u) ∧ kd (cq_I g (x + 15) u) = 2) ∧ (∀ u k, 0 ≤ u → u < n → 1 ≤ k → k ≤ cq_I g (x + 16) u → zS x g (cq_J g (x + 18) (21 * u + k)) (cq_I g (x + 19) (21 * u + k)) ∧ kd (cq_I g (x + 19) (21 * u + k)) = 3) ∧ (∀ u k, 0 ≤ u → u < n → 1 ≤ k → k ≤ cq_I g (x + 23) u → zS x g (cq_J g (x + 25) (61 * u + k)) (cq_I g (x + 26) (61 * u + k)) ∧ kd (cq_I g (x + 26) (61 * u + k)) = 4) ∧ (∀ u v i, 0 ≤ u → u < n → 0 ≤ v → v < n → 0 ≤ i → i < cq_I g (x + 30) (6 * u + v) → zR x nt dom sd rt ct h g (T (cq_I g (x + 29) (4 * (6 * u + v) + i))) (cq_I g (x + 29) (4 * (6 * u + v) + i))) ∧ (∀ l, 0 ≤ l → l < cq_I g x 72 → zL x sd ct h g (Lf l) l)
theorem TX.b {c x nt : Nat} {n : Int} {T Lf : Int → Nat} {dom sd : Nat → Prop} {rt ct : Nat → Int} {dp : Nat → Nat} {kd : Int → Nat} {m : Nat} {h g : cx_Q} (F_ : TX c x nt n T Lf dom sd rt ct dp kd m h g) : TB c x nt dom sd rt ct dp kd m h g := F_.1
theorem TX.kz {c x nt : Nat} {n : Int} {T Lf : Int → Nat} {dom sd : Nat → Prop} {rt ct : Nat → Int} {dp : Nat → Nat} {kd : Int → Nat} {m : Nat} {h g : cx_Q} (F_ : TX c x nt n T Lf dom sd rt ct dp kd m h g) : kd 0 = 0 := F_.2.1
theorem TX.n0 {c x nt : Nat} {n : Int} {T Lf : Int → Nat} {dom sd : Nat → Prop} {rt ct : Nat → Int} {dp : Nat → Nat} {kd : Int → Nat} {m : Nat} {h g : cx_Q} (F_ : TX c x nt n T Lf dom sd rt ct dp kd m h g) : ∀ u, 0 ≤ u → u < n → cq_I g (x + 11) u = 0 → cq_I g (x + 16) u = 0 ∧ cq_I g (x + 23) u = 0 ∧ ∀ v, 0 ≤ v → v < n → cq_I g (x + 30) (6 * u + v) = 0 := F_.2.2.1
theorem TX.n1 {c x nt : Nat} {n : Int} {T Lf : Int → Nat} {dom sd : Nat → Prop} {rt ct : Nat → Int} {dp : Nat → Nat} {kd : Int → Nat} {m : Nat} {h g : cx_Q} (F_ : TX c x nt n T Lf dom sd rt ct dp kd m h g) : ∀ u, 0 ≤ u → u < n → cq_I g (x + 11) u ≠ 0 → zS x g (cq_J g (x + 14) u) (cq_I g (x + 15) u) ∧ kd (cq_I g (x + 15) u) = 2 := F_.2.2.2.1
theorem TX.n2 {c x nt : Nat} {n : Int} {T Lf : Int → Nat} {dom sd : Nat → Prop} {rt ct : Nat → Int} {dp : Nat → Nat} {kd : Int → Nat} {m : Nat} {h g : cx_Q} (F_ : TX c x nt n T Lf dom sd rt ct dp kd m h g) : ∀ u k, 0 ≤ u → u < n → 1 ≤ k → k ≤ cq_I g (x + 16) u → zS x g (cq_J g (x + 18) (21 * u + k)) (cq_I g (x + 19) (21 * u + k)) ∧ kd (cq_I g (x + 19) (21 * u + k)) = 3 := F_.2.2.2.2.1
theorem TX.n3 {c x nt : Nat} {n : Int} {T Lf : Int → Nat} {dom sd : Nat → Prop} {rt ct : Nat → Int} {dp : Nat → Nat} {kd : Int → Nat} {m : Nat} {h g : cx_Q} (F_ : TX c x nt n T Lf dom sd rt ct dp kd m h g) : ∀ u k, 0 ≤ u → u < n → 1 ≤ k → k ≤ cq_I g (x + 23) u → zS x g (cq_J g (x + 25) (61 * u + k)) (cq_I g (x + 26) (61 * u + k)) ∧ kd (cq_I g (x + 26) (61 * u + k)) = 4 := F_.2.2.2.2.2.1
theorem TX.q1 {c x nt : Nat} {n : Int} {T Lf : Int → Nat} {dom sd : Nat → Prop} {rt ct : Nat → Int} {dp : Nat → Nat} {kd : Int → Nat} {m : Nat} {h g : cx_Q} (F_ : TX c x nt n T Lf dom sd rt ct dp kd m h g) : ∀ u v i, 0 ≤ u → u < n → 0 ≤ v → v < n → 0 ≤ i → i < cq_I g (x + 30) (6 * u + v) → zR x nt dom sd rt ct h g (T (cq_I g (x + 29) (4 * (6 * u + v) + i))) (cq_I g (x + 29) (4 * (6 * u + v) + i)) := F_.2.2.2.2.2.2.1
theorem TX.l1 {c x nt : Nat} {n : Int} {T Lf : Int → Nat} {dom sd : Nat → Prop} {rt ct : Nat → Int} {dp : Nat → Nat} {kd : Int → Nat} {m : Nat} {h g : cx_Q} (F_ : TX c x nt n T Lf dom sd rt ct dp kd m h g) : ∀ l, 0 ≤ l → l < cq_I g x 72 → zL x sd ct h g (Lf l) l := F_.2.2.2.2.2.2.2
section
variable {c x nt : Nat} {n : Int} {T Lf T' Lf' : Int → Nat} {dom sd dom' sd' : Nat → Prop} {rt ct rt' ct' : Nat → Int} {dp dp' : Nat → Nat} {kd kd' : Int → Nat} {m m' : Nat} {h g h' g' : cx_Q} {E E0 : Nat → Option Int} {pe : Int → Nat} {ro : Int → Int → Nat} {pa lb tp rd en op ob : Nat}
/-- a SESSION of which nothing is other -/
theorem zR.fr {a : Nat} {s : Int} (B : TB c x nt dom sd rt ct dp kd m h g) (C0 : CT c E0 h [] h) (C : CT c E h [] h') (Z : zE dom sd rt ct dom' sd' rt' ct') (N : zN x h h' g g') (eA : cq_A h' a = cq_A h a) (e1 : cq_A h' (a + 1) 3 = cq_A h (a + 1) 3) (e5 : cq_A h' (a + 5) = cq_A h (a + 5)) (eI : ∀ o, o = 40 ∨ o = 41 ∨ o = 48 ∨ o = 50 ∨ o = 51 ∨ o = 52 ∨ o = 53 → cq_I g' (x + o) s = cq_I g (x + o) s) (eK : ∀ o r, o = 55 ∨ o = 57 → 0 ≤ r → r < cq_I g (x + 53) s → cq_I g' (x + o) (20 * s + r) = cq_I g (x + o) (20 * s + r)) (l72 : cq_I g x 72 ≤ cq_I g' x 72) (Q : zR x nt dom sd rt ct h g a s) : zR x nt dom' sd' rt' ct' h' g' a s := by
  obtain ⟨⟨S, r, w, p1, p2, p3, p4, p5, p6, p7, p8, p9, p10⟩, q, ⟨k1, k2, k3, k4⟩, m1, m2, m3⟩ := Q
  have c1 := C.1
  have c3 := C.2.2.1
  have c4 := C.2.2.2.1
  have f14 := C0.2.2.2.2.2.2.2.2.2.2.2.2.2.1
  have s_ : ∀ {d k : Nat}, cq_s h d = k → k ≠ 99 → cq_s h' d = k := fun {d k} y z => (c1 d (by rw [y]; exact z)).1.trans y
  have e := N.1
  have dS := (B.t3 S p3).1
  have s8 := (B.t1 S dS).1
  have sr := f14 S r s8 List.not_mem_nil p7
  have R_ : ∀ {R : Nat}, dom R → dom' R ∧ ct' R = ct R ∧ (cq_A h R 0 ≠ some nt → cq_A h' R 0 ≠ some nt) := fun {R} dR => ⟨(Z.1 R dR).1, (Z.1 R dR).2.2, fun z => by rw [(c3 R 0 (B.t1 R dR).1).1 (by decide)]; exact z⟩
  refine ⟨⟨S, r, w, by rw [eA]; exact p1, by rw [eA]; exact p2, Z.2 S p3, ?_, ?_, by rw [eA]; exact p6, by rw [(c3 S 1 s8).1 (by decide)]; exact p7, by rw [c4 r 0 sr]; exact p8, s_ p9 (by decide), ?_⟩, fun R z => ?_, ⟨by rw [e1]; exact k1, s_ k2 (by decide), s_ k3 (by decide), fun i i0 i1 => ?_⟩, s_ m1 (by decide), ?_, ?_⟩
  · rw [eI 48 (by omega), (Z.1 S dS).2.1]
    exact p4
  · rw [eI 40 (by omega), eI 50 (by omega), (Z.1 S dS).2.2]
    exact nx_ex e p5
  · rw [eI 52 (by omega)]
    exact N.s p9 p10
  · rw [eA] at z
    obtain ⟨z1, z2, z3⟩ := q R z
    refine ⟨(R_ z1).1, (R_ z1).2.2 z2, ?_⟩
    rw [eI 41 (by omega), eI 51 (by omega), (R_ z1).2.1]
    exact nx_ex e z3
  · rw [eI 53 (by omega)] at i1
    obtain ⟨R, z1, z2, z3, z4, z5⟩ := k4 i i0 i1
    rw [eK 55 i (Or.inl rfl) i0 i1, eK 57 i (Or.inr rfl) i0 i1]
    exact ⟨R, by rw [e5]; exact z1, (R_ z2).1, (R_ z2).2.2 z3, z4, by rw [(R_ z2).2.1]; exact kx_ex e z5⟩
  · rw [eI 40 (by omega)]
    exact m2
  · rw [eI 40 (by omega)]
    omega
theorem zL.fr {a : Nat} {l : Int} (B : TB c x nt dom sd rt ct dp kd m h g) (C : CT c E h [] h') (Z : zE dom sd rt ct dom' sd' rt' ct') (e : exT x g g') (sa : cq_s h a = 2) (e64 : cq_I g' (x + 64) l = cq_I g (x + 64) l) (Q : zL x sd ct h g a l) : zL x sd' ct' h' g' a l := by
  obtain ⟨S, p1, p2, p3, p4, p5⟩ := Q
  have c19 := C.2.2.2.2.2.2.2.2.2.2.2.2.2.2.2.2.2.2 a sa
  refine ⟨S, by rw [c19.1]; exact p1, Z.2 S p2, by rw [c19.2]; exact p3, by rw [c19.2]; exact p4, ?_⟩
  rw [c19.2, e64, (Z.1 S (B.t3 S p2).1).2.2]
  exact kx_ex e p5
/-- a number that stands at a SECRET -/
theorem zN.w (N : zN x h h' g g') {v : Int64} {t : Int} (q : ∃ w, cq_s h w = 6 ∧ cq_J h w 1 = v) (p : zS x g v t) : zS x g' v t := by
  obtain ⟨w, w1, w2⟩ := q
  rw [← w2] at p ⊢
  exact zS_ext N.1 (N.n w1) p
/-- a draw's term -/
theorem dr_zS {T k : Int} {v : Int64} (k0 : 0 ≤ k) (p : drT x g T k v) : zS x g v T := Or.inl ⟨k, k0, p.2.1, p.2.2.1, p.2.2.2⟩
end
