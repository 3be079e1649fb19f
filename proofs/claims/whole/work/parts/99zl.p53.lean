/-! a scheme that is kept -/
theorem X0_XI {h h' : Hp} (e : Eqv fX0 h h') : Eqv fXI h h' := Eqv.sub (P := fXI) (Q := fX0) ⟨fun _ z => z, fun _ z => z, fun _ z => ((Bool.and_eq_true _ _).mp z).1, fun _ z => absurd z Bool.false_ne_true, fun p i f z => by simp only [fXI, Bool.or_eq_true, Bool.and_eq_true, beq_iff_eq] at z; rcases z with (((rfl | ⟨rfl, rfl⟩) | ⟨rfl, rfl⟩) | ⟨rfl, rfl⟩) | ⟨rfl, rfl⟩ <;> rfl⟩ e
theorem X0_LD {h h' : Hp} (e : Eqv fX0 h h') : Eqv fLD h h' := Eqv.sub (P := fLD) (Q := fX0) ⟨fun p z => by simp only [fLD, beq_iff_eq] at z; subst z; rfl, fun _ z => absurd z Bool.false_ne_true, fun p z => by simp only [fLD, beq_iff_eq] at z; subst z; rfl, fun _ z => absurd z Bool.false_ne_true, fun _ _ _ z => absurd z Bool.false_ne_true⟩ e
theorem O6_kp {h h' : Hp} (e : Eqv fKp h h') : Eqv fO6 h h' := e.of_kp ⟨Bool.false_ne_true, Bool.false_ne_true, Bool.false_ne_true⟩ ⟨Bool.false_ne_true, Bool.false_ne_true, Bool.false_ne_true⟩ ⟨Bool.false_ne_true, Bool.false_ne_true, Bool.false_ne_true, Bool.false_ne_true⟩ ⟨Bool.false_ne_true, Bool.false_ne_true, Bool.false_ne_true⟩ (fun _ _ => Bool.false_ne_true) (fun _ _ => Bool.false_ne_true) (fun _ _ => Bool.false_ne_true) (fun _ _ => Bool.false_ne_true)
theorem off_le {h : Hp} : ∀ (n : Nat), (∀ k, k < n → chN h k ≤ 12) → offN h n ≤ 12 * n
  | 0, _ => Nat.le_refl _
  | n + 1, c => by
    have i := off_le n (fun k hk => c k (by omega))
    have := c n (by omega)
    show offN h n + chN h n ≤ _
    omega
/-- what is known when a scheme has been read by both -/
def Kn (h Z h' : Hp) (n c : Nat) (T : Nat → Nat) : Prop := ∃ (rl : List mOp) (N : Nat → Int32) (cd : List Int32), SM h' ∧ SK h' n ∧ RLs h' n rl ∧ 3 * rl.length ≤ 300 ∧ vi h' (33, n) 2 = nI c ∧ c ≤ 12 ∧ Pl Z 1 cd ∧ cd.length ≤ 300 ∧ DL h' n (vi Z (13, 3)) (vi Z (13, 4)) N c cd rl ∧ ∀ i, i < c → N i = nI (T i) ∧ fromT T i ≤ T i ∧ T i ≤ 299
theorem Kn_of {h Z hB h' : Hp} {b : Nat → Int32} {e n c : Nat} {T : Nat → Nat} (he : e ≤ 300) (hc : c ≤ 12) (h5 : vi Z (2, 0) 5 = nI c) (hT : ∀ i, i < c → vi Z (13, 5) i = nI (T i) ∧ fromT T i ≤ T i ∧ T i ≤ 299) (pq : PQR b e Z n hB none h') : Kn h Z h' n c T := by
  obtain ⟨-, E, n5, cp, q, rl, te, nm, sg, nu, W, M, N, cd, r, n1, n12, hrl, e2, cs, dl⟩ := pq
  obtain ⟨c0, c1, c2, ⟨c5, _⟩, ⟨cW, cM, cN⟩, ⟨w1, w2, w3, w4, w5, w6⟩, c6⟩ := cs
  obtain rfl : c = n5 := (nI_eq (by omega) (by omega)).mp (h5.symm.trans c5)
  subst cW; subst cM; subst cN
  exact ⟨rl, _, cd, r.1, r.2.1, r.2.2.2.2.2.2.2.2, by omega, e2, n12, w5, w2, dl, hT⟩
/-- the lists of change i, with the class's ends -/
theorem Kn.at {h Z h' : Hp} {n c : Nat} {T : Nat → Nat} (k : Kn h Z h' n c T) : ∀ i, i < c → ∃ (N : Nat → Int32) (C : List Int32) (R : List mOp) (cd' : List Int32) (rl' : List mOp), D1 h' n (vi Z (13, 3)) (vi Z (13, 4)) N i C R (C ++ cd').length (R ++ rl').length rl'.length ∧ Pl Z 1 (C ++ cd') ∧ RLs h' n (R ++ rl') ∧ (R ++ rl').length ≤ 130 ∧ fromT T i = cd'.length ∧ T i - fromT T i = C.length := by
  obtain ⟨rl, N, cd, k1, k2, k3, k4, k5, k6, k7, k8, k9, k10⟩ := k
  intro i hi
  obtain ⟨C, R, cd', rl', d1, d2, d3, d4, d5, d6, d7⟩ := DL_at c cd rl k9 k7 k3 i hi
  have lC : (C ++ cd').length = C.length + cd'.length := List.length_append
  have eT : T i = (C ++ cd').length := (nI_eq (by have := (k10 i hi).2.2; omega) (by omega)).mp ((k10 i hi).1.symm.trans d1.1)
  have eF : fromT T i = cd'.length := by
    cases i with
    | zero => rw [d6 rfl]; rfl
    | succ j =>
      show T j = _
      exact (nI_eq (by have := (k10 j (by omega)).2.2; omega) (by omega)).mp ((k10 j (by omega)).1.symm.trans (d7 j rfl))
  exact ⟨N, C, R, cd', rl', d1, d2, d3, by omega, eF, by omega⟩
theorem D1.num {h : Hp} {k : Nat} {W M N : Nat → Int32} {n : Nat} {C : List Int32} {R : List mOp} {lc lr lr' : Nat} (d : D1 h k W M N n C R lc lr lr') : ∃ m, m ≤ 12 ∧ M n = nI m := by
  rcases d.2.2.2.2 with ⟨m, m1, m2, m3, _⟩ | ⟨w, a0, m0, _⟩
  · exact ⟨m, m2, m3⟩
  · exact ⟨0, by decide, m0⟩
/-- the class's shape, when the changes are kept -/
theorem XI_keep {h Z h2 h' : Hp} {n c : Nat} {T : Nat → Nat} {w d : Int32} (r : RR h) (ez : Eqv fRz h Z) (kp : KP (hSc Z) (cn (hSc Z) 8) T (nI n) w d (vi (hSc Z) (13, 3)) (vi (hSc Z) (13, 4)) c h2) (kn : Kn h Z h' n c T) (h480 : cn h 8 + c ≤ 480) : XI h2 := by
  obtain ⟨k1, k2, ⟨l0, l1, l2, l3, l4⟩, k4, k5, k6, k7, k8⟩ := kp
  have x := r.1
  have le := x.le
  have ea := O8_Sc ez
  have e6 : Eqv fO6 h h2 := (O8_6 ea).tr (O6_kp k4)
  have c0 : ∀ p, p < 32 → cn (hSc Z) p = cn h p := fun p hp => ea.1 p (Nat.ble_eq.mpr hp)
  have c8 : cn h2 8 = cn h 8 + c := by rw [k5, c0 8 (by decide)]
  have c17 : cn h2 17 = cn h 8 + c := by rw [k6, c0 8 (by decide)]
  have c9 : cn h2 9 = cn h 9 := e6.1 9 rfl
  have c10 : cn h2 10 = cn h 10 := e6.1 10 rfl
  have c11 : cn h2 11 = cn h 11 := e6.1 11 rfl
  have c12 : cn h2 12 = cn h 12 := e6.1 12 rfl
  have c18 : cn h2 18 = cn h 18 := e6.1 18 rfl
  have c19 : cn h2 19 = cn h 19 := e6.1 19 rfl
  rw [c0 9 (by decide)] at l1; rw [c0 10 (by decide)] at l2; rw [c0 11 (by decide)] at l3; rw [c0 12 (by decide)] at l4
  refine ⟨k1, ⟨by rw [k5]; exact l0, by rw [c9]; exact l1, by rw [c10]; exact l2, by rw [c11]; exact l3, by rw [c12]; exact l4⟩, ?_, ?_, ⟨by rw [c17, c8], by rw [c18, c9]; exact x.2.2.2.2.1.2.1, by rw [c19, c9]; exact x.2.2.2.2.1.2.2⟩, by rw [c8, c9, c10, c11, c12]; omega, ?_, ?_, by rw [e6.2.2.2.2 5 0 1 rfl]; exact x.tr⟩
  · intro p hp; rw [c9] at hp; rw [c18, c19, e6.2.1 18 p rfl, e6.2.1 19 p rfl, e6.2.2.1 9 p 4 rfl, e6.2.2.1 9 p 5 rfl, e6.2.2.2.2 9 p 6 rfl]; exact x.ps p hp
  · intro y hy
    rw [c8] at hy; rw [c17]
    by_cases z : y < cn h 8
    · obtain ⟨o1, o2, o3, o4⟩ := k7 y (by rw [c0 8 (by decide)]; exact z)
      obtain ⟨b1, b2, b3, b4⟩ := x.cs y z
      refine ⟨by omega, (o2.trans (ea.2.2.1 8 y 5 rfl)).trans b2, by rw [o4, ea.2.1 17 y rfl]; exact b3, ?_⟩
      rw [o1, ea.2.2.2.2 8 y 4 rfl]; exact b4
    · obtain ⟨i, rfl⟩ : ∃ i, y = cn (hSc Z) 8 + i := ⟨y - cn h 8, by rw [c0 8 (by decide)]; omega⟩
      have e8 := c0 8 (by decide)
      have hi : i < c := by omega
      obtain ⟨a0, a1, a2, a3, a4, a5, a6, a7⟩ := k8 i hi
      obtain ⟨N, C, R, cd', rl', d1, _⟩ := kn.at i hi
      obtain ⟨rl, N2, cd, z1, z2, z3, z4, z5, z6, z7, z8, z9, z10⟩ := kn
      refine ⟨by omega, a5, by rw [a6]; have := (z10 i hi).2.2; omega, ?_⟩
      rw [a4, hSc_n Z (by decide) (by decide)]
      exact d1.num
  · intro q hq a ha
    rw [c10] at hq; rw [e6.2.2.1 10 q 1 rfl] at ha; rw [c11]
    exact x.rs q hq a ha
  · intro s hs; rw [c11] at hs; rw [c9, e6.2.2.2.2 11 s 1 rfl]; exact x.ss s hs
