/-! scheme, of both -/
theorem rngL {x : Int32} {L : Nat} (hL : L < 2 ^ 31) (h1 : ¬ x < 0) (h2 : x ≤ nI L) : ∃ e, e ≤ L ∧ x = nI e := by
  have a : 0 ≤ x.toInt := by rw [Int32.lt_iff_toInt_lt, Int32.toInt_zero] at h1; omega
  have b : x.toInt ≤ (L : Int) := by
    rw [Int32.le_iff_toInt_le] at h2
    have : (nI L).toInt = (L : Int) := Int32.toInt_ofNat_of_lt hL
    omega
  refine ⟨x.toInt.toNat, by omega, ?_⟩
  apply Int32.toInt_inj.mp
  have : (nI x.toInt.toNat).toInt = ((x.toInt.toNat : Nat) : Int) := Int32.toInt_ofNat_of_lt (by omega)
  rw [this]; omega
theorem pot_le {h hf : Hp} (c9 : cn hf 9 = cn h 9) (c10 : cn hf 10 = cn h 10) (c11 : cn hf 11 = cn h 11) (c12 : cn hf 12 = cn h 12) {a b : Nat} (c8 : cn hf 8 = cn h 8 + a) (h8 : cn h 8 + a ≤ 480) (c33 : cn hf 33 = cn h 33 + b) (h33 : cn h 33 + b ≤ 40) : potC hf + 3 * a + 11 * b ≤ potC h ∧ potS hf + 1806 * a + 560 * b ≤ potS h := by
  unfold potC potS
  rw [c9, c10, c11, c12, c8, c33]
  omega
/-- the reference reads scheme n -/
theorem ref_any (g : G0) {h h1 Z c0 : Hp} {e n te : Nat} {nm sg nu : Int32} {W M N : Nat → Int32} {w d : Int32} (r : RR h) (m3 : Eqv fM3 h h1) (ok : ¬ xWb h w = 0 ∧ ¬ xDy d = 0) (he : e ≤ 300) (hL : nI e ≤ vi h (32, 0) 10) (r4 : ∀ i, i < e → mb h i = vi h (13, 0) i) (cs : CS c0 (vi h (13, 0)) 0 0 0 te 0 0 nm sg nu W M N [] []) (hZ : Z = rLp e 301 0 c0) (h5n : vi h (32, 0) 5 = nI n) (hn : n < 40) : ∃ (hB : Hp) (b : Nat), b ≤ 1 ∧ Mx g yX14_scheme wX14_scheme 54 [pR (32, 0), pI w, pI d, pI (nI e)] h1 (11 * b) (560 * b) (QS (vi h (13, 0)) e Z n hB w d n) noX ∧ WB h1 n hB ∧ vi hB (32, 0) 3 = 0 ∧ cn hB 33 = cn h 33 + b ∧ cn h 33 + b ≤ 40 := by
  have hM : SM h1 := SM_M3 m3 r.2.2.1.1.1
  have v32 : ∀ f, vi h1 (32, 0) f = vi h (32, 0) f := fun f => m3.2.2.2.2 32 0 f rfl
  have ok1 : ¬ mWb (mZ h1) w = 0 ∧ ¬ mDy d = 0 := ⟨by rw [wb_eq r.2.2.2.1 ((mZ_v _ _ (by decide)).trans (v32 4))]; exact ok.1, ok.2⟩
  have hL1 : nI e ≤ vi h1 (32, 0) 10 := by rw [v32]; exact hL
  have r41 : ∀ i, i < e → mb h1 i = vi h (13, 0) i := fun i hi => by rw [← r4 i hi]; unfold mb; rw [m3.2.2.2.2 37 0 i rfl]
  have e5 : vi h1 (32, 0) 5 = nI n := (v32 5).trans h5n
  obtain ⟨n', s1, s2, s3, s4, s5, s6, s7, s8, s9⟩ := r.2.2.2.2.2.2.2.2.2.2.2
  have nn : n' = n := (nI_eq (by omega) (by omega)).mp (s3.symm.trans h5n)
  subst nn
  have cc : ∀ p, 32 ≤ p → cn h1 p = cn h p := fun p hp => m3.1 p (Nat.ble_eq.mpr hp)
  have c33 := cc 33 (by decide)
  rcases s4 with s4 | s4
  · have k33 : cn h1 33 = n' := by rw [c33]; exact s4.symm
    have k40 : ∀ i, 40 ≤ i → i < 50 → cn h1 i = n' := fun i h1 h2 => by rw [cc i (by omega), s8 i h1 h2]; exact s4.symm
    have none : vr h1 (36, 0) n' = none := (m3.2.2.1 36 0 n' rfl).trans (s7 n' (by omega) hn)
    refine ⟨scN h1 e n', 1, Nat.le_refl _, sch_0 g (sch_0V g he hM ok1 hL1 (sch_64N g he hM r41 cs hZ e5 hn k33 k40 none)), WB_N hM k33 k40, (scN_v h1 e n' (by decide) 0 3).trans (vi_sI_eq _ _ _ _), by rw [scN_33, c33], by omega⟩
  · have k33 : n' + 1 = cn h1 33 := by rw [c33]; exact s4
    have k40 : ∀ i, 40 ≤ i → i < 50 → cn h1 i = cn h1 33 := fun i h1 h2 => by rw [cc i (by omega), c33]; exact s8 i h1 h2
    have sk : SK h1 n' := (Old_M3 m3 (n' + 1)).sk (fun p hp => by rw [cc p (by omega)]; exact Nat.le_refl _) (fun k hk => s6 k (by omega)) n' (by omega)
    refine ⟨scB h1 e n', 0, Nat.zero_le _, sch_0 g (sch_0V g he hM ok1 hL1 (sch_64 g he hM r41 cs hZ e5 hn sk)), WB_E hM sk k33 k40, ?_, ?_, by omega⟩
    · unfold scB; rw [vi_sR]; exact vi_sI_eq _ _ _ _
    · exact c33
theorem ref_40 (g : G0) {h h1 Z c0 : Hp} {e n te : Nat} {nm sg nu : Int32} {W M N : Nat → Int32} {w d : Int32} (r : RR h) (m3 : Eqv fM3 h h1) (ok : ¬ xWb h w = 0 ∧ ¬ xDy d = 0) (he : e ≤ 300) (hL : nI e ≤ vi h (32, 0) 10) (r4 : ∀ i, i < e → mb h i = vi h (13, 0) i) (cs : CS c0 (vi h (13, 0)) 0 0 0 te 0 0 nm sg nu W M N [] []) (hZ : Z = rLp e 301 0 c0) (hn : n = 40) (h5n : vi h (32, 0) 5 = nI n) : Mx g yX14_scheme wX14_scheme 54 [pR (32, 0), pI w, pI d, pI (nI e)] h1 0 0 (QSs (vi h (13, 0)) e Z (scA h1 e)) noX := by
  have hM : SM h1 := SM_M3 m3 r.2.2.1.1.1
  have v32 : ∀ f, vi h1 (32, 0) f = vi h (32, 0) f := fun f => m3.2.2.2.2 32 0 f rfl
  have ok1 : ¬ mWb (mZ h1) w = 0 ∧ ¬ mDy d = 0 := ⟨by rw [wb_eq r.2.2.2.1 ((mZ_v _ _ (by decide)).trans (v32 4))]; exact ok.1, ok.2⟩
  have hL1 : nI e ≤ vi h1 (32, 0) 10 := by rw [v32]; exact hL
  have r41 : ∀ i, i < e → mb h1 i = vi h (13, 0) i := fun i hi => by rw [← r4 i hi]; unfold mb; rw [m3.2.2.2.2 37 0 i rfl]
  have e5 : vi h1 (32, 0) 5 = nI 40 := by rw [v32, h5n, hn]
  exact sch_0 g (sch_0V g he hM ok1 hL1 (sch_64S g he hM r41 cs hZ e5))
