/-! the start -/
theorem i8 : cn hI 8 = 0 := by decide +kernel
theorem i9 : cn hI 9 = 0 := by decide +kernel
theorem i10 : cn hI 10 = 0 := by decide +kernel
theorem i11 : cn hI 11 = 0 := by decide +kernel
theorem i12 : cn hI 12 = 0 := by decide +kernel
theorem i33 : cn hI 33 = 0 := by decide +kernel
theorem i7r : ∀ j, j < 5 → vr hI (7, j) 1 = some (66, 0) := by decide +kernel
theorem i7v : ∀ j, j < 5 → vi hI (7, j) 2 = nI 0 := by decide +kernel
theorem iAL {j q : Nat} (hj : j < 5) : AL hI j q 0 := ⟨i7v j hj, by decide, Or.inl ⟨rfl, i7r j hj⟩⟩
theorem XI_I : XI hI := by
  refine ⟨hI_SX, ⟨by rw [i8]; exact iAL (by decide), by rw [i9]; exact iAL (by decide), by rw [i10]; exact iAL (by decide), by rw [i11]; exact iAL (by decide), by rw [i12]; exact iAL (by decide)⟩, fun p hp => absurd hp (by rw [i9]; omega), fun p hp => absurd hp (by rw [i8]; omega), ⟨by decide +kernel, by decide +kernel, by decide +kernel⟩, ⟨by decide +kernel, by decide +kernel, by decide +kernel, by decide +kernel, by decide +kernel⟩, fun p hp => absurd hp (by rw [i10]; omega), fun p hp => absurd hp (by rw [i11]; omega), ⟨0, by decide, by decide +kernel⟩⟩
theorem LD_I : LD hI := ⟨fun j e hj z => absurd ((i7r j hj).symm.trans z) (fun y => by cases y), fun j j' e hj hj' z => absurd ((i7r j hj).symm.trans z) (fun y => by cases y)⟩
theorem MJ_I : MJ hI := by
  have a7 : ∀ p, p < 40 → vi hI (38, 7) p = nI 0 := by decide +kernel
  have a11 : ∀ p, p < 20 → vi hI (38, 11) p = nI 0 := by decide +kernel
  have a14 : ∀ p, p < 100 → vi hI (38, 14) p = nI 0 := by decide +kernel
  have a6 : ∀ p, p < 40 → vi hI (38, 6) p = nI 0 := by decide +kernel
  exact ⟨⟨hI_SM, ⟨0, by decide, by decide +kernel⟩, ⟨0, by decide, by decide +kernel⟩, ⟨0, by decide, by decide +kernel⟩, ⟨0, by decide, by decide +kernel⟩, ⟨0, by decide, by decide +kernel⟩⟩, fun p hp => ⟨0, by decide, a7 p hp⟩, fun p hp => Or.inr ⟨0, by decide, a11 p hp⟩, fun p hp => ⟨0, by decide, a14 p hp⟩, fun p hp => Or.inr ⟨0, by decide, a6 p hp⟩⟩
theorem ScA_I : ScA hI := ⟨⟨0, by decide, by decide +kernel, by decide +kernel⟩, ⟨10, by decide, by decide +kernel, by decide +kernel⟩, ⟨0, by decide, by decide +kernel, by decide +kernel⟩, by decide +kernel, by decide +kernel, by decide +kernel⟩
theorem SR_I : SR hI := by
  have n0 : ∀ k, k < 40 → vr hI (36, 0) k = none := by decide +kernel
  have c4 : ∀ i, i < 50 → 40 ≤ i → cn hI i = 0 := by decide +kernel
  refine ⟨0, by decide, by decide +kernel, by decide +kernel, Or.inl i33.symm, by rw [i33]; decide, fun k hk => absurd hk (by rw [i33]; omega), fun k _ hk => n0 k hk, fun i h1 h2 => by rw [i33]; exact c4 i h2 h1, i8, fun k hk => absurd hk (by omega)⟩
