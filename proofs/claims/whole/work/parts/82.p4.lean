theorem words_apart : ∀ j, j < 11 → ∀ k, k < 11 → j ≠ k → lenS.getD j 0 = lenS.getD k 0 → ¬ ∀ i, i < lenS.getD j 0 → wB j i = wB k i := by
  have key : ∀ j k : Fin 11, j ≠ k → lenS.getD j.val 0 = lenS.getD k.val 0 → ¬ ∀ i : Fin 6, i.val < lenS.getD j.val 0 → wB j.val i.val = wB k.val i.val := by decide
  intro j hj k hk ne e all
  exact key ⟨j, hj⟩ ⟨k, hk⟩ (fun z => ne (congrArg Fin.val z)) e (fun i hi => all i.val hi)
theorem spl_one {b : Nat → Int32} {s n j : Nat} (hn : n ≤ 8) (hj : j < 11) (h : ¬ spl b s n j = 0) : ∀ i, i < 11 → i ≠ j → spl b s n i = 0 := by
  intro i hi ne
  refine Decidable.byContradiction fun z => ?_
  obtain ⟨a1, a2⟩ := (spl_iff hn).mp h
  obtain ⟨b1, b2⟩ := (spl_iff hn).mp z
  refine words_apart i hi j hj ne (b1.symm.trans a1) (fun k hk => ?_)
  rw [← b2 k (by omega), ← a2 k (by omega)]
theorem kw_none {b : Nat → Int32} {s n : Nat} (h : ∀ i, i < 11 → spl b s n i = 0) : kwK b s n = 3 ∧ kwN b s n = -1 := by
  unfold kwK kwN
  rw [if_pos (h 0 (by decide)), if_pos (h 1 (by decide)), if_pos (h 2 (by decide)), if_pos (h 3 (by decide)), if_pos (h 4 (by decide)), if_pos (h 5 (by decide)), if_pos (h 6 (by decide)), if_pos (h 7 (by decide)), if_pos (h 8 (by decide)), if_pos (h 9 (by decide)), if_pos (h 10 (by decide))]
  exact ⟨rfl, rfl⟩
theorem kw_0 {b : Nat → Int32} {s n : Nat} (h1 : ¬ spl b s n 0 = 0) (h0 : ∀ i, i < 11 → i ≠ 0 → spl b s n i = 0) : kwK b s n = 5 := by
  unfold kwK
  rw [if_neg h1]
theorem kw_1 {b : Nat → Int32} {s n : Nat} (h1 : ¬ spl b s n 1 = 0) (h0 : ∀ i, i < 11 → i ≠ 1 → spl b s n i = 0) : kwK b s n = 6 := by
  unfold kwK
  rw [if_pos (h0 0 (by decide) (by decide)), if_neg h1]
theorem kw_2 {b : Nat → Int32} {s n : Nat} (h1 : ¬ spl b s n 2 = 0) (h0 : ∀ i, i < 11 → i ≠ 2 → spl b s n i = 0) : kwK b s n = 7 := by
  unfold kwK
  rw [if_pos (h0 0 (by decide) (by decide)), if_pos (h0 1 (by decide) (by decide)), if_neg h1]
theorem kw_3 {b : Nat → Int32} {s n : Nat} (h1 : ¬ spl b s n 3 = 0) (h0 : ∀ i, i < 11 → i ≠ 3 → spl b s n i = 0) : kwK b s n = 8 := by
  unfold kwK
  rw [if_pos (h0 0 (by decide) (by decide)), if_pos (h0 1 (by decide) (by decide)), if_pos (h0 2 (by decide) (by decide)), if_neg h1]
theorem kw_4 {b : Nat → Int32} {s n : Nat} (h1 : ¬ spl b s n 4 = 0) (h0 : ∀ i, i < 11 → i ≠ 4 → spl b s n i = 0) : kwK b s n = 9 := by
  unfold kwK
  rw [if_pos (h0 0 (by decide) (by decide)), if_pos (h0 1 (by decide) (by decide)), if_pos (h0 2 (by decide) (by decide)), if_pos (h0 3 (by decide) (by decide)), if_neg h1]
theorem kw_5 {b : Nat → Int32} {s n : Nat} (h1 : ¬ spl b s n 5 = 0) (h0 : ∀ i, i < 11 → i ≠ 5 → spl b s n i = 0) : kwK b s n = 10 := by
  unfold kwK
  rw [if_pos (h0 0 (by decide) (by decide)), if_pos (h0 1 (by decide) (by decide)), if_pos (h0 2 (by decide) (by decide)), if_pos (h0 3 (by decide) (by decide)), if_pos (h0 4 (by decide) (by decide)), if_neg h1]
theorem kw_6 {b : Nat → Int32} {s n : Nat} (h1 : ¬ spl b s n 6 = 0) (h0 : ∀ i, i < 11 → i ≠ 6 → spl b s n i = 0) : kwK b s n = 3 ∧ kwN b s n = 0 := by
  unfold kwK kwN
  rw [if_pos (h0 0 (by decide) (by decide)), if_pos (h0 1 (by decide) (by decide)), if_pos (h0 2 (by decide) (by decide)), if_pos (h0 3 (by decide) (by decide)), if_pos (h0 4 (by decide) (by decide)), if_pos (h0 5 (by decide) (by decide)), if_neg h1]
  exact ⟨rfl, rfl⟩
theorem kw_7 {b : Nat → Int32} {s n : Nat} (h1 : ¬ spl b s n 7 = 0) (h0 : ∀ i, i < 11 → i ≠ 7 → spl b s n i = 0) : kwK b s n = 3 ∧ kwN b s n = 1 := by
  unfold kwK kwN
  rw [if_pos (h0 0 (by decide) (by decide)), if_pos (h0 1 (by decide) (by decide)), if_pos (h0 2 (by decide) (by decide)), if_pos (h0 3 (by decide) (by decide)), if_pos (h0 4 (by decide) (by decide)), if_pos (h0 5 (by decide) (by decide)), if_pos (h0 6 (by decide) (by decide)), if_neg h1]
  exact ⟨rfl, rfl⟩
theorem kw_8 {b : Nat → Int32} {s n : Nat} (h1 : ¬ spl b s n 8 = 0) (h0 : ∀ i, i < 11 → i ≠ 8 → spl b s n i = 0) : kwK b s n = 3 ∧ kwN b s n = 2 := by
  unfold kwK kwN
  rw [if_pos (h0 0 (by decide) (by decide)), if_pos (h0 1 (by decide) (by decide)), if_pos (h0 2 (by decide) (by decide)), if_pos (h0 3 (by decide) (by decide)), if_pos (h0 4 (by decide) (by decide)), if_pos (h0 5 (by decide) (by decide)), if_pos (h0 6 (by decide) (by decide)), if_pos (h0 7 (by decide) (by decide)), if_neg h1]
  exact ⟨rfl, rfl⟩
theorem kw_9 {b : Nat → Int32} {s n : Nat} (h1 : ¬ spl b s n 9 = 0) (h0 : ∀ i, i < 11 → i ≠ 9 → spl b s n i = 0) : kwK b s n = 3 ∧ kwN b s n = 3 := by
  unfold kwK kwN
  rw [if_pos (h0 0 (by decide) (by decide)), if_pos (h0 1 (by decide) (by decide)), if_pos (h0 2 (by decide) (by decide)), if_pos (h0 3 (by decide) (by decide)), if_pos (h0 4 (by decide) (by decide)), if_pos (h0 5 (by decide) (by decide)), if_pos (h0 6 (by decide) (by decide)), if_pos (h0 7 (by decide) (by decide)), if_pos (h0 8 (by decide) (by decide)), if_neg h1]
  exact ⟨rfl, rfl⟩
theorem kw_10 {b : Nat → Int32} {s n : Nat} (h1 : ¬ spl b s n 10 = 0) (h0 : ∀ i, i < 11 → i ≠ 10 → spl b s n i = 0) : kwK b s n = 3 ∧ kwN b s n = 4 := by
  unfold kwK kwN
  rw [if_pos (h0 0 (by decide) (by decide)), if_pos (h0 1 (by decide) (by decide)), if_pos (h0 2 (by decide) (by decide)), if_pos (h0 3 (by decide) (by decide)), if_pos (h0 4 (by decide) (by decide)), if_pos (h0 5 (by decide) (by decide)), if_pos (h0 6 (by decide) (by decide)), if_pos (h0 7 (by decide) (by decide)), if_pos (h0 8 (by decide) (by decide)), if_pos (h0 9 (by decide) (by decide)), if_neg h1]
  exact ⟨rfl, rfl⟩
/-- which kind and value word j is -/
def isK (j : Nat) (k v : Int32) : Prop := match j with
  | 0 => k = 5
  | 1 => k = 6
  | 2 => k = 7
  | 3 => k = 8
  | 4 => k = 9
  | 5 => k = 10
  | 6 => k = 4 ∧ v = 0
  | 7 => k = 4 ∧ v = 1
  | 8 => k = 4 ∧ v = 2
  | 9 => k = 4 ∧ v = 3
  | 10 => k = 4 ∧ v = 4
  | _ => False

theorem tokW_of {b : Nat → Int32} {s t : Nat} (hs : s ≤ t) (ht : t - s ≤ 8) (v : Int32) : (∃ j, j < 11 ∧ ¬ spl b s (t - s) j = 0 ∧ isK j (tokW b s t v).1 (tokW b s t v).2) ∨ ((∀ i, i < 11 → spl b s (t - s) i = 0) ∧ (tokW b s t v).1 = 3) := by
  have n8 : ¬ 8 < nI (t - s) := nI_nlt (a := 8) (b := t - s) ht (by decide)
  by_cases c : ∃ j, j < 11 ∧ ¬ spl b s (t - s) j = 0
  · obtain ⟨j, hj, h1⟩ := c
    have h0 := spl_one ht hj h1
    refine Or.inl ⟨j, hj, h1, ?_⟩
    unfold tokW
    rw [if_neg n8]
    match j, hj, h1, h0 with
    | 0, _, h1, h0 => rw [kw_0 h1 h0, if_neg (by decide)]; exact rfl
    | 1, _, h1, h0 => rw [kw_1 h1 h0, if_neg (by decide)]; exact rfl
    | 2, _, h1, h0 => rw [kw_2 h1 h0, if_neg (by decide)]; exact rfl
    | 3, _, h1, h0 => rw [kw_3 h1 h0, if_neg (by decide)]; exact rfl
    | 4, _, h1, h0 => rw [kw_4 h1 h0, if_neg (by decide)]; exact rfl
    | 5, _, h1, h0 => rw [kw_5 h1 h0, if_neg (by decide)]; exact rfl
    | 6, _, h1, h0 => rw [(kw_6 h1 h0).1, if_pos rfl, (kw_6 h1 h0).2, if_neg (by decide)]; exact ⟨rfl, rfl⟩
    | 7, _, h1, h0 => rw [(kw_7 h1 h0).1, if_pos rfl, (kw_7 h1 h0).2, if_neg (by decide)]; exact ⟨rfl, rfl⟩
    | 8, _, h1, h0 => rw [(kw_8 h1 h0).1, if_pos rfl, (kw_8 h1 h0).2, if_neg (by decide)]; exact ⟨rfl, rfl⟩
    | 9, _, h1, h0 => rw [(kw_9 h1 h0).1, if_pos rfl, (kw_9 h1 h0).2, if_neg (by decide)]; exact ⟨rfl, rfl⟩
    | 10, _, h1, h0 => rw [(kw_10 h1 h0).1, if_pos rfl, (kw_10 h1 h0).2, if_neg (by decide)]; exact ⟨rfl, rfl⟩
  · have h0 : ∀ i, i < 11 → spl b s (t - s) i = 0 := fun i hi => Decidable.byContradiction (fun z => c ⟨i, hi, z⟩)
    refine Or.inr ⟨h0, ?_⟩
    unfold tokW
    rw [if_neg n8, (kw_none h0).1, if_pos rfl, (kw_none h0).2, if_pos rfl]
theorem isK_un {j i : Nat} {k v : Int32} (hj : j < 11) (hi : i < 11) (h : isK j k v) (h' : isK i k v) : i = j := by
  match j, hj, h with
  | 0, _, h => 
    match i, hi, h' with
    | 0, _, _ => rfl
    | 1, _, h' => exact absurd (h.symm.trans h') (by decide)
    | 2, _, h' => exact absurd (h.symm.trans h') (by decide)
    | 3, _, h' => exact absurd (h.symm.trans h') (by decide)
    | 4, _, h' => exact absurd (h.symm.trans h') (by decide)
    | 5, _, h' => exact absurd (h.symm.trans h') (by decide)
    | 6, _, h' => exact absurd (h.symm.trans h'.1) (by decide)
    | 7, _, h' => exact absurd (h.symm.trans h'.1) (by decide)
    | 8, _, h' => exact absurd (h.symm.trans h'.1) (by decide)
    | 9, _, h' => exact absurd (h.symm.trans h'.1) (by decide)
    | 10, _, h' => exact absurd (h.symm.trans h'.1) (by decide)
  | 1, _, h => 
    match i, hi, h' with
    | 0, _, h' => exact absurd (h.symm.trans h') (by decide)
    | 1, _, _ => rfl
    | 2, _, h' => exact absurd (h.symm.trans h') (by decide)
    | 3, _, h' => exact absurd (h.symm.trans h') (by decide)
    | 4, _, h' => exact absurd (h.symm.trans h') (by decide)
    | 5, _, h' => exact absurd (h.symm.trans h') (by decide)
    | 6, _, h' => exact absurd (h.symm.trans h'.1) (by decide)
    | 7, _, h' => exact absurd (h.symm.trans h'.1) (by decide)
    | 8, _, h' => exact absurd (h.symm.trans h'.1) (by decide)
    | 9, _, h' => exact absurd (h.symm.trans h'.1) (by decide)
    | 10, _, h' => exact absurd (h.symm.trans h'.1) (by decide)
  | 2, _, h => 
    match i, hi, h' with
    | 0, _, h' => exact absurd (h.symm.trans h') (by decide)
    | 1, _, h' => exact absurd (h.symm.trans h') (by decide)
    | 2, _, _ => rfl
    | 3, _, h' => exact absurd (h.symm.trans h') (by decide)
    | 4, _, h' => exact absurd (h.symm.trans h') (by decide)
    | 5, _, h' => exact absurd (h.symm.trans h') (by decide)
    | 6, _, h' => exact absurd (h.symm.trans h'.1) (by decide)
    | 7, _, h' => exact absurd (h.symm.trans h'.1) (by decide)
    | 8, _, h' => exact absurd (h.symm.trans h'.1) (by decide)
    | 9, _, h' => exact absurd (h.symm.trans h'.1) (by decide)
    | 10, _, h' => exact absurd (h.symm.trans h'.1) (by decide)
  | 3, _, h => 
    match i, hi, h' with
    | 0, _, h' => exact absurd (h.symm.trans h') (by decide)
    | 1, _, h' => exact absurd (h.symm.trans h') (by decide)
    | 2, _, h' => exact absurd (h.symm.trans h') (by decide)
    | 3, _, _ => rfl
    | 4, _, h' => exact absurd (h.symm.trans h') (by decide)
    | 5, _, h' => exact absurd (h.symm.trans h') (by decide)
    | 6, _, h' => exact absurd (h.symm.trans h'.1) (by decide)
    | 7, _, h' => exact absurd (h.symm.trans h'.1) (by decide)
    | 8, _, h' => exact absurd (h.symm.trans h'.1) (by decide)
    | 9, _, h' => exact absurd (h.symm.trans h'.1) (by decide)
    | 10, _, h' => exact absurd (h.symm.trans h'.1) (by decide)
  | 4, _, h => 
    match i, hi, h' with
    | 0, _, h' => exact absurd (h.symm.trans h') (by decide)
    | 1, _, h' => exact absurd (h.symm.trans h') (by decide)
    | 2, _, h' => exact absurd (h.symm.trans h') (by decide)
    | 3, _, h' => exact absurd (h.symm.trans h') (by decide)
    | 4, _, _ => rfl
    | 5, _, h' => exact absurd (h.symm.trans h') (by decide)
    | 6, _, h' => exact absurd (h.symm.trans h'.1) (by decide)
    | 7, _, h' => exact absurd (h.symm.trans h'.1) (by decide)
    | 8, _, h' => exact absurd (h.symm.trans h'.1) (by decide)
    | 9, _, h' => exact absurd (h.symm.trans h'.1) (by decide)
    | 10, _, h' => exact absurd (h.symm.trans h'.1) (by decide)
  | 5, _, h => 
    match i, hi, h' with
    | 0, _, h' => exact absurd (h.symm.trans h') (by decide)
    | 1, _, h' => exact absurd (h.symm.trans h') (by decide)
    | 2, _, h' => exact absurd (h.symm.trans h') (by decide)
    | 3, _, h' => exact absurd (h.symm.trans h') (by decide)
    | 4, _, h' => exact absurd (h.symm.trans h') (by decide)
    | 5, _, _ => rfl
    | 6, _, h' => exact absurd (h.symm.trans h'.1) (by decide)
    | 7, _, h' => exact absurd (h.symm.trans h'.1) (by decide)
    | 8, _, h' => exact absurd (h.symm.trans h'.1) (by decide)
    | 9, _, h' => exact absurd (h.symm.trans h'.1) (by decide)
    | 10, _, h' => exact absurd (h.symm.trans h'.1) (by decide)
  | 6, _, h => 
    match i, hi, h' with
    | 0, _, h' => exact absurd (h.1.symm.trans h') (by decide)
    | 1, _, h' => exact absurd (h.1.symm.trans h') (by decide)
    | 2, _, h' => exact absurd (h.1.symm.trans h') (by decide)
    | 3, _, h' => exact absurd (h.1.symm.trans h') (by decide)
    | 4, _, h' => exact absurd (h.1.symm.trans h') (by decide)
    | 5, _, h' => exact absurd (h.1.symm.trans h') (by decide)
    | 6, _, _ => rfl
    | 7, _, h' => exact absurd (h.2.symm.trans h'.2) (by decide)
    | 8, _, h' => exact absurd (h.2.symm.trans h'.2) (by decide)
    | 9, _, h' => exact absurd (h.2.symm.trans h'.2) (by decide)
    | 10, _, h' => exact absurd (h.2.symm.trans h'.2) (by decide)
  | 7, _, h => 
    match i, hi, h' with
    | 0, _, h' => exact absurd (h.1.symm.trans h') (by decide)
    | 1, _, h' => exact absurd (h.1.symm.trans h') (by decide)
    | 2, _, h' => exact absurd (h.1.symm.trans h') (by decide)
    | 3, _, h' => exact absurd (h.1.symm.trans h') (by decide)
    | 4, _, h' => exact absurd (h.1.symm.trans h') (by decide)
    | 5, _, h' => exact absurd (h.1.symm.trans h') (by decide)
    | 6, _, h' => exact absurd (h.2.symm.trans h'.2) (by decide)
    | 7, _, _ => rfl
    | 8, _, h' => exact absurd (h.2.symm.trans h'.2) (by decide)
    | 9, _, h' => exact absurd (h.2.symm.trans h'.2) (by decide)
    | 10, _, h' => exact absurd (h.2.symm.trans h'.2) (by decide)
  | 8, _, h => 
    match i, hi, h' with
    | 0, _, h' => exact absurd (h.1.symm.trans h') (by decide)
    | 1, _, h' => exact absurd (h.1.symm.trans h') (by decide)
    | 2, _, h' => exact absurd (h.1.symm.trans h') (by decide)
    | 3, _, h' => exact absurd (h.1.symm.trans h') (by decide)
    | 4, _, h' => exact absurd (h.1.symm.trans h') (by decide)
    | 5, _, h' => exact absurd (h.1.symm.trans h') (by decide)
    | 6, _, h' => exact absurd (h.2.symm.trans h'.2) (by decide)
    | 7, _, h' => exact absurd (h.2.symm.trans h'.2) (by decide)
    | 8, _, _ => rfl
    | 9, _, h' => exact absurd (h.2.symm.trans h'.2) (by decide)
    | 10, _, h' => exact absurd (h.2.symm.trans h'.2) (by decide)
  | 9, _, h => 
    match i, hi, h' with
    | 0, _, h' => exact absurd (h.1.symm.trans h') (by decide)
    | 1, _, h' => exact absurd (h.1.symm.trans h') (by decide)
    | 2, _, h' => exact absurd (h.1.symm.trans h') (by decide)
    | 3, _, h' => exact absurd (h.1.symm.trans h') (by decide)
    | 4, _, h' => exact absurd (h.1.symm.trans h') (by decide)
    | 5, _, h' => exact absurd (h.1.symm.trans h') (by decide)
    | 6, _, h' => exact absurd (h.2.symm.trans h'.2) (by decide)
    | 7, _, h' => exact absurd (h.2.symm.trans h'.2) (by decide)
    | 8, _, h' => exact absurd (h.2.symm.trans h'.2) (by decide)
    | 9, _, _ => rfl
    | 10, _, h' => exact absurd (h.2.symm.trans h'.2) (by decide)
  | 10, _, h => 
    match i, hi, h' with
    | 0, _, h' => exact absurd (h.1.symm.trans h') (by decide)
    | 1, _, h' => exact absurd (h.1.symm.trans h') (by decide)
    | 2, _, h' => exact absurd (h.1.symm.trans h') (by decide)
    | 3, _, h' => exact absurd (h.1.symm.trans h') (by decide)
    | 4, _, h' => exact absurd (h.1.symm.trans h') (by decide)
    | 5, _, h' => exact absurd (h.1.symm.trans h') (by decide)
    | 6, _, h' => exact absurd (h.2.symm.trans h'.2) (by decide)
    | 7, _, h' => exact absurd (h.2.symm.trans h'.2) (by decide)
    | 8, _, h' => exact absurd (h.2.symm.trans h'.2) (by decide)
    | 9, _, h' => exact absurd (h.2.symm.trans h'.2) (by decide)
    | 10, _, _ => rfl
/-- the reference's token is the class's: behind position q of the first e bytes -/
def TR (h : Hp) (b : Nat → Int32) (e q : Nat) : Prop := vi h (32, 0) 14 = nI (tok b e q).2.1 ∧ (¬ (tok b e q).2.2.1 = 1 → vi h (32, 0) 12 = nI (tok b e q).1) ∧
  ((vi h (32, 0) 13 = 1 ∧ (tok b e q).2.2.1 = 0) ∨ (vi h (32, 0) 13 = 0 ∧ (tok b e q).2.2.1 = 1) ∨ (vi h (32, 0) 13 = 3 ∧ (tok b e q).2.2.1 = 2 ∧ vi h (32, 0) 16 = (tok b e q).2.2.2) ∨
   (vi h (32, 0) 13 = 2 ∧ ((∃ j, j < 11 ∧ vl h (32, 0) 19 = wv j ∧ (∀ i, i < 11 → i ≠ j → ¬ vl h (32, 0) 19 = wv i) ∧ isK j (tok b e q).2.2.1 (tok b e q).2.2.2) ∨ ((∀ i, i < 11 → ¬ vl h (32, 0) 19 = wv i) ∧ (tok b e q).2.2.1 = 3))) ∨
   (vi h (32, 0) 13 = 4 ∧ vi h (32, 0) 15 = (tok b e q).2.2.1 ∧ xSgn (tok b e q).2.2.1 = 1))
theorem sgn_iff (c : Int32) : (¬ xSgn c = 0) ↔ (c = 60 ∨ c = 62 ∨ c = 61 ∨ c = 40 ∨ c = 41 ∨ c = 43 ∨ c = 42 ∨ c = 59) := by
  unfold xSgn
  constructor
  · intro h
    split at h
    · rename_i z
      have key : ∀ (l : Nat), ¬ c < 0 → c ≤ 62 → True := fun _ _ _ => trivial
      have c0 : ¬ c < 0 := by rcases z with z | z; exact fun y => Int32.not_le.mpr (Int32.lt_of_lt_of_le y (by decide)) z.1; exact fun y => Int32.not_le.mpr (Int32.lt_of_lt_of_le y (by decide)) z.1
      have c1 : c ≤ 62 := by rcases z with z | z; exact Int32.le_trans z.2 (by decide); exact z.2
      obtain ⟨n, hn, rfl⟩ := nI_of2 (M := 62) (n := 62) (by decide) c0 c1
      have k2 : ∀ m : Fin 63, ((40 ≤ nI m.val ∧ nI m.val ≤ 43) ∨ (59 ≤ nI m.val ∧ nI m.val ≤ 62)) → (nI m.val = 60 ∨ nI m.val = 62 ∨ nI m.val = 61 ∨ nI m.val = 40 ∨ nI m.val = 41 ∨ nI m.val = 43 ∨ nI m.val = 42 ∨ nI m.val = 59) := by decide
      exact k2 ⟨n, by omega⟩ z
    · exact absurd rfl h
  · rintro (rfl | rfl | rfl | rfl | rfl | rfl | rfl | rfl) <;> decide
theorem TR_of {h : Hp} {e q : Nat} (he : e ≤ 300) (hq : q ≤ e) {n : Int32} {w : Int64} : TR (mtH h (skp (mb h) (e - q) q) (mTk (mb h) e (skp (mb h) (e - q) q) n w)) (mb h) e q := by
  have hs := skp_le (mb h) (e - q) q
  unfold TR tok
  generalize skp (mb h) (e - q) q = s at hs
  generalize mb h = b
  unfold mtH
  rw [mt_14, mt_12, mt_13, mt_15, mt_16, mt_19]
  unfold tokS mTk
  by_cases c : nI s < nI e
  · have sl : s < e := (nI_ltI (by omega) (by omega)).mp c
    have nc : ¬ nI e ≤ nI s := Int32.not_le.mpr c
    rw [if_pos c, if_neg nc]
    by_cases cl : xLet (b s) = 0
    · rw [if_pos cl]
      by_cases cd : xDig (b s) = 0
      · rw [if_pos cd, if_pos cd, if_pos cl]
        by_cases cs : xSgn (b s) = 0
        · have ns : ¬ (b s = 60 ∨ b s = 62 ∨ b s = 61 ∨ b s = 40 ∨ b s = 41 ∨ b s = 43 ∨ b s = 42 ∨ b s = 59) := fun z => (sgn_iff _).mpr z cs
          rw [if_pos cs, if_neg (fun z => ns (by simp [z])), if_neg (fun z => ns (by simp [z])), if_neg (fun z => ns (by simp [z])), if_neg (fun z => ns (by simp [z])), if_neg (fun z => ns (by simp [z])), if_neg (fun z => ns (by simp [z])), if_neg (fun z => ns (by simp [z])), if_neg (fun z => ns (by simp [z]))]
          exact ⟨rfl, fun z => absurd rfl z, Or.inr (Or.inl ⟨rfl, rfl⟩)⟩
        · have e1 : xSgn (b s) = 1 := by
            unfold xSgn at cs ⊢
            split
            · rfl
            · rename_i z; rw [if_neg z] at cs; exact absurd rfl cs
          have key : ∀ (t : Nat × Int32 × Int32 × Int32 × Int64), t = (s + 1, 4, b s, n, w) → (nI s = nI s ∧ (¬ b s = 1 → nI t.1 = nI (s + 1)) ∧ ((t.2.1 = 1 ∧ b s = 0) ∨ (t.2.1 = 0 ∧ b s = 1) ∨ (t.2.1 = 3 ∧ b s = 2 ∧ t.2.2.2.1 = 0) ∨ (t.2.1 = 2 ∧ ((∃ j, j < 11 ∧ t.2.2.2.2 = wv j ∧ (∀ i, i < 11 → i ≠ j → ¬ t.2.2.2.2 = wv i) ∧ isK j (b s) 0) ∨ ((∀ i, i < 11 → ¬ t.2.2.2.2 = wv i) ∧ b s = 3))) ∨ (t.2.1 = 4 ∧ t.2.2.1 = b s ∧ xSgn (b s) = 1))) := by
            rintro t rfl
            exact ⟨rfl, fun _ => rfl, Or.inr (Or.inr (Or.inr (Or.inr ⟨rfl, rfl, e1⟩)))⟩
          rw [if_neg cs]
          refine key _ ?_
          rcases (sgn_iff _).mp cs with z | z | z | z | z | z | z | z
          · rw [if_pos z]
          · by_cases y : b s = 60; rw [if_pos y]; rw [if_neg y, if_pos z]
          · rw [z]; rfl
          · rw [z]; rfl
          · rw [z]; rfl
          · rw [z]; rfl
          · rw [z]; rfl
          · rw [z]; rfl
      · rw [if_neg cd, if_neg cd]
        try rw [if_pos cl]
        have t1 := nmL_1 b (e - s) s 0 0 0
        have t2 := nmL_2 b (e - s) s 0 0 0
        have tl := tnA_le b (e - s) s 0
        have ct : (nmL b (e - s) s 0 0).2.1 = (tnA b (e - s) s 0).1 - s := by omega
        rw [t1, ct]
        by_cases z : 4 < (tnA b (e - s) s 0).1 - s
        · rw [if_pos (show (4 : Int32) < nI ((tnA b (e - s) s 0).1 - s) from nI_lt (a := 4) z (by omega)), if_pos (show (5 : Int32) ≤ nI ((tnA b (e - s) s 0).1 - s) from nI_le (a := 5) (by omega) (by omega))]
          exact ⟨rfl, fun y => absurd rfl y, Or.inr (Or.inl ⟨rfl, rfl⟩)⟩
        · rw [if_neg (show ¬ (4 : Int32) < nI ((tnA b (e - s) s 0).1 - s) from nI_nlt (a := 4) (by omega) (by decide)), if_neg (show ¬ (5 : Int32) ≤ nI ((tnA b (e - s) s 0).1 - s) from nI_ge (b := 5) (by omega) (by decide)), nmL_3 b (e - s) s 0 0 (by omega)]
          exact ⟨rfl, fun _ => rfl, Or.inr (Or.inr (Or.inl ⟨rfl, rfl, rfl⟩))⟩
    · have cd : xDig (b s) = 0 := by
        unfold xDig xLet at *
        split
        · rfl
        · rename_i d1
          split
          · rfl
          · rename_i d2
            exfalso
            split at cl
            · exact cl rfl
            · rename_i l1
              exact l1 (Int32.lt_of_le_of_lt (Int32.not_lt.mp d2) (by decide))
      rw [if_neg cl, if_pos cd, if_neg cl]
      have sp := spn_le b (e - s) s
      have w1 := wdL_1 b (e - s) s 0 0
      have w2 := wdL_2 b (e - s) s 0 0
      have ct : (wdL b (e - s) s 0 0).2.1 = spn b (e - s) s - s := by omega
      rw [w1, ct]
      by_cases z : 8 < spn b (e - s) s - s
      · have k1 : tokW b s (spn b (e - s) s) 0 = (1, 0) := by unfold tokW; rw [if_pos (show (8 : Int32) < nI (spn b (e - s) s - s) from nI_lt (a := 8) z (by omega))]
        rw [if_pos (show (9 : Int32) ≤ nI (spn b (e - s) s - s) from nI_le (a := 9) (by omega) (by omega)), k1]
        exact ⟨rfl, fun y => absurd rfl y, Or.inr (Or.inl ⟨rfl, rfl⟩)⟩
      · have hl : ∀ i, i < spn b (e - s) s - s → ¬ xLet (b (s + i)) = 0 := fun i hi => spn_let b (e - s) s (s + i) (by omega) (by omega)
        rw [if_neg (show ¬ (9 : Int32) ≤ nI (spn b (e - s) s - s) from nI_ge (b := 9) (by omega) (by decide)), wdL_3 b (e - s) s 0 0 (by omega)]
        have wi := fun j (hj : j < 11) => wv_spl (b := b) (s := s) (n := spn b (e - s) s - s) (j := j) (by omega) hj hl
        refine ⟨rfl, fun _ => rfl, Or.inr (Or.inr (Or.inr (Or.inl ⟨rfl, ?_⟩)))⟩
        rcases tokW_of (b := b) (s := s) (t := spn b (e - s) s) sp.1 (by omega) 0 with ⟨j, hj, h1, h2⟩ | ⟨h0, h2⟩
        · exact Or.inl ⟨j, hj, (wi j hj).mpr h1, fun i hi ne y => (wi i hi).mp y (spl_one (by omega) hj h1 i hi ne), h2⟩
        · exact Or.inr ⟨fun i hi y => (wi i hi).mp y (h0 i hi), h2⟩
  · rw [if_neg c, if_pos (Int32.not_lt.mp c)]
    exact ⟨rfl, fun _ => rfl, Or.inl ⟨rfl, rfl⟩⟩
