/-! the changes read so far -/
def D1_s (h : Hp) (k : Nat) (W M N : Nat → Int32) (n : Nat) (C : List Int32) (R : List mOp) (lc lr lr' : Nat) : Prop := N n = nI lc ∧ vi h (52, 0) n = nI lr' ∧ vi h (53, 0) n = nI lr ∧ vi h (51, 0) n = M n ∧ ((∃ m, 1 ≤ m ∧ m ≤ 12 ∧ M n = nI m ∧ ((W n = 5 ∧ vi h (50, 0) n = 0 ∧ Blk C R ∧ opsOK R ∧ nPs C ≤ 20) ∨ (W n = 6 ∧ vi h (50, 0) n = 1))) ∨ (W n = 7 ∧ vi h (50, 0) n = 2 ∧ M n = 0 ∧ C.length ≤ 4 ∧ vi h (54, 0) n = nI C.length ∧ TmR_s h k n C))
def DL_s (h : Hp) (k : Nat) (W M N : Nat → Int32) : Nat → List Int32 → List mOp → Prop
  | 0, cd, rl => cd = [] ∧ rl = []
  | n + 1, cd, rl => ∃ (C : List Int32) (R : List mOp) (cd' : List Int32) (rl' : List mOp), cd = C ++ cd' ∧ rl = R ++ rl' ∧ D1_s h k W M N n C R cd.length rl.length rl'.length ∧ DL_s h k W M N n cd' rl'
/-- what must stay for the changes below n to stay -/
def DF_s (k n : Nat) (h h' : Hp) (W M N W' M' N' : Nat → Int32) : Prop := (∀ p, p = 50 ∨ p = 51 ∨ p = 52 ∨ p = 53 ∨ p = 54 → ∀ i, i < n → vi h' (p, 0) i = vi h (p, 0) i) ∧ (∀ i, i < 4 * n → vi h' (58, 0) i = vi h (58, 0) i) ∧ (∀ i, i < 4 * n → vi h' (59, 0) i = vi h (59, 0) i) ∧ (∀ i, i < n → W' i = W i) ∧ (∀ i, i < n → M' i = M i) ∧ (∀ i, i < n → N' i = N i)
theorem DF_s.dn {k n : Nat} {h h' : Hp} {W M N W' M' N' : Nat → Int32} (f : DF_s k (n + 1) h h' W M N W' M' N') : DF_s k n h h' W M N W' M' N' := ⟨fun p hp i hi => f.1 p hp i (by omega), fun i hi => f.2.1 i (by omega), fun i hi => f.2.2.1 i (by omega), fun i hi => f.2.2.2.1 i (by omega), fun i hi => f.2.2.2.2.1 i (by omega), fun i hi => f.2.2.2.2.2 i (by omega)⟩
theorem D1_c_s {h h' : Hp} {k n : Nat} {W M N W' M' N' : Nat → Int32} {C : List Int32} {R : List mOp} {lc lr lr' : Nat} (f : DF_s k (n + 1) h h' W M N W' M' N') (d : D1_s h k W M N n C R lc lr lr') : D1_s h' k W' M' N' n C R lc lr lr' := by
  obtain ⟨f1, f2, f3, f4, f5, f6⟩ := f
  have hn : n < n + 1 := Nat.lt_succ_self n
  unfold D1_s
  rw [f6 n hn, f1 52 (by decide) n hn, f1 53 (by decide) n hn, f1 51 (by decide) n hn, f1 50 (by decide) n hn, f1 54 (by decide) n hn, f5 n hn, f4 n hn]
  obtain ⟨d1, d2, d3, d4, d5⟩ := d
  refine ⟨d1, d2, d3, d4, ?_⟩
  rcases d5 with d5 | ⟨a1, a2, a3, a4, a5, a6⟩
  · exact Or.inl d5
  · exact Or.inr ⟨a1, a2, a3, a4, a5, TmR_c_s (n := 4) (fun i hi => f2 _ (by omega)) (fun i hi => f3 _ (by omega)) C a4 a6⟩
theorem DL_c_s {h h' : Hp} {k : Nat} {W M N W' M' N' : Nat → Int32} : ∀ (n : Nat) (cd : List Int32) (rl : List mOp), DF_s k n h h' W M N W' M' N' → DL_s h k W M N n cd rl → DL_s h' k W' M' N' n cd rl
  | 0, _, _, _, d => d
  | n + 1, _, _, f, ⟨C, R, cd', rl', e1, e2, d1, d2⟩ => ⟨C, R, cd', rl', e1, e2, D1_c_s f d1, DL_c_s n cd' rl' f.dn d2⟩
