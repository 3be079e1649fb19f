/-! the changes read so far -/
def D1 (h : Hp) (k : Nat) (W M N : Nat → Int32) (n : Nat) (C : List Int32) (R : List mOp) (lc lr lr' : Nat) : Prop := N n = nI lc ∧ vi h (42, k) n = nI lr' ∧ vi h (43, k) n = nI lr ∧ vi h (41, k) n = M n ∧ ((∃ m, 1 ≤ m ∧ m ≤ 12 ∧ M n = nI m ∧ ((W n = 5 ∧ vi h (40, k) n = 0 ∧ Blk C R ∧ opsOK R ∧ nPs C ≤ 20) ∨ (W n = 6 ∧ vi h (40, k) n = 1))) ∨ (W n = 7 ∧ vi h (40, k) n = 2 ∧ M n = 0 ∧ C.length ≤ 4 ∧ vi h (44, k) n = nI C.length ∧ TmR h k n C))
def DL (h : Hp) (k : Nat) (W M N : Nat → Int32) : Nat → List Int32 → List mOp → Prop
  | 0, cd, rl => cd = [] ∧ rl = []
  | n + 1, cd, rl => ∃ (C : List Int32) (R : List mOp) (cd' : List Int32) (rl' : List mOp), cd = C ++ cd' ∧ rl = R ++ rl' ∧ D1 h k W M N n C R cd.length rl.length rl'.length ∧ DL h k W M N n cd' rl'
/-- what must stay for the changes below n to stay -/
def DF (k n : Nat) (h h' : Hp) (W M N W' M' N' : Nat → Int32) : Prop := (∀ p, p = 40 ∨ p = 41 ∨ p = 42 ∨ p = 43 ∨ p = 44 → ∀ i, i < n → vi h' (p, k) i = vi h (p, k) i) ∧ (∀ i, i < 4 * n → vi h' (48, k) i = vi h (48, k) i) ∧ (∀ i, i < 4 * n → vi h' (49, k) i = vi h (49, k) i) ∧ (∀ i, i < n → W' i = W i) ∧ (∀ i, i < n → M' i = M i) ∧ (∀ i, i < n → N' i = N i)
theorem DF.dn {k n : Nat} {h h' : Hp} {W M N W' M' N' : Nat → Int32} (f : DF k (n + 1) h h' W M N W' M' N') : DF k n h h' W M N W' M' N' := ⟨fun p hp i hi => f.1 p hp i (by omega), fun i hi => f.2.1 i (by omega), fun i hi => f.2.2.1 i (by omega), fun i hi => f.2.2.2.1 i (by omega), fun i hi => f.2.2.2.2.1 i (by omega), fun i hi => f.2.2.2.2.2 i (by omega)⟩
theorem D1_c {h h' : Hp} {k n : Nat} {W M N W' M' N' : Nat → Int32} {C : List Int32} {R : List mOp} {lc lr lr' : Nat} (f : DF k (n + 1) h h' W M N W' M' N') (d : D1 h k W M N n C R lc lr lr') : D1 h' k W' M' N' n C R lc lr lr' := by
  obtain ⟨f1, f2, f3, f4, f5, f6⟩ := f
  have hn : n < n + 1 := Nat.lt_succ_self n
  unfold D1
  rw [f6 n hn, f1 42 (by decide) n hn, f1 43 (by decide) n hn, f1 41 (by decide) n hn, f1 40 (by decide) n hn, f1 44 (by decide) n hn, f5 n hn, f4 n hn]
  obtain ⟨d1, d2, d3, d4, d5⟩ := d
  refine ⟨d1, d2, d3, d4, ?_⟩
  rcases d5 with d5 | ⟨a1, a2, a3, a4, a5, a6⟩
  · exact Or.inl d5
  · exact Or.inr ⟨a1, a2, a3, a4, a5, TmR_c (n := 4) (fun i hi => f2 _ (by omega)) (fun i hi => f3 _ (by omega)) C a4 a6⟩
theorem DL_c {h h' : Hp} {k : Nat} {W M N W' M' N' : Nat → Int32} : ∀ (n : Nat) (cd : List Int32) (rl : List mOp), DF k n h h' W M N W' M' N' → DL h k W M N n cd rl → DL h' k W' M' N' n cd rl
  | 0, _, _, _, d => d
  | n + 1, _, _, f, ⟨C, R, cd', rl', e1, e2, d1, d2⟩ => ⟨C, R, cd', rl', e1, e2, D1_c f d1, DL_c n cd' rl' f.dn d2⟩
