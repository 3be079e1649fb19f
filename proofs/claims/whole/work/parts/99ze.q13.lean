/-- before a term: state 8 -/
def SH_s (b : Nat → Int32) (e : Nat) (Z : Hp) (ch cp dp : Nat) (W M N : Nat → Int32) (cd hd : List Int32) (k c0 : Nat) (h : Hp) (q te : Nat) : Prop := ∃ (c : Hp) (j : Nat) (nm sg nu : Int32) (T : List Int32), CS c b q ch cp te dp 0 nm sg nu W M N (T ++ cd) hd ∧ e + 1 ≤ q + j ∧ Z = rLp e j 8 c ∧ T.length = te ∧ TmR_s h k c0 T ∧ T.length + cd.length + hd.length + 3 ≤ q
/-- behind a term: state 11, or 9 with its number pending -/
def SE_s (b : Nat → Int32) (e : Nat) (Z : Hp) (ch cp dp : Nat) (W M N : Nat → Int32) (cd hd : List Int32) (k c0 : Nat) (h : Hp) (q te : Nat) : Prop := ∃ (c : Hp) (j : Nat) (nm sg nu : Int32) (T : List Int32), CS c b q ch cp te dp 0 nm sg nu W M N (T ++ cd) hd ∧ e + 1 ≤ q + j ∧ ((Z = rLp e j 11 c ∧ T.length = te ∧ TmR_s h k c0 T ∧ T.length + cd.length + hd.length + 3 ≤ q) ∨ (Z = rLp e j 9 c ∧ T.length + 1 = te ∧ TmR_s h k c0 (xMk 2 5 nu :: T) ∧ T.length + 1 + cd.length + hd.length + 3 ≤ q ∧ ¬ (tok b e q).2.2.1 = 42))
theorem SE_plus_s {b : Nat → Int32} {e : Nat} {Z : Hp} {ch cp dp : Nat} {W M N : Nat → Int32} {cd hd : List Int32} {k c0 : Nat} {h h' : Hp} {q te : Nat} (s : SE_s b e Z ch cp dp W M N cd hd k c0 h q te) (he : e ≤ 300) (hq : q ≤ e) (hk : (tok b e q).2.2.1 = 43) (e8 : ∀ i, vi h' (58, 0) i = vi h (58, 0) i) (e9 : ∀ i, vi h' (59, 0) i = vi h (59, 0) i) : SH_s b e Z ch cp dp W M N cd hd k c0 h' (tok b e q).1 te := by
  obtain ⟨c, j, nm, sg, nu, T, cs, hj, ⟨hZ, hT, t, hl⟩ | ⟨hZ, hT, t, hl, -⟩⟩ := s
  · obtain ⟨j, rfl⟩ : ∃ j2, j = j2 + 1 := ⟨j - 1, by omega⟩
    have ad := tok_adv he hq (by rw [hk]; decide)
    obtain ⟨c1, z1, s1⟩ := st_plus (j := j) cs (by omega) hk
    exact ⟨c1, j, nm, sg, nu, T, s1, by omega, hZ.trans z1, hT, TmR_c_s (n := T.length) (fun i _ => e8 _) (fun i _ => e9 _) T (Nat.le_refl _) t, by omega⟩
  · obtain ⟨j, rfl⟩ : ∃ j2, j = j2 + 1 := ⟨j - 1, by omega⟩
    have ad := tok_adv he hq (by rw [hk]; decide)
    obtain ⟨c1, z1, s1⟩ := st_nplus (j := j) cs (by omega) hk
    rw [aw_lt (by rw [List.length_append]; omega)] at s1
    exact ⟨c1, j, nm, sg, nu, xMk 2 5 nu :: T, s1, by omega, hZ.trans z1, hT, TmR_c_s (n := T.length + 1) (fun i _ => e8 _) (fun i _ => e9 _) _ (Nat.le_refl _) t, by rw [List.length_cons]; omega⟩
/-- a name for a term -/
theorem SH_name_s {b : Nat → Int32} {e : Nat} {Z : Hp} {ch cp dp : Nat} {W M N : Nat → Int32} {cd hd : List Int32} {k c0 : Nat} {h h' : Hp} {q te m : Nat} (s : SH_s b e Z ch cp dp W M N cd hd k c0 h q te) (he : e ≤ 300) (hq : q ≤ e) (hk : (tok b e q).2.2.1 = 4) (hm : m < 5) (hv : (tok b e q).2.2.2 = nI m) (hn : te + 1 ≤ 4) (e8 : ∀ i, i < 4 * c0 + te → vi h' (58, 0) i = vi h (58, 0) i) (e9 : ∀ i, i < 4 * c0 + te → vi h' (59, 0) i = vi h (59, 0) i) (y8 : vi h' (58, 0) (4 * c0 + te) = nI m) (y9 : vi h' (59, 0) (4 * c0 + te) = 1) : SE_s b e Z ch cp dp W M N cd hd k c0 h' (tok b e q).1 (te + 1) := by
  obtain ⟨c, j, nm, sg, nu, T, cs, hj, hZ, hT, t, hl⟩ := s
  obtain ⟨j, rfl⟩ : ∃ j2, j = j2 + 1 := ⟨j - 1, by omega⟩
  have ad := tok_adv he hq (by rw [hk]; decide)
  obtain ⟨c1, z1, s1⟩ := st_tname (j := j) cs (by omega) hk hn
  rw [aw_lt (by rw [List.length_append]; omega), hv] at s1
  subst hT
  exact ⟨c1, j, nm, sg, nu, xMk 2 (nI m) 1 :: T, s1, by omega, Or.inl ⟨hZ.trans z1, rfl, ⟨Tm1_name_s (u := 1) (by decide) hm y9 y8, TmR_c_s (n := T.length) (fun i hi => e8 _ (by omega)) (fun i hi => e9 _ (by omega)) T (Nat.le_refl _) t⟩, by rw [List.length_cons]; omega⟩⟩
/-- a number for a term, and no star behind it -/
theorem SH_num_s {b : Nat → Int32} {e : Nat} {Z : Hp} {ch cp dp : Nat} {W M N : Nat → Int32} {cd hd : List Int32} {k c0 : Nat} {h h' : Hp} {q te u : Nat} (s : SH_s b e Z ch cp dp W M N cd hd k c0 h q te) (he : e ≤ 300) (hq : q ≤ e) (hk : (tok b e q).2.2.1 = 2) (hu : u ≤ 9999) (hv : (tok b e q).2.2.2 = nI u) (hn : te + 1 ≤ 4) (e8 : ∀ i, i < 4 * c0 + te → vi h' (58, 0) i = vi h (58, 0) i) (e9 : ∀ i, i < 4 * c0 + te → vi h' (59, 0) i = vi h (59, 0) i) (y8 : vi h' (58, 0) (4 * c0 + te) = -1) (y9 : vi h' (59, 0) (4 * c0 + te) = nI u) (n42 : ¬ (tok b e (tok b e q).1).2.2.1 = 42) : SE_s b e Z ch cp dp W M N cd hd k c0 h' (tok b e q).1 (te + 1) := by
  obtain ⟨c, j, nm, sg, nu, T, cs, hj, hZ, hT, t, hl⟩ := s
  obtain ⟨j, rfl⟩ : ∃ j2, j = j2 + 1 := ⟨j - 1, by omega⟩
  have ad := tok_adv he hq (by rw [hk]; decide)
  obtain ⟨c1, z1, s1⟩ := st_tnum (j := j) cs (by omega) hk hn
  rw [hv] at s1
  subst hT
  exact ⟨c1, j, nm, sg, nI u, T, s1, by omega, Or.inr ⟨hZ.trans z1, rfl, ⟨Tm1_num_s hu y9 y8, TmR_c_s (n := T.length) (fun i hi => e8 _ (by omega)) (fun i hi => e9 _ (by omega)) T (Nat.le_refl _) t⟩, by omega, n42⟩⟩
/-- number, star, name -/
theorem SH_star_s {b : Nat → Int32} {e : Nat} {Z : Hp} {ch cp dp : Nat} {W M N : Nat → Int32} {cd hd : List Int32} {k c0 : Nat} {h h' : Hp} {q te u m : Nat} (s : SH_s b e Z ch cp dp W M N cd hd k c0 h q te) (he : e ≤ 300) (hq : q ≤ e) (hk : (tok b e q).2.2.1 = 2) (hu : u ≤ 9999) (hv : (tok b e q).2.2.2 = nI u) (hn : te + 1 ≤ 4) (k42 : (tok b e (tok b e q).1).2.2.1 = 42) (k4 : (tok b e (tok b e (tok b e q).1).1).2.2.1 = 4) (hm : m < 5) (hw : (tok b e (tok b e (tok b e q).1).1).2.2.2 = nI m) (e8 : ∀ i, i < 4 * c0 + te → vi h' (58, 0) i = vi h (58, 0) i) (e9 : ∀ i, i < 4 * c0 + te → vi h' (59, 0) i = vi h (59, 0) i) (y8 : vi h' (58, 0) (4 * c0 + te) = nI m) (y9 : vi h' (59, 0) (4 * c0 + te) = nI u) : SE_s b e Z ch cp dp W M N cd hd k c0 h' (tok b e (tok b e (tok b e q).1).1).1 (te + 1) := by
  obtain ⟨c, j, nm, sg, nu, T, cs, hj, hZ, hT, t, hl⟩ := s
  have ad := tok_adv he hq (by rw [hk]; decide)
  have q1 := tok_end (b := b) he hq
  have ad2 := tok_adv he q1 (by rw [k42]; decide)
  have q2 := tok_end (b := b) he q1
  have ad3 := tok_adv he q2 (by rw [k4]; decide)
  have q3 := tok_end (b := b) he q2
  obtain ⟨j, rfl⟩ : ∃ j2, j = j2 + 3 := ⟨j - 3, by omega⟩
  obtain ⟨c1, z1, s1⟩ := st_tnum (j := j + 2) cs (by omega) hk hn
  rw [hv] at s1
  obtain ⟨c2, z2, s2⟩ := st_star (j := j + 1) s1 (by omega) k42
  obtain ⟨c3, z3, s3⟩ := st_fac (j := j) s2 (by omega) k4
  rw [aw_lt (by rw [List.length_append]; omega), hw] at s3
  subst hT
  exact ⟨c3, j, nm, sg, nI u, xMk 2 (nI m) (nI u) :: T, s3, by omega, Or.inl ⟨hZ.trans (z1.trans (z2.trans z3)), rfl, ⟨Tm1_name_s hu hm y9 y8, TmR_c_s (n := T.length) (fun i hi => e8 _ (by omega)) (fun i hi => e9 _ (by omega)) T (Nat.le_refl _) t⟩, by rw [List.length_cons]; omega⟩⟩
theorem SH_ce_s {b : Nat → Int32} {e : Nat} {Z : Hp} {ch cp dp : Nat} {W M N : Nat → Int32} {cd hd : List Int32} {k c0 : Nat} {h : Hp} {q te : Nat} (s : SH_s b e Z ch cp dp W M N cd hd k c0 h q te) (he : e ≤ 300) (hq : q ≤ e) (h1 : ¬ (tok b e q).2.2.1 = 2) (h2 : ¬ (tok b e q).2.2.1 = 4) : CE Z (if (tok b e q).2.2.1 = 3 then 2 else 1) (tok b e q).2.1 := by
  obtain ⟨c, j, nm, sg, nu, T, cs, hj, hZ, hT, t, hl⟩ := s
  obtain ⟨j, rfl⟩ : ∃ j2, j = j2 + 1 := ⟨j - 1, by omega⟩
  rw [hZ]; exact ft_term cs (by omega) h1 h2
theorem SH_many_s {b : Nat → Int32} {e : Nat} {Z : Hp} {ch cp dp : Nat} {W M N : Nat → Int32} {cd hd : List Int32} {k c0 : Nat} {h : Hp} {q te : Nat} (s : SH_s b e Z ch cp dp W M N cd hd k c0 h q te) (he : e ≤ 300) (hq : q ≤ e) (hk : (tok b e q).2.2.1 = 2 ∨ (tok b e q).2.2.1 = 4) (hn : te = 4) : CE Z 4 (tok b e q).2.1 := by
  obtain ⟨c, j, nm, sg, nu, T, cs, hj, hZ, hT, t, hl⟩ := s
  obtain ⟨j, rfl⟩ : ∃ j2, j = j2 + 1 := ⟨j - 1, by omega⟩
  rw [hZ]; exact ft_tmany cs (by omega) hk hn
theorem SH_fac_s {b : Nat → Int32} {e : Nat} {Z : Hp} {ch cp dp : Nat} {W M N : Nat → Int32} {cd hd : List Int32} {k c0 : Nat} {h : Hp} {q te : Nat} (s : SH_s b e Z ch cp dp W M N cd hd k c0 h q te) (he : e ≤ 300) (hq : q ≤ e) (hk : (tok b e q).2.2.1 = 2) (hn : te + 1 ≤ 4) (k42 : (tok b e (tok b e q).1).2.2.1 = 42) (k4 : ¬ (tok b e (tok b e (tok b e q).1).1).2.2.1 = 4) : CE Z (if (tok b e (tok b e (tok b e q).1).1).2.2.1 = 3 then 2 else 1) (tok b e (tok b e (tok b e q).1).1).2.1 := by
  obtain ⟨c, j, nm, sg, nu, T, cs, hj, hZ, hT, t, hl⟩ := s
  have ad := tok_adv he hq (by rw [hk]; decide)
  have q1 := tok_end (b := b) he hq
  have ad2 := tok_adv he q1 (by rw [k42]; decide)
  have q2 := tok_end (b := b) he q1
  obtain ⟨j, rfl⟩ : ∃ j2, j = j2 + 3 := ⟨j - 3, by omega⟩
  obtain ⟨c1, z1, s1⟩ := st_tnum (j := j + 2) cs (by omega) hk hn
  obtain ⟨c2, z2, s2⟩ := st_star (j := j + 1) s1 (by omega) k42
  rw [hZ, z1, z2]; exact ft_fac s2 (by omega) k4
