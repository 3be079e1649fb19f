theorem nPs_rev : ∀ (l : List Int32), nPs l.reverse = nPs l
  | [] => rfl
  | p :: l => by rw [List.reverse_cons, nPs_app, nPs_rev l]; show nPs l + (nPu p + 0) = nPu p + nPs l; omega
/-! from the lists to the cells -/
theorem Pl_app {c : Hp} {j : Nat} : ∀ (A B : List Int32), Pl c j (A ++ B) → Pl c j B
  | [], _, h => h
  | _ :: A, B, h => Pl_app A B h.2
theorem RLs_app {h : Hp} {k : Nat} : ∀ (A B : List mOp), RLs h k (A ++ B) → RLs h k B
  | [], _, z => z
  | _ :: A, B, z => RLs_app A B z.2.2.2
theorem mOps_s (h : Hp) (k : Nat) : ∀ (j i : Nat), mOps h k (j + 1) i = mOps h k j i ++ [(vi h (45, k) (i + j), vi h (46, k) (i + j), vi h (47, k) (i + j))]
  | 0, _ => rfl
  | j + 1, i => by
    rw [mOps, mOps_s h k j (i + 1), mOps, show i + 1 + j = i + (j + 1) by omega]; rfl
theorem xCod_s (h : Hp) (x : Nat) : ∀ (j i : Nat), xCod h x (j + 1) i = xCod h x j i ++ [vi h (17, x) (i + j)]
  | 0, _ => rfl
  | j + 1, i => by
    rw [xCod, xCod_s h x j (i + 1), xCod, show i + 1 + j = i + (j + 1) by omega]; rfl
theorem mOps_R {h : Hp} {k : Nat} {rl' : List mOp} : ∀ (R : List mOp), RLs h k (R ++ rl') → mOps h k R.length rl'.length = R.reverse
  | [], _ => rfl
  | p :: R, z => by
    obtain ⟨z1, z2, z3, z4⟩ := (show vi h (45, k) (R ++ rl').length = p.1 ∧ vi h (46, k) (R ++ rl').length = p.2.1 ∧ vi h (47, k) (R ++ rl').length = p.2.2 ∧ RLs h k (R ++ rl') from z)
    rw [List.length_append, Nat.add_comm] at z1 z2 z3
    rw [List.length_cons, mOps_s, mOps_R R z4, List.reverse_cons, z1, z2, z3]
theorem xCod_C {h Z : Hp} {x : Nat} {cd' : List Int32} : ∀ (C : List Int32), (∀ j, j < C.length → vi h (17, x) j = vi Z (13, 1) (cd'.length + j)) → Pl Z 1 (C ++ cd') → xCod h x C.length 0 = C.reverse
  | [], _, _ => rfl
  | p :: C, e, z => by
    obtain ⟨z1, z2⟩ := (show vi Z (13, 1) (C ++ cd').length = p ∧ Pl Z 1 (C ++ cd') from z)
    rw [List.length_append, Nat.add_comm] at z1
    rw [List.length_cons, xCod_s, xCod_C C (fun j hj => e j (by rw [List.length_cons]; omega)) z2, List.reverse_cons, Nat.zero_add, e C.length (by rw [List.length_cons]; omega), z1]
theorem TmR_at {h Z : Hp} {k c : Nat} {cd' : List Int32} : ∀ (C : List Int32), TmR h k c C → Pl Z 1 (C ++ cd') → ∀ i, i < C.length → Tm1 h k (4 * c + i) (vi Z (13, 1) (cd'.length + i))
  | [], _, _, i, hi => absurd hi (Nat.not_lt_zero i)
  | p :: C, t, z, i, hi => by
    obtain ⟨z1, z2⟩ := (show vi Z (13, 1) (C ++ cd').length = p ∧ Pl Z 1 (C ++ cd') from z)
    by_cases y : i = C.length
    · rw [List.length_append, Nat.add_comm] at z1
      rw [y, z1]; exact t.1
    · exact TmR_at C t.2 z2 i (by rw [List.length_cons] at hi; omega)
theorem opOK_R {h : Hp} {k : Nat} {rl' : List mOp} : ∀ (R : List mOp), opsOK R → RLs h k (R ++ rl') → ∀ i, rl'.length ≤ i → i < (R ++ rl').length → opOK h k i
  | [], _, _, i, h1, h2 => absurd h1 (by rw [List.nil_append] at h2; omega)
  | p :: R, o, z, i, h1, h2 => by
    obtain ⟨z1, z2, z3, z4⟩ := (show vi h (45, k) (R ++ rl').length = p.1 ∧ vi h (46, k) (R ++ rl').length = p.2.1 ∧ vi h (47, k) (R ++ rl').length = p.2.2 ∧ RLs h k (R ++ rl') from z)
    by_cases y : i = (R ++ rl').length
    · rw [y]; unfold opOK; rw [z1, z2]; exact o p List.mem_cons_self
    · have h3 : i < (R ++ rl').length + 1 := h2
      exact opOK_R R (fun q hq => o q (List.mem_cons_of_mem _ hq)) z4 i h1 (by omega)
/-- one change of both sides -/
theorem ChR_of {h Z : Hp} {k i x lc : Nat} {W M N : Nat → Int32} {C : List Int32} {R : List mOp} {cd' : List Int32} {rl' : List mOp} (d : D1 h k W M N i C R lc (R ++ rl').length rl'.length) (rl : RLs h k (R ++ rl')) (hr : (R ++ rl').length ≤ 130) (pl : Pl Z 1 (C ++ cd')) (e0 : vi h (8, x) 0 = nI k) (e1 : vi h (8, x) 1 = vi h (33, k) 0) (e2 : vi h (8, x) 2 = vi h (33, k) 1) (e3 : vi h (8, x) 3 = W i) (e4 : vi h (8, x) 4 = M i) (el : ln h (17, x) = C.length) (ec : ∀ j, j < C.length → vi h (17, x) j = vi Z (13, 1) (cd'.length + j)) : ChR h k i x := by
  obtain ⟨d1, d2, d3, d4, d5⟩ := d
  refine ⟨e0, e1, e2, ?_⟩
  rw [e3, e4]
  rcases d5 with ⟨m, m1, m2, m3, ⟨w, a0, bl, ok, np⟩ | ⟨w, a0⟩⟩ | ⟨w, a0, m0, c4, a4, tm⟩
  · refine Or.inl ⟨m, m1, m2, d4.trans m3, m3, Or.inl ⟨a0, w, rl'.length, (R ++ rl').length, by rw [List.length_append]; omega, hr, d2, d3, fun j h1 h2 => opOK_R R ok rl j h1 h2, ?_, fun F F' hF => ?_⟩⟩
    · rw [el, xCod_C C ec pl, nPs_rev]; omega
    · rw [el, xCod_C C ec pl, show (R ++ rl').length - rl'.length = R.length by rw [List.length_append]; omega, mOps_R R rl]
      obtain ⟨v, hv⟩ := bl F F' hF
      exact ⟨v, (hv []).1, (hv []).2⟩
  · exact Or.inl ⟨m, m1, m2, d4.trans m3, m3, Or.inr ⟨a0, w⟩⟩
  · refine Or.inr ⟨a0, w, m0, C.length, c4, a4, el, fun j hj => ?_⟩
    rw [ec j hj]
    exact TmR_at C tm pl j hj
theorem DL_at {h Z : Hp} {k : Nat} {W M N : Nat → Int32} : ∀ (n : Nat) (cd : List Int32) (rl : List mOp), DL h k W M N n cd rl → Pl Z 1 cd → RLs h k rl → ∀ i, i < n → ∃ (C : List Int32) (R : List mOp) (cd' : List Int32) (rl' : List mOp), D1 h k W M N i C R (C ++ cd').length (R ++ rl').length rl'.length ∧ Pl Z 1 (C ++ cd') ∧ RLs h k (R ++ rl') ∧ (C ++ cd').length ≤ cd.length ∧ (R ++ rl').length ≤ rl.length ∧ (i = 0 → cd' = []) ∧ (∀ j, i = j + 1 → N j = nI cd'.length)
  | 0, _, _, _, _, _, i, hi => absurd hi (Nat.not_lt_zero i)
  | n + 1, cd, rl, ⟨C, R, cd', rl', ec, er, d1, d2⟩, pl, rs, i, hi => by
    subst ec; subst er
    by_cases y : i = n
    · subst y
      refine ⟨C, R, cd', rl', d1, pl, rs, Nat.le_refl _, Nat.le_refl _, fun z => ?_, fun j z => ?_⟩
      · subst z; exact d2.1
      · subst z; obtain ⟨C2, R2, c2, r2, e1, e2, f1, f2⟩ := d2; exact f1.1
    · obtain ⟨C2, R2, c2, r2, f1, f2, f3, f4, f5, f6, f7⟩ := DL_at n cd' rl' d2 (Pl_app C cd' pl) (RLs_app R rl' rs) i (by omega)
      refine ⟨C2, R2, c2, r2, f1, f2, f3, ?_, ?_, f6, f7⟩
      · rw [List.length_append (as := C)]; omega
      · rw [List.length_append (as := R)]; omega
