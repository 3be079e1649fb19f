def fSk : Fpt := (fun _ => false, fun _ => false, fun _ => false, fun _ => false, fun p i f => (p == 0 && (f == 10 || f == 12 || f == 13 || f == 15)) || (p == 32 && (f == 3 || f == 4 || f == 23 || f == 49)))
theorem ScA_k {h h' : Hp} (s : ScA h) (e : Eqv fSk h h') (k : Int32) (hk : ¬ k = 4) (e1 : vi h' (0, 0) 14 = k) (e2 : vi h' (32, 0) 1 = k) (e3 : vi h' (32, 0) 2 = -1) : ScA h' := by
  unfold ScA
  rw [e.2.2.2.2 0 0 10 rfl, e.2.2.2.2 0 0 12 rfl, e.2.2.2.2 0 0 13 rfl, e.2.2.2.2 0 0 15 rfl, e.2.2.2.2 32 0 3 rfl, e.2.2.2.2 32 0 4 rfl, e.2.2.2.2 32 0 23 rfl, e.2.2.2.2 32 0 49 rfl, e1, e2, e3, if_neg hk]
  exact ⟨s.1, s.2.1, s.2.2.1, rfl, s.2.2.2.2.1, rfl⟩
theorem mT_1 (h : Hp) (w : Int32) : vi (mT h w) (32, 0) 1 = w := by unfold mT; rw [vi_sI_nk _ _ _ (by decide), vi_sI_eq]
theorem mT_2 (h : Hp) (w : Int32) : vi (mT h w) (32, 0) 2 = -1 := by unfold mT; rw [vi_sI_eq]
theorem mT_x (h : Hp) (w : Int32) (f : Nat) : vi (mT h w) (0, 0) f = vi h (0, 0) f := by unfold mT; rw [vi_sI_ne _ _ _ _ (by decide), vi_sI_ne _ _ _ _ (by decide)]
theorem xT_14 (h : Hp) (w : Int32) : vi (xT h w) (0, 0) 14 = w := by unfold xT; rw [vi_sI_eq]
def f14 : Fpt := (fun _ => false, fun _ => false, fun _ => false, fun _ => false, fun p i f => p == 0)
def fX10 : Fpt := (fun p => Nat.blt p 32, fun p => Nat.blt p 32, fun p => Nat.blt p 32 && !(p == 15) && !(p == 10), fun _ => false, fun p i f => p == 7 || (p == 9 && f == 6) || (p == 8 && f == 4) || (p == 11 && f == 1) || (p == 5 && f == 1))
theorem xR10 : ∀ z ∈ xR, fX10.2.2.1 z.1.1.1 = true := by decide
theorem XI_congrR {h h' : Hp} (e : Eqv fX10 h h') (hr : ∀ r, r < cn h 10 → ∀ a, vr h' (10, r) 1 = some a → a.1 = 11 ∧ a.2 < cn h 11) (x : XI h) : XI h' := by
  obtain ⟨x1, ⟨a0, a1, a2, a3, a4⟩, x3, x4, x5, x6, x7, x8, x9⟩ := x
  have al : ∀ {j q n : Nat}, AL h j q n → AL h' j q n := by
    intro j q n a
    obtain ⟨e1, e2, e3, -, e5⟩ := e
    obtain ⟨a1, a2, a3⟩ := a
    refine ⟨by rw [e5 7 j 2 rfl]; exact a1, a2, ?_⟩
    rcases a3 with ⟨z1, z2⟩ | ⟨x, z1, z2, z3, z4, z5, z6⟩
    · exact Or.inl ⟨z1, by rw [e3 7 j 1 rfl]; exact z2⟩
    · exact Or.inr ⟨x, by rw [e3 7 j 1 rfl]; exact z1, by rw [e1 16 rfl]; exact z2, by rw [e2 16 x rfl]; exact z3, by rw [e2 16 x rfl]; exact z4, by rw [e2 16 x rfl]; exact z5, fun i hi => by rw [e3 16 x i rfl]; exact z6 i hi⟩
  have c8 : cn h' 8 = cn h 8 := e.1 8 rfl
  have c9 : cn h' 9 = cn h 9 := e.1 9 rfl
  have c10 : cn h' 10 = cn h 10 := e.1 10 rfl
  have c11 : cn h' 11 = cn h 11 := e.1 11 rfl
  have c12 : cn h' 12 = cn h 12 := e.1 12 rfl
  have c17 : cn h' 17 = cn h 17 := e.1 17 rfl
  have c18 : cn h' 18 = cn h 18 := e.1 18 rfl
  have c19 : cn h' 19 = cn h 19 := e.1 19 rfl
  refine ⟨⟨fun z hz => by rw [e.1 _ (xC32 z hz)]; exact x1.1 z hz, fun z hz => (e.2.1 z.1.1 z.1.2 (xLn32 z hz)).trans (x1.2.1 z hz), fun z hz => (e.2.2.1 z.1.1.1 z.1.1.2 z.1.2 (xR10 z hz)).trans (x1.2.2 z hz)⟩, ⟨by rw [c8]; exact al a0, by rw [c9]; exact al a1, by rw [c10]; exact al a2, by rw [c11]; exact al a3, by rw [c12]; exact al a4⟩, ?_, ?_, by rw [c17, c8, c18, c19, c9]; exact x5, by rw [c8, c9, c10, c11, c12]; exact x6, ?_, ?_, ?_⟩
  · intro p hp
    rw [c9] at hp
    rw [c18, c19, e.2.1 18 p rfl, e.2.1 19 p rfl, e.2.2.1 9 p 4 rfl, e.2.2.1 9 p 5 rfl, e.2.2.2.2 9 p 6 rfl]
    exact x3 p hp
  · intro c hc
    rw [c8] at hc
    rw [c17, e.2.1 17 c rfl, e.2.2.1 8 c 5 rfl, e.2.2.2.2 8 c 4 rfl]
    exact x4 c hc
  · intro r hr2 a ha
    rw [c10] at hr2
    rw [c11]
    exact hr r hr2 a ha
  · intro s hs
    rw [c11] at hs
    rw [c9, e.2.2.2.2 11 s 1 rfl]
    exact x8 s hs
  · rw [e.2.2.2.2 5 0 1 rfl]; exact x9
/-- what emptying a room leaves -/
def fEm : Fpt := (fun _ => true, fun _ => true, fun p => !(p == 10), fun _ => true, fun p i f => !(p == 9 && (f == 7 || f == 8 || f == 9)) && !(p == 11 && f == 3) && !(p == 38 && (i == 16 || i == 11 || i == 6 || i == 4 || i == 3)) && !(p == 0 && f == 14) && !(p == 32 && (f == 0 || f == 1 || f == 2)))
theorem PeR_em {h h' : Hp} (pe : PeR h) (q : Eqv fEm h h') {j : Nat} (hj : j < cn h 9) (g7 : ∀ p, p < cn h 9 → (vi h' (9, p) 7 = 2147483647 ∧ vi h' (38, 3) p = -1) ∨ ∃ u, u ≤ 40000 ∧ vi h' (9, p) 7 = nI u ∧ vi h' (38, 3) p = nI u) (g8 : ∀ p, p < cn h 9 → vi h' (9, p) 8 = vi h' (38, 6) p) (g9 : ∀ p, p < cn h 9 → vi h' (9, p) 9 = vi h' (38, 4) p) (m4 : ∀ p, p ≠ j → vi h' (38, 4) p = vi h (38, 4) p) : PeR h' := by
  have c9 : cn h' 9 = cn h 9 := q.1 9 rfl
  have v := q.2.2.2.2
  refine ⟨by rw [c9, v 32 0 22 rfl]; exact pe.1, by rw [c9]; exact pe.2.1, fun p hp => ?_, fun p hp hp2 => ?_⟩
  · rw [c9] at hp
    obtain ⟨⟨b0, b1, b2, b3, b7, b8, b9, b10, b6, bm⟩, a2⟩ := pe.2.2.1 p hp
    refine ⟨⟨?_, ?_, ?_, ?_, g7 p hp, g8 p hp, g9 p hp, ?_, ?_, fun i hi => ⟨?_, ?_⟩⟩, ⟨?_, ?_, ?_, fun i hi => ⟨?_, ?_⟩⟩⟩
    · rw [v 9 p 0 rfl, v 38 0 p rfl]; exact b0
    · rw [v 9 p 1 rfl, v 38 1 p rfl]; exact b1
    · rw [v 9 p 2 rfl, v 39 0 p rfl]; exact b2
    · rw [v 9 p 3 rfl, v 38 2 p rfl]; exact b3
    · rw [v 9 p 10 rfl, v 38 5 p rfl]; exact b10
    · rw [v 9 p 6 rfl, v 38 7 p rfl]; exact b6
    · rw [v 18 p i rfl, v 38 8 _ rfl]; exact (bm i hi).1
    · rw [v 19 p i rfl, v 38 9 _ rfl]; exact (bm i hi).2
    · rw [v 9 p 0 rfl]; exact a2.1
    · rw [v 9 p 1 rfl]; exact a2.2.1
    · rw [v 9 p 3 rfl]; exact a2.2.2.1
    · rw [v 18 p i rfl]; exact (a2.2.2.2 i hi).1
    · rw [v 19 p i rfl]; exact (a2.2.2.2 i hi).2
  · rw [c9] at hp
    obtain ⟨a1, a2, a3, a4⟩ := pe.2.2.2 p hp hp2
    exact ⟨by rw [m4 p (by omega)]; exact a1, by rw [v 38 5 p rfl]; exact a2, by rw [v 38 7 p rfl]; exact a3, fun i hi => ⟨by rw [v 38 8 _ rfl]; exact (a4 i hi).1, by rw [v 38 9 _ rfl]; exact (a4 i hi).2⟩⟩
theorem RoR_em {h h' : Hp} (ro : RoR h) (le : cn h 10 ≤ 20 ∧ cn h 11 ≤ 100 ∧ cn h 9 ≤ 40) (q : Eqv fEm h h') {r0 s0 q0 T : Nat} (hr0 : r0 < cn h 10) (hq0 : q0 < cn h 9) (hT : T ≤ 40000) (eT : vi h (0, 0) 13 = nI T) (e1 : vr h (10, r0) 1 = some (11, s0)) (e2 : vi h (11, s0) 1 = nI q0)
    (g10 : ∀ r, vr h' (10, r) 1 = if r = r0 then none else vr h (10, r) 1) (g3 : ∀ s, vi h' (11, s) 3 = if s = s0 then nI T else vi h (11, s) 3) (g8 : ∀ p, vi h' (9, p) 8 = if p = q0 then -1 else vi h (9, p) 8) (g9 : ∀ p, vi h' (9, p) 9 = if p = q0 then 0 else vi h (9, p) 9) (m11 : ∀ r, vi h' (38, 11) r = if r = r0 then -1 else vi h (38, 11) r) (m16 : ∀ s, vi h' (38, 16) s = if s = s0 then nI T else vi h (38, 16) s) : RoR h' := by
  obtain ⟨x1, x2, x3, x4, x5, x6⟩ := ro
  have c9 : cn h' 9 = cn h 9 := q.1 9 rfl
  have c10 : cn h' 10 = cn h 10 := q.1 10 rfl
  have c11 : cn h' 11 = cn h 11 := q.1 11 rfl
  have v := q.2.2.2.2
  obtain ⟨s0', p0', hs0, hp0, f1, f2, f3, f4, f5, f6⟩ := (x3 r0 hr0).2.2.resolve_left (fun z => by rw [z.1] at e1; cases e1)
  have es : s0' = s0 := by rw [e1] at f1; cases f1; rfl
  subst es
  have ep : p0' = q0 := (nI_eq (by omega) (by omega)).mp (f5.symm.trans e2)
  subst ep
  -- a room that isn't r0: its stay isn't s0, its person isn't p0'
  have oth : ∀ r s p, r < cn h 10 → r ≠ r0 → vr h (10, r) 1 = some (11, s) → vi h (11, s) 0 = nI r → vi h (9, p) 8 = nI r → s ≠ s0' ∧ p ≠ p0' := by
    intro r s p hr hne z1 z2 z3
    refine ⟨fun y => hne ?_, fun y => hne ?_⟩
    · rw [y, f3] at z2; exact (nI_eq (by omega) (by omega)).mp z2.symm
    · rw [y, f6] at z3; exact (nI_eq (by omega) (by omega)).mp z3.symm
  refine ⟨by rw [c10, v 32 0 36 rfl]; exact x1, by rw [c11, v 32 0 37 rfl]; exact x2, fun r hr => ?_, fun s hs => ?_, fun s s' hss hs' => ?_, fun p hp => ?_⟩
  · rw [c10] at hr
    obtain ⟨y1, y2, y3⟩ := x3 r hr
    refine ⟨by rw [v 10 r 0 rfl, v 38 10 r rfl]; exact y1, by rw [v 10 r 2 rfl, v 38 12 r rfl]; exact y2, ?_⟩
    by_cases hne : r = r0
    · exact Or.inl ⟨by rw [g10, if_pos hne], by rw [m11, if_pos hne]⟩
    · rcases y3 with ⟨z1, z2⟩ | ⟨s, p, k1, k2, z1, z2, z3, z4, z5, z6⟩
      · exact Or.inl ⟨by rw [g10, if_neg hne]; exact z1, by rw [m11, if_neg hne]; exact z2⟩
      · obtain ⟨o1, o2⟩ := oth r s p hr hne z1 z3 z6
        exact Or.inr ⟨s, p, by rw [c11]; exact k1, by rw [c9]; exact k2, by rw [g10, if_neg hne]; exact z1, by rw [m11, if_neg hne]; exact z2, by rw [v 11 s 0 rfl]; exact z3, by rw [g3, if_neg o1]; exact z4, by rw [v 11 s 1 rfl]; exact z5, by rw [g8, if_neg o2]; exact z6⟩
  · rw [c11] at hs
    obtain ⟨y1, y2, y3, ⟨ra, hra, era⟩, ⟨tf, htf, etf, btf⟩, y6⟩ := x4 s hs
    refine ⟨by rw [v 11 s 0 rfl, v 38 13 s rfl]; exact y1, by rw [v 11 s 1 rfl, v 38 14 s rfl]; exact y2, by rw [v 11 s 2 rfl, v 38 15 s rfl]; exact y3, ⟨ra, by rw [c10]; exact hra, by rw [v 11 s 0 rfl]; exact era⟩, ⟨tf, htf, by rw [v 11 s 2 rfl]; exact etf, by rw [v 0 0 13 rfl]; exact btf⟩, ?_⟩
    by_cases hne : s = s0'
    · refine Or.inr ⟨T, hT, by rw [g3, if_pos hne], by rw [m16, if_pos hne], fun u hu hu2 => ?_⟩
      rw [v 0 0 13 rfl, eT] at hu
      have := (nI_eq (by omega) (by omega)).mp hu
      omega
    · rcases y6 with ⟨z1, z2, r, hr, z3, z4⟩ | ⟨t, ht, z1, z2, z3⟩
      · have rne : r ≠ r0 := fun y => by rw [y, e1] at z4; cases z4; exact hne rfl
        exact Or.inl ⟨by rw [g3, if_neg hne]; exact z1, by rw [m16, if_neg hne]; exact z2, r, by rw [c10]; exact hr, by rw [v 11 s 0 rfl]; exact z3, by rw [g10, if_neg rne]; exact z4⟩
      · exact Or.inr ⟨t, ht, by rw [g3, if_neg hne]; exact z1, by rw [m16, if_neg hne]; exact z2, by rw [v 0 0 13 rfl]; exact z3⟩
  · rw [c11] at hs'
    intro z
    rw [v 11 s 0 rfl, v 11 s' 0 rfl] at z
    have old := x5 s s' hss hs' z
    rw [v 11 s' 2 rfl, g3]
    by_cases hne : s = s0'
    · exfalso
      rw [hne, f4] at old
      obtain ⟨-, -, -, -, ⟨tf, htf, etf, -⟩, -⟩ := x4 s' hs'
      rw [etf] at old
      exact Int32.not_le.mpr (nI_lt (a := tf) (b := 2147483647) (by omega) (by decide)) old
    · rw [if_neg hne]; exact old
  · rw [c9] at hp
    by_cases hne : p = p0'
    · exact Or.inl ⟨by rw [g8, if_pos hne], by rw [g9, if_pos hne]⟩
    · rcases x6 p hp with ⟨z1, z2⟩ | ⟨r, s, hr, hs, z1, z2, z3⟩
      · exact Or.inl ⟨by rw [g8, if_neg hne]; exact z1, by rw [g9, if_neg hne]; exact z2⟩
      · have rne : r ≠ r0 := fun y => by
          rw [y, e1] at z2; cases z2
          exact hne ((nI_eq (by omega) (by omega)).mp (z3.symm.trans f5))
        exact Or.inr ⟨r, s, by rw [c10]; exact hr, by rw [c11]; exact hs, by rw [g8, if_neg hne]; exact z1, by rw [g10, if_neg rne]; exact z2, by rw [v 11 s 1 rfl]; exact z3⟩
theorem MJ_11 {h : Hp} (m : MJ h) (r : Nat) : MJ (sI h (38, 11) r (-1)) := by
  refine ⟨m.1, m.2.1, fun q hq => ?_, m.2.2.2.1, m.2.2.2.2⟩
  by_cases z : q = r
  · subst z; exact Or.inl (vi_sI_eq _ _ _ _)
  · rw [vi_sI_nk _ _ _ z]; exact m.2.2.1 q hq
theorem MJ_6 {h : Hp} (m : MJ h) (r : Nat) : MJ (sI h (38, 6) r (-1)) := by
  refine ⟨m.1, m.2.1, m.2.2.1, m.2.2.2.1, fun q hq => ?_⟩
  by_cases z : q = r
  · subst z; exact Or.inl (vi_sI_eq _ _ _ _)
  · rw [vi_sI_nk _ _ _ z]; exact m.2.2.2.2 q hq
theorem upR (p i k f : Nat) (x y : Option Ad) : (if ((p, i) : Ad) = (p, k) ∧ f = f then x else y) = if i = k then x else y := by
  by_cases z : i = k
  · rw [if_pos z, if_pos ⟨by rw [z], rfl⟩]
  · rw [if_neg z, if_neg (fun w => z (by have := w.1; cases this; rfl))]
/-- the heap when a room has been left, on both sides -/
def lvX (h : Hp) (r s q T : Nat) : Hp := xT (sR (sI (sI (sI h (9, q) 8 (-1)) (9, q) 9 0) (11, s) 3 (nI T)) (10, r) 1 none) 0
def lvM (h : Hp) (r s q T : Nat) : Hp := mT (sI (sI (sI (sI (mZ h) (38, 16) s (nI T)) (38, 11) r (-1)) (38, 6) q (-1)) (38, 4) q 0) 0

theorem vr_sR_ne (h : Hp) {a b : Ad} (k : Nat) (x : Option Ad) (j : Nat) (hb : b ≠ a) : vr (sR h a k x) b j = vr h b j := by rw [vr_sR, if_neg (fun z => hb z.1)]
theorem lv_g8 (h : Hp) (j s q T : Nat) (p : Nat) : vi (lvM (lvX h j s q T) j s q T) (9, p) 8 = if p = q then -1 else vi h (9, p) 8 := by unfold lvM lvX mT mZ xT; rw [vi_sI_ne _ _ _ _ (fun z => (by cases z)), vi_sI_ne _ _ _ _ (fun z => (by cases z)), vi_sI_ne _ _ _ _ (fun z => (by cases z)), vi_sI_ne _ _ _ _ (fun z => (by cases z)), vi_sI_ne _ _ _ _ (fun z => (by cases z)), vi_sI_ne _ _ _ _ (fun z => (by cases z)), vi_sI_ne _ _ _ _ (fun z => (by cases z)), vi_sI_ne _ _ _ _ (fun z => (by cases z)), vi_sR, vi_sI_ne _ _ _ _ (fun z => (by cases z)), vi_sI_nk _ _ _ (by decide), vi_sI, upC]
theorem lv_g9 (h : Hp) (j s q T : Nat) (p : Nat) : vi (lvM (lvX h j s q T) j s q T) (9, p) 9 = if p = q then 0 else vi h (9, p) 9 := by unfold lvM lvX mT mZ xT; rw [vi_sI_ne _ _ _ _ (fun z => (by cases z)), vi_sI_ne _ _ _ _ (fun z => (by cases z)), vi_sI_ne _ _ _ _ (fun z => (by cases z)), vi_sI_ne _ _ _ _ (fun z => (by cases z)), vi_sI_ne _ _ _ _ (fun z => (by cases z)), vi_sI_ne _ _ _ _ (fun z => (by cases z)), vi_sI_ne _ _ _ _ (fun z => (by cases z)), vi_sI_ne _ _ _ _ (fun z => (by cases z)), vi_sR, vi_sI_ne _ _ _ _ (fun z => (by cases z)), vi_sI, upC, vi_sI_nk _ _ _ (by decide)]
theorem lv_m6 (h : Hp) (j s q T : Nat) (p : Nat) : vi (lvM (lvX h j s q T) j s q T) (38, 6) p = if p = q then -1 else vi h (38, 6) p := by unfold lvM lvX mT mZ xT; rw [vi_sI_ne _ _ _ _ (fun z => (by cases z)), vi_sI_ne _ _ _ _ (fun z => (by cases z)), vi_sI_ne _ _ _ _ (fun z => (by cases z)), vi_sI, upB, vi_sI_ne _ _ _ _ (fun z => (by cases z)), vi_sI_ne _ _ _ _ (fun z => (by cases z)), vi_sI_ne _ _ _ _ (fun z => (by cases z)), vi_sI_ne _ _ _ _ (fun z => (by cases z)), vi_sR, vi_sI_ne _ _ _ _ (fun z => (by cases z)), vi_sI_ne _ _ _ _ (fun z => (by cases z)), vi_sI_ne _ _ _ _ (fun z => (by cases z))]
theorem lv_m4 (h : Hp) (j s q T : Nat) (p : Nat) : vi (lvM (lvX h j s q T) j s q T) (38, 4) p = if p = q then 0 else vi h (38, 4) p := by unfold lvM lvX mT mZ xT; rw [vi_sI_ne _ _ _ _ (fun z => (by cases z)), vi_sI_ne _ _ _ _ (fun z => (by cases z)), vi_sI, upB, vi_sI_ne _ _ _ _ (fun z => (by cases z)), vi_sI_ne _ _ _ _ (fun z => (by cases z)), vi_sI_ne _ _ _ _ (fun z => (by cases z)), vi_sI_ne _ _ _ _ (fun z => (by cases z)), vi_sI_ne _ _ _ _ (fun z => (by cases z)), vi_sR, vi_sI_ne _ _ _ _ (fun z => (by cases z)), vi_sI_ne _ _ _ _ (fun z => (by cases z)), vi_sI_ne _ _ _ _ (fun z => (by cases z))]
theorem lv_g10 (h : Hp) (j s q T : Nat) (p : Nat) : vr (lvM (lvX h j s q T) j s q T) (10, p) 1 = if p = j then none else vr h (10, p) 1 := by unfold lvM lvX mT mZ xT; rw [vr_sI, vr_sI, vr_sI, vr_sI, vr_sI, vr_sI, vr_sI, vr_sI, vr_sR, upR, vr_sI, vr_sI, vr_sI]
theorem lv_g3 (h : Hp) (j s q T : Nat) (p : Nat) : vi (lvM (lvX h j s q T) j s q T) (11, p) 3 = if p = s then nI T else vi h (11, p) 3 := by unfold lvM lvX mT mZ xT; rw [vi_sI_ne _ _ _ _ (fun z => (by cases z)), vi_sI_ne _ _ _ _ (fun z => (by cases z)), vi_sI_ne _ _ _ _ (fun z => (by cases z)), vi_sI_ne _ _ _ _ (fun z => (by cases z)), vi_sI_ne _ _ _ _ (fun z => (by cases z)), vi_sI_ne _ _ _ _ (fun z => (by cases z)), vi_sI_ne _ _ _ _ (fun z => (by cases z)), vi_sI_ne _ _ _ _ (fun z => (by cases z)), vi_sR, vi_sI, upC, vi_sI_ne _ _ _ _ (fun z => (by cases z)), vi_sI_ne _ _ _ _ (fun z => (by cases z))]
theorem lv_m11 (h : Hp) (j s q T : Nat) (p : Nat) : vi (lvM (lvX h j s q T) j s q T) (38, 11) p = if p = j then -1 else vi h (38, 11) p := by unfold lvM lvX mT mZ xT; rw [vi_sI_ne _ _ _ _ (fun z => (by cases z)), vi_sI_ne _ _ _ _ (fun z => (by cases z)), vi_sI_ne _ _ _ _ (fun z => (by cases z)), vi_sI_ne _ _ _ _ (fun z => (by cases z)), vi_sI, upB, vi_sI_ne _ _ _ _ (fun z => (by cases z)), vi_sI_ne _ _ _ _ (fun z => (by cases z)), vi_sI_ne _ _ _ _ (fun z => (by cases z)), vi_sR, vi_sI_ne _ _ _ _ (fun z => (by cases z)), vi_sI_ne _ _ _ _ (fun z => (by cases z)), vi_sI_ne _ _ _ _ (fun z => (by cases z))]
theorem lv_m16 (h : Hp) (j s q T : Nat) (p : Nat) : vi (lvM (lvX h j s q T) j s q T) (38, 16) p = if p = s then nI T else vi h (38, 16) p := by unfold lvM lvX mT mZ xT; rw [vi_sI_ne _ _ _ _ (fun z => (by cases z)), vi_sI_ne _ _ _ _ (fun z => (by cases z)), vi_sI_ne _ _ _ _ (fun z => (by cases z)), vi_sI_ne _ _ _ _ (fun z => (by cases z)), vi_sI_ne _ _ _ _ (fun z => (by cases z)), vi_sI, upB, vi_sI_ne _ _ _ _ (fun z => (by cases z)), vi_sI_ne _ _ _ _ (fun z => (by cases z)), vi_sR, vi_sI_ne _ _ _ _ (fun z => (by cases z)), vi_sI_ne _ _ _ _ (fun z => (by cases z)), vi_sI_ne _ _ _ _ (fun z => (by cases z))]
theorem lv_g7 (h : Hp) (j s q T : Nat) (p : Nat) : vi (lvM (lvX h j s q T) j s q T) (9, p) 7 = vi h (9, p) 7 := by unfold lvM lvX mT mZ xT; rw [vi_sI_ne _ _ _ _ (fun z => (by cases z)), vi_sI_ne _ _ _ _ (fun z => (by cases z)), vi_sI_ne _ _ _ _ (fun z => (by cases z)), vi_sI_ne _ _ _ _ (fun z => (by cases z)), vi_sI_ne _ _ _ _ (fun z => (by cases z)), vi_sI_ne _ _ _ _ (fun z => (by cases z)), vi_sI_ne _ _ _ _ (fun z => (by cases z)), vi_sI_ne _ _ _ _ (fun z => (by cases z)), vi_sR, vi_sI_ne _ _ _ _ (fun z => (by cases z)), vi_sI_nk _ _ _ (by decide), vi_sI_nk _ _ _ (by decide)]
theorem lv_m3 (h : Hp) (j s q T : Nat) (p : Nat) : vi (lvM (lvX h j s q T) j s q T) (38, 3) p = vi h (38, 3) p := by unfold lvM lvX mT mZ xT; rw [vi_sI_ne _ _ _ _ (fun z => (by cases z)), vi_sI_ne _ _ _ _ (fun z => (by cases z)), vi_sI_ne _ _ _ _ (fun z => (by cases z)), vi_sI_ne _ _ _ _ (fun z => (by cases z)), vi_sI_ne _ _ _ _ (fun z => (by cases z)), vi_sI_ne _ _ _ _ (fun z => (by cases z)), vi_sI_ne _ _ _ _ (fun z => (by cases z)), vi_sI_ne _ _ _ _ (fun z => (by cases z)), vi_sR, vi_sI_ne _ _ _ _ (fun z => (by cases z)), vi_sI_ne _ _ _ _ (fun z => (by cases z)), vi_sI_ne _ _ _ _ (fun z => (by cases z))]
theorem lv_e14 (h : Hp) (j s q T : Nat) (p : Nat) : vi (lvM (lvX h j s q T) j s q T) (0, 0) 14 = 0 := by unfold lvM lvX mT mZ xT; rw [vi_sI_ne _ _ _ _ (fun z => (by cases z)), vi_sI_ne _ _ _ _ (fun z => (by cases z)), vi_sI_ne _ _ _ _ (fun z => (by cases z)), vi_sI_ne _ _ _ _ (fun z => (by cases z)), vi_sI_ne _ _ _ _ (fun z => (by cases z)), vi_sI_ne _ _ _ _ (fun z => (by cases z)), vi_sI_ne _ _ _ _ (fun z => (by cases z)), vi_sI_eq]
theorem lv_fEm (h : Hp) (j s q T : Nat) : Eqv fEm h (lvM (lvX h j s q T) j s q T) := (Eqv.sI (Eqv.sI (Eqv.sI (Eqv.sI (Eqv.sI (Eqv.sI (Eqv.sI (Eqv.sI (Eqv.sR (Eqv.sI (Eqv.sI (Eqv.sI (Eqv.rf _) Bool.false_ne_true) Bool.false_ne_true) Bool.false_ne_true) Bool.false_ne_true) Bool.false_ne_true) Bool.false_ne_true) Bool.false_ne_true) Bool.false_ne_true) Bool.false_ne_true) Bool.false_ne_true) Bool.false_ne_true) Bool.false_ne_true)
theorem lv_fX10 (h : Hp) (j s q T : Nat) : Eqv fX10 h (lvM (lvX h j s q T) j s q T) := (Eqv.sI (Eqv.sI (Eqv.sI (Eqv.sI (Eqv.sI (Eqv.sI (Eqv.sI (Eqv.sI (Eqv.sR (Eqv.sI (Eqv.sI (Eqv.sI (Eqv.rf _) Bool.false_ne_true) Bool.false_ne_true) Bool.false_ne_true) Bool.false_ne_true) Bool.false_ne_true) Bool.false_ne_true) Bool.false_ne_true) Bool.false_ne_true) Bool.false_ne_true) Bool.false_ne_true) Bool.false_ne_true) Bool.false_ne_true)
theorem lv_fLD (h : Hp) (j s q T : Nat) : Eqv fLD h (lvM (lvX h j s q T) j s q T) := (Eqv.sI (Eqv.sI (Eqv.sI (Eqv.sI (Eqv.sI (Eqv.sI (Eqv.sI (Eqv.sI (Eqv.sR (Eqv.sI (Eqv.sI (Eqv.sI (Eqv.rf _) Bool.false_ne_true) Bool.false_ne_true) Bool.false_ne_true) Bool.false_ne_true) Bool.false_ne_true) Bool.false_ne_true) Bool.false_ne_true) Bool.false_ne_true) Bool.false_ne_true) Bool.false_ne_true) Bool.false_ne_true) Bool.false_ne_true)
theorem lv_fSk (h : Hp) (j s q T : Nat) : Eqv fSk h (lvM (lvX h j s q T) j s q T) := (Eqv.sI (Eqv.sI (Eqv.sI (Eqv.sI (Eqv.sI (Eqv.sI (Eqv.sI (Eqv.sI (Eqv.sR (Eqv.sI (Eqv.sI (Eqv.sI (Eqv.rf _) Bool.false_ne_true) Bool.false_ne_true) Bool.false_ne_true) Bool.false_ne_true) Bool.false_ne_true) Bool.false_ne_true) Bool.false_ne_true) Bool.false_ne_true) Bool.false_ne_true) Bool.false_ne_true) Bool.false_ne_true) Bool.false_ne_true)
theorem lv_fTa (h : Hp) (j s q T : Nat) : Eqv fTa h (lvM (lvX h j s q T) j s q T) := (Eqv.sI (Eqv.sI (Eqv.sI (Eqv.sI (Eqv.sI (Eqv.sI (Eqv.sI (Eqv.sI (Eqv.sR (Eqv.sI (Eqv.sI (Eqv.sI (Eqv.rf _) Bool.false_ne_true) Bool.false_ne_true) Bool.false_ne_true) Bool.false_ne_true) Bool.false_ne_true) Bool.false_ne_true) Bool.false_ne_true) Bool.false_ne_true) Bool.false_ne_true) Bool.false_ne_true) Bool.false_ne_true) Bool.false_ne_true)
theorem lv_fPa (h : Hp) (j s q T : Nat) : Eqv fPa h (lvM (lvX h j s q T) j s q T) := (Eqv.sI (Eqv.sI (Eqv.sI (Eqv.sI (Eqv.sI (Eqv.sI (Eqv.sI (Eqv.sI (Eqv.sR (Eqv.sI (Eqv.sI (Eqv.sI (Eqv.rf _) Bool.false_ne_true) Bool.false_ne_true) Bool.false_ne_true) Bool.false_ne_true) Bool.false_ne_true) Bool.false_ne_true) Bool.false_ne_true) Bool.false_ne_true) Bool.false_ne_true) Bool.false_ne_true) Bool.false_ne_true) Bool.false_ne_true)
theorem lv_fTr (h : Hp) (j s q T : Nat) : Eqv fTr h (lvM (lvX h j s q T) j s q T) := (Eqv.sI (Eqv.sI (Eqv.sI (Eqv.sI (Eqv.sI (Eqv.sI (Eqv.sI (Eqv.sI (Eqv.sR (Eqv.sI (Eqv.sI (Eqv.sI (Eqv.rf _) Bool.false_ne_true) Bool.false_ne_true) Bool.false_ne_true) Bool.false_ne_true) Bool.false_ne_true) Bool.false_ne_true) Bool.false_ne_true) Bool.false_ne_true) Bool.false_ne_true) Bool.false_ne_true) Bool.false_ne_true) Bool.false_ne_true)
theorem lv_fLa (h : Hp) (j s q T : Nat) : Eqv fLa h (lvM (lvX h j s q T) j s q T) := (Eqv.sI (Eqv.sI (Eqv.sI (Eqv.sI (Eqv.sI (Eqv.sI (Eqv.sI (Eqv.sI (Eqv.sR (Eqv.sI (Eqv.sI (Eqv.sI (Eqv.rf _) Bool.false_ne_true) Bool.false_ne_true) Bool.false_ne_true) Bool.false_ne_true) Bool.false_ne_true) Bool.false_ne_true) Bool.false_ne_true) Bool.false_ne_true) Bool.false_ne_true) Bool.false_ne_true) Bool.false_ne_true) Bool.false_ne_true)
theorem lv_fCs (h : Hp) (j s q T : Nat) : Eqv fCs h (lvM (lvX h j s q T) j s q T) := (Eqv.sI (Eqv.sI (Eqv.sI (Eqv.sI (Eqv.sI (Eqv.sI (Eqv.sI (Eqv.sI (Eqv.sR (Eqv.sI (Eqv.sI (Eqv.sI (Eqv.rf _) Bool.false_ne_true) Bool.false_ne_true) Bool.false_ne_true) Bool.false_ne_true) Bool.false_ne_true) Bool.false_ne_true) Bool.false_ne_true) Bool.false_ne_true) Bool.false_ne_true) Bool.false_ne_true) Bool.false_ne_true) Bool.false_ne_true)
theorem lv_fSR (h : Hp) (j s q T : Nat) : Eqv fSR h (lvM (lvX h j s q T) j s q T) := (Eqv.sI (Eqv.sI (Eqv.sI (Eqv.sI (Eqv.sI (Eqv.sI (Eqv.sI (Eqv.sI (Eqv.sR (Eqv.sI (Eqv.sI (Eqv.sI (Eqv.rf _) Bool.false_ne_true) Bool.false_ne_true) Bool.false_ne_true) Bool.false_ne_true) Bool.false_ne_true) Bool.false_ne_true) Bool.false_ne_true) Bool.false_ne_true) Bool.false_ne_true) Bool.false_ne_true) Bool.false_ne_true) Bool.false_ne_true)
def fCn0 : Fpt := (fun _ => true, fun _ => false, fun _ => false, fun _ => false, fun _ _ _ => false)
theorem lv_cn (h : Hp) (j s q T : Nat) : cn (lvM (lvX h j s q T) j s q T) = cn h := funext fun p => (show Eqv fCn0 h (lvM (lvX h j s q T) j s q T) from (Eqv.sI (Eqv.sI (Eqv.sI (Eqv.sI (Eqv.sI (Eqv.sI (Eqv.sI (Eqv.sI (Eqv.sR (Eqv.sI (Eqv.sI (Eqv.sI (Eqv.rf _) Bool.false_ne_true) Bool.false_ne_true) Bool.false_ne_true) Bool.false_ne_true) Bool.false_ne_true) Bool.false_ne_true) Bool.false_ne_true) Bool.false_ne_true) Bool.false_ne_true) Bool.false_ne_true) Bool.false_ne_true) Bool.false_ne_true)).1 p rfl
theorem RR_lv {h : Hp} (r : RR h) {j s q T : Nat} (hj : j < cn h 10) (hq : q < cn h 9) (hT : T ≤ 40000) (eT : vi h (0, 0) 13 = nI T) (e1 : vr h (10, j) 1 = some (11, s)) (e2 : vi h (11, s) 1 = nI q) : RR (lvM (lvX h j s q T) j s q T) := by
  have le := r.1.le
  have qe := lv_fEm h j s q T
  have p1 := fun p (hp : p < cn h 9) => (r.2.2.2.2.2.1.2.2.1 p hp).1
  have mj1 : MJ (sI (mZ (lvX h j s q T)) (38, 16) s (nI T)) := MJ_congr (h := h) (Eqv.sI (Eqv.sI (Eqv.sI (Eqv.sR (Eqv.sI (Eqv.sI (Eqv.sI (Eqv.rf _) Bool.false_ne_true) Bool.false_ne_true) Bool.false_ne_true) Bool.false_ne_true) Bool.false_ne_true) Bool.false_ne_true) Bool.false_ne_true) r.2.2.1
  have mj2 := MJ_6 (MJ_11 mj1 j) q
  have mj3 : MJ (lvM (lvX h j s q T) j s q T) := MJ_congr (Eqv.sI (Eqv.sI (Eqv.sI (Eqv.rf _) Bool.false_ne_true) Bool.false_ne_true) Bool.false_ne_true) mj2
  refine ⟨XI_congrR (lv_fX10 h j s q T) ?_ r.1, LD_congr (lv_fLD h j s q T) r.2.1, mj3, ScA_k r.2.2.2.1 (lv_fSk h j s q T) 0 (by decide) (lv_e14 h j s q T 0) (mT_1 _ _) (mT_2 _ _), TaR_congr (lv_fTa h j s q T) r.2.2.2.2.1, PeR_em r.2.2.2.2.2.1 qe hq ?_ ?_ ?_ ?_, PaR_congr (lv_fPa h j s q T) r.2.2.2.2.2.2.1, RoR_em r.2.2.2.2.2.2.2.1 ⟨le.2.2.1, le.2.2.2.1, le.2.1⟩ qe hj hq hT eT e1 e2 (lv_g10 h j s q T) (lv_g3 h j s q T) (lv_g8 h j s q T) (lv_g9 h j s q T) (lv_m11 h j s q T) (lv_m16 h j s q T), TrR_congr (lv_fTr h j s q T) r.2.2.2.2.2.2.2.2.1, LaR_congr (lv_fLa h j s q T) r.2.2.2.2.2.2.2.2.2.1, CsR_congr (lv_fCs h j s q T) r.2.2.2.2.2.2.2.2.2.2.1, SR_congr (lv_fSR h j s q T) r.2.2.2.2.2.2.2.2.2.2.2⟩
  · intro r2 hr2 a ha
    rw [lv_g10] at ha
    split at ha
    · cases ha
    · exact r.1.rs r2 hr2 a ha
  · intro p hp; rw [lv_g7, lv_m3]; exact (p1 p hp).2.2.2.2.1
  · intro p hp; rw [lv_g8, lv_m6, (p1 p hp).2.2.2.2.2.1]
  · intro p hp; rw [lv_g9, lv_m4, (p1 p hp).2.2.2.2.2.2.1]
  · intro p hp; rw [lv_m4, if_neg hp]
theorem lvX_fMJ (h : Hp) (j s q T : Nat) : Eqv fMJ h (lvX h j s q T) := (Eqv.sI (Eqv.sR (Eqv.sI (Eqv.sI (Eqv.sI (Eqv.rf _) Bool.false_ne_true) Bool.false_ne_true) Bool.false_ne_true) Bool.false_ne_true) Bool.false_ne_true)
theorem lvX_m (h : Hp) (j s q T : Nat) (f : Nat) (hf : f ≠ 0) : vi (mZ (lvX h j s q T)) (32, 0) f = vi h (32, 0) f := by rw [mZ_v _ _ hf]; unfold lvX xT; rw [vi_sI_ne _ _ _ _ (fun z => (by cases z)), vi_sR, vi_sI_ne _ _ _ _ (fun z => (by cases z)), vi_sI_ne _ _ _ _ (fun z => (by cases z)), vi_sI_ne _ _ _ _ (fun z => (by cases z))]
theorem lvX_38 (h : Hp) (j s q T : Nat) (i f : Nat) : vi (mZ (lvX h j s q T)) (38, i) f = vi h (38, i) f := by rw [mZ_o _ _ (fun z => (by cases z))]; unfold lvX xT; rw [vi_sI_ne _ _ _ _ (fun z => (by cases z)), vi_sR, vi_sI_ne _ _ _ _ (fun z => (by cases z)), vi_sI_ne _ _ _ _ (fun z => (by cases z)), vi_sI_ne _ _ _ _ (fun z => (by cases z))]
set_option maxRecDepth 20000 in
theorem op_leave (g : G0) (h : Hp) (r : RR h) {w : Int32} : Op g h yX11_leave wX11_leave (pR (0, 0) :: [pI w]) yX14_leave wX14_leave (pR (32, 0) :: [pI w]) 8 12 0 0 0 0 := by
  have le := r.1.le
  obtain ⟨T, hT, t1, t2⟩ := r.2.2.2.1.2.2.1
  cases z : xRoo h w with
  | none => exact Op.of2 (-1 : Int32) (xT h 1) (mT (mZ (xT h 1)) 1) (by unfold xLeave; rw [z]) (by unfold mLeave; rw [if_pos (xRoo_no (h' := mZ (xT h 1)) r.1 r.2.2.2.2.2.2.2.1 rfl z)]) (m_leave g h r.1) (M_leave g _ (mj_of r (by repeat (first | refine Eqv.sI ?_ Bool.false_ne_true | refine Eqv.sR ?_ Bool.false_ne_true | refine Eqv.sRs ?_ Bool.false_ne_true | refine Eqv.sL ?_ Bool.false_ne_true | exact Eqv.rf _)))) (RR_ref1 r) rfl
  | some a =>
    obtain ⟨j, rfl, rfl, hj, -⟩ := xRoo_yes (h' := h) r.1 r.2.2.2.2.2.2.2.1 rfl z
    have ey : ∀ h', vi h' (32, 0) 36 = vi h (32, 0) 36 → ¬ mRb h' (nI j) = 0 := fun h' e => by obtain ⟨-, -, -, -, y⟩ := xRoo_yes (h' := h') r.1 r.2.2.2.2.2.2.2.1 e z; rw [y]; decide
    have ncj : (nI j).toNatClampNeg = j := nI_clamp (by omega)
    rcases (r.2.2.2.2.2.2.2.1.2.2.1 j hj).2.2 with ⟨z1, z2⟩ | ⟨s, q, hs, hq, z1, z2, z3, z4, z5, z6⟩
    · exact Op.of2 (-1 : Int32) (xT h 6) (mT (mZ (xT h 6)) 6) (by unfold xLeave; rw [z]; show (match vr h (10, j) 1 with | none => _ | some s => _) = _; rw [z1]) (by unfold mLeave; rw [if_neg (ey (mZ (xT h 6)) rfl), ncj]; unfold mLv; rw [show vi (mZ (xT h 6)) (38, 11) j = -1 from z2, if_pos rfl]) (m_leave g h r.1) (M_leave g _ (mj_of r (by repeat (first | refine Eqv.sI ?_ Bool.false_ne_true | refine Eqv.sR ?_ Bool.false_ne_true | refine Eqv.sRs ?_ Bool.false_ne_true | refine Eqv.sL ?_ Bool.false_ne_true | exact Eqv.rf _)))) (RR_ref6 r) rfl
    · have ncq : (nI q).toNatClampNeg = q := nI_clamp (by omega)
      have ncs : (nI s).toNatClampNeg = s := nI_clamp (by omega)
      have eX : xLeave h (nI j) = (nI q, lvX h j s q T) := by
        unfold xLeave; rw [z]; show (match vr h (10, j) 1 with | none => _ | some s => _) = _; rw [z1]
        show (vi h (11, s) 1, xT (match vr h (10, j) 1 with | none => h | some s => xEmp1 h (10, j) s) 0) = _
        rw [z1]; show (vi h (11, s) 1, xT (xEmp1 h (10, j) (11, s)) 0) = _; unfold xEmp1 lvX; rw [z5, ncq, t1]
      have y2 : vi (mZ (lvX h j s q T)) (38, 11) j = nI s := (lvX_38 _ _ _ _ _ _ _).trans z2
      have y5 : vi (mZ (lvX h j s q T)) (38, 14) s = nI q := (lvX_38 _ _ _ _ _ _ _).trans ((r.2.2.2.2.2.2.2.1.2.2.2.1 s hs).2.1.symm.trans z5)
      have yT : vi (mZ (lvX h j s q T)) (32, 0) 23 = nI T := (lvX_m _ _ _ _ _ _ (by decide)).trans t2
      have eY : mLeave (lvX h j s q T) (nI j) = (nI q, lvM (lvX h j s q T) j s q T) := by
        unfold mLeave; rw [if_neg (ey (mZ (lvX h j s q T)) (lvX_m _ _ _ _ _ _ (by decide))), ncj]; unfold mLv; rw [y2, if_neg (nI_ne1 (by omega)), ncs, y5, ncq]; unfold mEnH lvM; rw [yT]
      exact Op.of2 _ _ _ eX eY (m_leave g h r.1) (M_leave g _ (mj_of r (lvX_fMJ h j s q T))) (RR_lv r hj hq hT t1 z1 z5) (lv_cn h j s q T)
