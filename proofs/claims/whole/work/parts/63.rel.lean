/-! what a part of the state rests on: counts, lengths, references, longs by pool, ints by pool, number, field -/
abbrev Fpt : Type := (Nat → Bool) × (Nat → Bool) × (Nat → Bool) × (Nat → Bool) × (Nat → Nat → Nat → Bool)
def Eqv (P : Fpt) (h h' : Hp) : Prop := (∀ p, P.1 p = true → cn h' p = cn h p) ∧ (∀ p i, P.2.1 p = true → ln h' (p, i) = ln h (p, i)) ∧ (∀ p i k, P.2.2.1 p = true → vr h' (p, i) k = vr h (p, i) k) ∧ (∀ p i k, P.2.2.2.1 p = true → vl h' (p, i) k = vl h (p, i) k) ∧ ∀ p i f, P.2.2.2.2 p i f = true → vi h' (p, i) f = vi h (p, i) f
theorem Eqv.rf {P : Fpt} (h : Hp) : Eqv P h h := ⟨fun _ _ => rfl, fun _ _ _ => rfl, fun _ _ _ _ => rfl, fun _ _ _ _ => rfl, fun _ _ _ _ => rfl⟩
theorem Eqv.tr {P : Fpt} {h h1 h2 : Hp} (a : Eqv P h h1) (b : Eqv P h1 h2) : Eqv P h h2 := ⟨fun p z => (b.1 p z).trans (a.1 p z), fun p i z => (b.2.1 p i z).trans (a.2.1 p i z), fun p i k z => (b.2.2.1 p i k z).trans (a.2.2.1 p i k z), fun p i k z => (b.2.2.2.1 p i k z).trans (a.2.2.2.1 p i k z), fun p i f z => (b.2.2.2.2 p i f z).trans (a.2.2.2.2 p i f z)⟩
theorem Eqv.sI {P : Fpt} {h h' : Hp} (e : Eqv P h h') {p i k : Nat} {x : Int32} (n : ¬ P.2.2.2.2 p i k = true) : Eqv P h (sI h' (p, i) k x) := e.tr ⟨fun _ _ => rfl, fun _ _ _ => rfl, fun _ _ _ _ => rfl, fun _ _ _ _ => rfl, fun q j f z => by
  rw [vi_sI, if_neg]; rintro ⟨y1, y2⟩; cases y1; cases y2; exact n z⟩
theorem Eqv.sIs {P : Fpt} {h h' : Hp} (e : Eqv P h h') {p i : Nat} {g : Nat → Int32} (n : ∀ k, ¬ P.2.2.2.2 p i k = true) : Eqv P h (sIs h' (p, i) g) := e.tr ⟨fun _ _ => rfl, fun _ _ _ => rfl, fun _ _ _ _ => rfl, fun _ _ _ _ => rfl, fun q j f z => by
  rw [vi_sIs, if_neg]; intro y1; cases y1; exact n f z⟩
theorem Eqv.sL {P : Fpt} {h h' : Hp} (e : Eqv P h h') {p i k : Nat} {x : Int64} (n : ¬ P.2.2.2.1 p = true) : Eqv P h (sL h' (p, i) k x) := e.tr ⟨fun _ _ => rfl, fun _ _ _ => rfl, fun _ _ _ _ => rfl, fun q j f z => by
  rw [vl_sL, if_neg]; rintro ⟨y1, y2⟩; cases y1; exact n z, fun _ _ _ _ => rfl⟩
theorem Eqv.sR {P : Fpt} {h h' : Hp} (e : Eqv P h h') {p i k : Nat} {x : Option Ad} (n : ¬ P.2.2.1 p = true) : Eqv P h (sR h' (p, i) k x) := e.tr ⟨fun _ _ => rfl, fun _ _ _ => rfl, fun q j f z => by
  rw [vr_sR, if_neg]; rintro ⟨y1, y2⟩; cases y1; exact n z, fun _ _ _ _ => rfl, fun _ _ _ _ => rfl⟩
theorem Eqv.sRs {P : Fpt} {h h' : Hp} (e : Eqv P h h') {p i : Nat} {g : Nat → Option Ad} (n : ¬ P.2.2.1 p = true) : Eqv P h (sRs h' (p, i) g) := e.tr ⟨fun _ _ => rfl, fun _ _ _ => rfl, fun q j f z => by
  rw [vr_sRs, if_neg]; intro y1; cases y1; exact n z, fun _ _ _ _ => rfl, fun _ _ _ _ => rfl⟩
theorem Eqv.nw {P : Fpt} {h h' : Hp} (e : Eqv P h h') {p n : Nat} (n1 : ¬ P.1 p = true) (n2 : ¬ P.2.1 p = true) (n3 : ¬ P.2.2.1 p = true) (n4 : ¬ P.2.2.2.1 p = true) (n5 : ∀ i k, ¬ P.2.2.2.2 p i k = true) : Eqv P h (nw h' p n) := e.tr ⟨fun q z => by rw [cn_nw, if_neg]; intro y; cases y; exact n1 z, fun q i z => by rw [ln_nw, if_neg]; intro y; cases y; exact n2 z, fun q i k z => by rw [vr_nw, if_neg]; intro y; cases y; exact n3 z, fun q i k z => by rw [vl_nw, if_neg]; intro y; cases y; exact n4 z, fun q i k z => by rw [vi_nw, if_neg]; intro y; cases y; exact n5 _ _ z⟩
theorem Eqv.add {P : Fpt} {h h1 h2 : Hp} {j : Nat} (e : Eqv P h h1) (f : AddF h1 h2 j) (n1 : ¬ P.1 16 = true) (n2 : ¬ P.2.1 16 = true) (n3 : ¬ P.2.2.1 16 = true ∧ ¬ P.2.2.1 7 = true) (n4 : ¬ P.2.2.2.1 16 = true) (n5 : ∀ i k, ¬ P.2.2.2.2 16 i k = true) (n6 : ∀ i k, ¬ P.2.2.2.2 7 i k = true) : Eqv P h h2 := by
  obtain ⟨f1, f2, f3, f4, f5, f6, -⟩ := f
  refine e.tr ⟨fun q z => f1 q (fun y => by cases y; exact n1 z), fun q i z => f3 (q, i) (Or.inl (fun y => n2 (by rw [← y]; exact z))), fun q i k z => f6 (q, i) k (fun y => n3.1 (by rw [← y]; exact z)) (fun y => by cases y; exact n3.2 z), fun q i k z => f5 (q, i) k (fun y => n4 (by rw [← y]; exact z)), fun q i k z => f4 (q, i) k (fun y => by cases y; exact n6 _ _ z) (fun y => n5 i k (by rw [← y]; exact z))⟩
theorem Eqv.fr {P : Fpt} {h h1 h2 : Hp} (e : Eqv P h h1) (f : Fr h1 h2) (n0 : ¬ P.2.2.2.2 32 0 0 = true) (n1 : ¬ P.2.2.2.2 32 0 20 = true) (n2 : ¬ P.2.2.2.2 32 0 21 = true) (n3 : ∀ k, ¬ P.2.2.2.2 39 1 k = true) : Eqv P h h2 := by
  obtain ⟨f1, f2, f3, f4, f5⟩ := f
  refine e.tr ⟨fun q _ => by rw [f1], fun q i _ => by rw [f2], fun q i k _ => by rw [f4], fun q i k _ => by rw [f3], fun q i k z => f5 (q, i) k (fun y => by cases y; exact n3 _ z) (fun y => ⟨fun y2 => by cases y; cases y2; exact n0 z, fun y2 => by cases y; cases y2; exact n1 z, fun y2 => by cases y; cases y2; exact n2 z⟩)⟩
/-- the class's shape -/
def fXI : Fpt := (fun p => Nat.blt p 32, fun p => Nat.blt p 32, fun p => Nat.blt p 32 && !(p == 15), fun _ => false, fun p i f => p == 7 || (p == 9 && f == 6) || (p == 8 && f == 4) || (p == 11 && f == 1) || (p == 5 && f == 1))
theorem xC32 : ∀ z ∈ xC, fXI.1 z.1 = true := by decide
theorem xLn32 : ∀ z ∈ xLn, fXI.2.1 z.1.1 = true := by decide
theorem xR32 : ∀ z ∈ xR, fXI.2.2.1 z.1.1.1 = true := by decide
theorem AL_congr {h h' : Hp} (e : Eqv fXI h h') {j q n : Nat} (a : AL h j q n) : AL h' j q n := by
  obtain ⟨e1, e2, e3, -, e5⟩ := e
  obtain ⟨a1, a2, a3⟩ := a
  refine ⟨by rw [e5 7 j 2 rfl]; exact a1, a2, ?_⟩
  rcases a3 with ⟨z1, z2⟩ | ⟨x, z1, z2, z3, z4, z5, z6⟩
  · exact Or.inl ⟨z1, by rw [e3 7 j 1 rfl]; exact z2⟩
  · exact Or.inr ⟨x, by rw [e3 7 j 1 rfl]; exact z1, by rw [e1 16 rfl]; exact z2, by rw [e2 16 x rfl]; exact z3, by rw [e2 16 x rfl]; exact z4, by rw [e2 16 x rfl]; exact z5, fun i hi => by rw [e3 16 x i rfl]; exact z6 i hi⟩
theorem SX_congr {h h' : Hp} (e : Eqv fXI h h') (s : SX h) : SX h' :=
  ⟨fun z hz => by rw [e.1 _ (xC32 z hz)]; exact s.1 z hz, fun z hz => (e.2.1 z.1.1 z.1.2 (xLn32 z hz)).trans (s.2.1 z hz), fun z hz => (e.2.2.1 z.1.1.1 z.1.1.2 z.1.2 (xR32 z hz)).trans (s.2.2 z hz)⟩
theorem XI_congr {h h' : Hp} (e : Eqv fXI h h') (x : XI h) : XI h' := by
  obtain ⟨x1, ⟨a0, a1, a2, a3, a4⟩, x3, x4, x5, x6, x7, x8, x9⟩ := x
  have c8 : cn h' 8 = cn h 8 := e.1 8 rfl
  have c9 : cn h' 9 = cn h 9 := e.1 9 rfl
  have c10 : cn h' 10 = cn h 10 := e.1 10 rfl
  have c11 : cn h' 11 = cn h 11 := e.1 11 rfl
  have c12 : cn h' 12 = cn h 12 := e.1 12 rfl
  have c17 : cn h' 17 = cn h 17 := e.1 17 rfl
  have c18 : cn h' 18 = cn h 18 := e.1 18 rfl
  have c19 : cn h' 19 = cn h 19 := e.1 19 rfl
  refine ⟨SX_congr e x1, ⟨by rw [c8]; exact AL_congr e a0, by rw [c9]; exact AL_congr e a1, by rw [c10]; exact AL_congr e a2, by rw [c11]; exact AL_congr e a3, by rw [c12]; exact AL_congr e a4⟩, ?_, ?_, by rw [c17, c8, c18, c19, c9]; exact x5, by rw [c8, c9, c10, c11, c12]; exact x6, ?_, ?_, ?_⟩
  · intro p hp
    rw [c9] at hp
    rw [c18, c19, e.2.1 18 p rfl, e.2.1 19 p rfl, e.2.2.1 9 p 4 rfl, e.2.2.1 9 p 5 rfl, e.2.2.2.2 9 p 6 rfl]
    exact x3 p hp
  · intro c hc
    rw [c8] at hc
    rw [c17, e.2.1 17 c rfl, e.2.2.1 8 c 5 rfl, e.2.2.2.2 8 c 4 rfl]
    exact x4 c hc
  · intro r hr a ha
    rw [c10] at hr
    rw [e.2.2.1 10 r 1 rfl] at ha
    rw [c11]
    exact x7 r hr a ha
  · intro s hs
    rw [c11] at hs
    rw [c9, e.2.2.2.2 11 s 1 rfl]
    exact x8 s hs
  · rw [e.2.2.2.2 5 0 1 rfl]; exact x9
def fLD : Fpt := (fun p => p == 16, fun _ => false, fun p => p == 7, fun _ => false, fun _ _ _ => false)
theorem LD_congr {h h' : Hp} (e : Eqv fLD h h') (x : LD h) : LD h' := by
  unfold LD
  rw [e.1 16 rfl]
  refine ⟨fun j i hj hi => x.1 j i hj (by rw [← e.2.2.1 7 j 1 rfl]; exact hi), fun j j' i hj hj' hi hi' => x.2 j j' i hj hj' (by rw [← e.2.2.1 7 j 1 rfl]; exact hi) (by rw [← e.2.2.1 7 j' 1 rfl]; exact hi')⟩
/-- the reference's shape -/
def fMJ : Fpt := (fun p => Nat.ble 32 p, fun p => Nat.ble 32 p, fun p => Nat.ble 32 p, fun _ => false, fun p i f => (p == 32 && (f == 22 || f == 36 || f == 37 || f == 38 || f == 48)) || (p == 38 && (i == 7 || i == 11 || i == 14 || i == 6)))
theorem mCf : ∀ z ∈ mC, fMJ.1 z.1 = true := by decide
theorem mLnf : ∀ z ∈ mLn, fMJ.2.1 z.1.1 = true := by decide
theorem mRf : ∀ z ∈ mR, fMJ.2.2.1 z.1.1.1 = true := by decide
theorem MJ_congr {h h' : Hp} (e : Eqv fMJ h h') (m : MJ h) : MJ h' := by
  obtain ⟨⟨m1, m2⟩, n1, n2, n3, n4⟩ := m
  have s : SM h' := ⟨fun z hz => by rw [e.1 _ (mCf z hz)]; exact m1.1 z hz, fun z hz => (e.2.1 z.1.1 z.1.2 (mLnf z hz)).trans (m1.2.1 z hz), fun z hz => (e.2.2.1 z.1.1.1 z.1.1.2 z.1.2 (mRf z hz)).trans (m1.2.2 z hz)⟩
  refine ⟨⟨s, ?_⟩, fun p hp => ?_, fun p hp => ?_, fun p hp => ?_, fun p hp => ?_⟩
  · rw [e.2.2.2.2 32 0 22 rfl, e.2.2.2.2 32 0 36 rfl, e.2.2.2.2 32 0 37 rfl, e.2.2.2.2 32 0 38 rfl, e.2.2.2.2 32 0 48 rfl]; exact m2
  · rw [e.2.2.2.2 38 7 p rfl]; exact n1 p hp
  · rw [e.2.2.2.2 38 11 p rfl]; exact n2 p hp
  · rw [e.2.2.2.2 38 14 p rfl]; exact n3 p hp
  · rw [e.2.2.2.2 38 6 p rfl]; exact n4 p hp
/-- numbers: wills, dole, today, trouble, fault, where -/
def ScA (h : Hp) : Prop := (∃ w, w ≤ 4 ∧ vi h (0, 0) 10 = nI w ∧ vi h (32, 0) 4 = nI w) ∧ (∃ d, d ≤ 999 ∧ vi h (0, 0) 12 = nI d ∧ vi h (32, 0) 49 = nI d) ∧ (∃ t, t ≤ 40000 ∧ vi h (0, 0) 13 = nI t ∧ vi h (32, 0) 23 = nI t) ∧ vi h (0, 0) 14 = vi h (32, 0) 1 ∧ vi h (0, 0) 15 = vi h (32, 0) 3 ∧ vi h (32, 0) 2 = if vi h (0, 0) 14 = 4 then vi h (0, 0) 16 else -1
def fSc : Fpt := (fun _ => false, fun _ => false, fun _ => false, fun _ => false, fun p i f => (p == 0 && (f == 10 || f == 12 || f == 13 || f == 14 || f == 15 || f == 16)) || (p == 32 && (f == 1 || f == 2 || f == 3 || f == 4 || f == 23 || f == 49)))
theorem ScA_congr {h h' : Hp} (e : Eqv fSc h h') (s : ScA h) : ScA h' := by
  unfold ScA
  rw [e.2.2.2.2 0 0 10 rfl, e.2.2.2.2 0 0 12 rfl, e.2.2.2.2 0 0 13 rfl, e.2.2.2.2 0 0 14 rfl, e.2.2.2.2 0 0 15 rfl, e.2.2.2.2 0 0 16 rfl, e.2.2.2.2 32 0 1 rfl, e.2.2.2.2 32 0 2 rfl, e.2.2.2.2 32 0 3 rfl, e.2.2.2.2 32 0 4 rfl, e.2.2.2.2 32 0 23 rfl, e.2.2.2.2 32 0 49 rfl]
  exact s
/-- the tape -/
def TaR (h : Hp) : Prop := ∃ L, L ≤ 300 ∧ vi h (1, 0) 1 = nI L ∧ vi h (32, 0) 10 = nI L ∧ ∀ i, i < L → vi h (13, 0) i = vi h (37, 0) i &&& 255
def fTa : Fpt := (fun _ => false, fun _ => false, fun _ => false, fun _ => false, fun p i f => (p == 1 && f == 1) || (p == 13 && i == 0) || (p == 32 && f == 10) || p == 37)
theorem TaR_congr {h h' : Hp} (e : Eqv fTa h h') (s : TaR h) : TaR h' := by
  obtain ⟨L, hL, a, b, c⟩ := s
  exact ⟨L, hL, by rw [e.2.2.2.2 1 0 1 rfl]; exact a, by rw [e.2.2.2.2 32 0 10 rfl]; exact b, fun i hi => by rw [e.2.2.2.2 13 0 i rfl, e.2.2.2.2 37 0 i rfl]; exact c i hi⟩
def fPe : Fpt := (fun p => p == 9, fun _ => false, fun _ => false, fun _ => false, fun p i f => p == 9 || p == 18 || p == 19 || (p == 38 && Nat.ble i 9) || (p == 39 && i == 0) || (p == 32 && f == 22))
theorem PeR_congr {h h' : Hp} (e : Eqv fPe h h') (s : PeR h) : PeR h' := by
  have v9 : ∀ p f, vi h' (9, p) f = vi h (9, p) f := fun p f => e.2.2.2.2 9 p f rfl
  have v18 : ∀ p f, vi h' (18, p) f = vi h (18, p) f := fun p f => e.2.2.2.2 18 p f rfl
  have v19 : ∀ p f, vi h' (19, p) f = vi h (19, p) f := fun p f => e.2.2.2.2 19 p f rfl
  unfold PeR P1 P2 P0
  rw [e.1 9 rfl, e.2.2.2.2 32 0 22 rfl]
  simp only [v9, v18, v19, e.2.2.2.2 38 0 _ rfl, e.2.2.2.2 38 1 _ rfl, e.2.2.2.2 38 2 _ rfl, e.2.2.2.2 38 3 _ rfl, e.2.2.2.2 38 4 _ rfl, e.2.2.2.2 38 5 _ rfl, e.2.2.2.2 38 6 _ rfl, e.2.2.2.2 38 7 _ rfl, e.2.2.2.2 38 8 _ rfl, e.2.2.2.2 38 9 _ rfl, e.2.2.2.2 39 0 _ rfl]
  exact s
/-- who asked when -/
def PaR (h : Hp) : Prop := (∀ p p', p ≤ p' → p' < cn h 9 → vi h (9, p) 3 ≤ vi h (9, p') 3) ∧ ∀ p, p < cn h 9 → vi h (9, p) 3 ≤ vi h (0, 0) 13
def fPa : Fpt := (fun p => p == 9, fun _ => false, fun _ => false, fun _ => false, fun p i f => (p == 9 && f == 3) || (p == 0 && f == 13))
theorem PaR_congr {h h' : Hp} (e : Eqv fPa h h') (s : PaR h) : PaR h' := by
  have v9 : ∀ p, vi h' (9, p) 3 = vi h (9, p) 3 := fun p => e.2.2.2.2 9 p 3 rfl
  unfold PaR
  rw [e.1 9 rfl, e.2.2.2.2 0 0 13 rfl]
  simp only [v9]
  exact s
/-- rooms and stays -/
def RoA (h : Hp) (r : Nat) : Prop := vi h (10, r) 0 = vi h (38, 10) r ∧ vi h (10, r) 2 = vi h (38, 12) r ∧ ((vr h (10, r) 1 = none ∧ vi h (38, 11) r = -1) ∨ ∃ s p, s < cn h 11 ∧ p < cn h 9 ∧ vr h (10, r) 1 = some (11, s) ∧ vi h (38, 11) r = nI s ∧ vi h (11, s) 0 = nI r ∧ vi h (11, s) 3 = 2147483647 ∧ vi h (11, s) 1 = nI p ∧ vi h (9, p) 8 = nI r)
def StA (h : Hp) (s : Nat) : Prop := vi h (11, s) 0 = vi h (38, 13) s ∧ vi h (11, s) 1 = vi h (38, 14) s ∧ vi h (11, s) 2 = vi h (38, 15) s ∧ (∃ r, r < cn h 10 ∧ vi h (11, s) 0 = nI r) ∧ (∃ t, t ≤ 40000 ∧ vi h (11, s) 2 = nI t ∧ ∀ u, vi h (0, 0) 13 = nI u → u ≤ 40000 → t ≤ u) ∧
  ((vi h (11, s) 3 = 2147483647 ∧ vi h (38, 16) s = -1 ∧ ∃ r, r < cn h 10 ∧ vi h (11, s) 0 = nI r ∧ vr h (10, r) 1 = some (11, s)) ∨ ∃ t, t ≤ 40000 ∧ vi h (11, s) 3 = nI t ∧ vi h (38, 16) s = nI t ∧ ∀ u, vi h (0, 0) 13 = nI u → u ≤ 40000 → t ≤ u)
def RoR (h : Hp) : Prop := vi h (32, 0) 36 = nI (cn h 10) ∧ vi h (32, 0) 37 = nI (cn h 11) ∧ (∀ r, r < cn h 10 → RoA h r) ∧ (∀ s, s < cn h 11 → StA h s) ∧ (∀ s s', s < s' → s' < cn h 11 → vi h (11, s) 0 = vi h (11, s') 0 → vi h (11, s) 3 ≤ vi h (11, s') 2) ∧ (∀ p, p < cn h 9 → (vi h (9, p) 8 = -1 ∧ vi h (9, p) 9 = 0) ∨ ∃ r s, r < cn h 10 ∧ s < cn h 11 ∧ vi h (9, p) 8 = nI r ∧ vr h (10, r) 1 = some (11, s) ∧ vi h (11, s) 1 = nI p)
def fRo : Fpt := (fun p => p == 9 || p == 10 || p == 11, fun _ => false, fun p => p == 10, fun _ => false, fun p i f => p == 10 || p == 11 || (p == 9 && (f == 8 || f == 9)) || (p == 0 && f == 13) || (p == 38 && Nat.ble 10 i && Nat.ble i 16) || (p == 32 && (f == 36 || f == 37)))
theorem RoR_congr {h h' : Hp} (e : Eqv fRo h h') (s : RoR h) : RoR h' := by
  have v10 : ∀ p f, vi h' (10, p) f = vi h (10, p) f := fun p f => e.2.2.2.2 10 p f rfl
  have v11 : ∀ p f, vi h' (11, p) f = vi h (11, p) f := fun p f => e.2.2.2.2 11 p f rfl
  have r10 : ∀ p f, vr h' (10, p) f = vr h (10, p) f := fun p f => e.2.2.1 10 p f rfl
  unfold RoR RoA StA
  rw [e.1 9 rfl, e.1 10 rfl, e.1 11 rfl, e.2.2.2.2 32 0 36 rfl, e.2.2.2.2 32 0 37 rfl]
  simp only [v10, v11, r10, e.2.2.2.2 9 _ 8 rfl, e.2.2.2.2 9 _ 9 rfl, e.2.2.2.2 0 0 13 rfl, e.2.2.2.2 38 10 _ rfl, e.2.2.2.2 38 11 _ rfl, e.2.2.2.2 38 12 _ rfl, e.2.2.2.2 38 13 _ rfl, e.2.2.2.2 38 14 _ rfl, e.2.2.2.2 38 15 _ rfl, e.2.2.2.2 38 16 _ rfl]
  exact s
def fTr : Fpt := (fun _ => false, fun _ => false, fun _ => false, fun _ => false, fun p i f => (p == 5 && (f == 1 || f == 2)) || p == 14 || (p == 39 && i == 2) || (p == 32 && (f == 38 || f == 39)))
theorem TrR_congr {h h' : Hp} (e : Eqv fTr h h') (s : TrR h) : TrR h' := by
  unfold TrR
  rw [e.2.2.2.2 5 0 1 rfl, e.2.2.2.2 5 0 2 rfl, e.2.2.2.2 32 0 38 rfl, e.2.2.2.2 32 0 39 rfl]
  simp only [e.2.2.2.2 14 0 _ rfl, e.2.2.2.2 39 2 _ rfl]
  exact s
/-- lands -/
def LaR (h : Hp) : Prop := vi h (32, 0) 48 = nI (cn h 12) ∧ ∀ l, l < cn h 12 → ∃ r e f, r ≤ 9999 ∧ 1 ≤ e ∧ e ≤ 400 ∧ f ≤ 40000 ∧ vi h (12, l) 0 = nI r ∧ vi h (38, 17) l = nI r ∧ vi h (12, l) 1 = nI e ∧ vi h (38, 18) l = nI e ∧ vi h (12, l) 2 = nI f ∧ vi h (38, 19) l = nI f
def fLa : Fpt := (fun p => p == 12, fun _ => false, fun _ => false, fun _ => false, fun p i f => p == 12 || (p == 38 && Nat.ble 17 i && Nat.ble i 19) || (p == 32 && f == 48))
theorem LaR_congr {h h' : Hp} (e : Eqv fLa h h') (s : LaR h) : LaR h' := by
  have v12 : ∀ p f, vi h' (12, p) f = vi h (12, p) f := fun p f => e.2.2.2.2 12 p f rfl
  unfold LaR
  rw [e.1 12 rfl, e.2.2.2.2 32 0 48 rfl]
  simp only [v12, e.2.2.2.2 38 17 _ rfl, e.2.2.2.2 38 18 _ rfl, e.2.2.2.2 38 19 _ rfl]
  exact s
/-- the chest -/
def CsR (h : Hp) : Prop := ∃ (c : Int32) (R t : Nat), True ∧ t ≤ 40000 ∧ vi h (0, 0) 13 = nI t ∧ R ≤ t * 99990 ∧ vi h (6, 0) 0 = c ∧ vi h (32, 0) 50 = c ∧ (vl h (6, 0) 1).toInt = (R : Int) ∧ vi h (32, 0) 51 = nI (if R < 2000000000 then R else 2000000000)
def fCs : Fpt := (fun _ => false, fun _ => false, fun _ => false, fun p => p == 6, fun p i f => (p == 6 && f == 0) || (p == 0 && f == 13) || (p == 32 && (f == 50 || f == 51)))
theorem CsR_congr {h h' : Hp} (e : Eqv fCs h h') (s : CsR h) : CsR h' := by
  unfold CsR
  rw [e.2.2.2.2 6 0 0 rfl, e.2.2.2.2 0 0 13 rfl, e.2.2.2.2 32 0 50 rfl, e.2.2.2.2 32 0 51 rfl, e.2.2.2.1 6 0 1 rfl]
  exact s
/-- schemes -/
def SR (h : Hp) : Prop := ∃ n, n ≤ 40 ∧ vi h (0, 0) 11 = nI n ∧ vi h (32, 0) 5 = nI n ∧ (n = cn h 33 ∨ n + 1 = cn h 33) ∧ cn h 33 ≤ 40 ∧ (∀ k, k < cn h 33 → SK h k) ∧ (∀ k, cn h 33 ≤ k → k < 40 → vr h (36, 0) k = none) ∧ (∀ i, 40 ≤ i → i < 50 → cn h i = cn h 33) ∧ ScR h n
def fSR : Fpt := (fun p => p == 8 || p == 33 || (Nat.ble 40 p && Nat.blt p 50), fun p => p == 17 || (Nat.ble 40 p && Nat.blt p 50), fun p => p == 33 || p == 36, fun _ => false, fun p i f => p == 8 || p == 17 || p == 33 || (Nat.ble 40 p && Nat.blt p 50) || (p == 0 && f == 11) || (p == 32 && f == 5))
theorem fSRc {p : Nat} (h : 40 ≤ p ∧ p < 50) : (Nat.ble 40 p && Nat.blt p 50) = true := by
  rw [Bool.and_eq_true]; exact ⟨Nat.ble_eq.mpr h.1, by unfold Nat.blt; exact Nat.ble_eq.mpr h.2⟩
theorem xCod_congr {h h' : Hp} {x : Nat} (e : ∀ i, vi h' (17, x) i = vi h (17, x) i) : ∀ (j i : Nat), xCod h' x j i = xCod h x j i
  | 0, _ => rfl
  | j + 1, i => by rw [xCod, xCod, e i, xCod_congr e j]
theorem mOps_congr {h h' : Hp} {k : Nat} (e5 : ∀ i, vi h' (45, k) i = vi h (45, k) i) (e6 : ∀ i, vi h' (46, k) i = vi h (46, k) i) (e7 : ∀ i, vi h' (47, k) i = vi h (47, k) i) : ∀ (j i : Nat), mOps h' k j i = mOps h k j i
  | 0, _ => rfl
  | j + 1, i => by rw [mOps, mOps, e5 i, e6 i, e7 i, mOps_congr e5 e6 e7 j]
theorem offN_congr {h h' : Hp} : ∀ (n : Nat), (∀ k, k < n → chN h' k = chN h k) → offN h' n = offN h n
  | 0, _ => rfl
  | n + 1, e => by rw [offN, offN, e n (by omega), offN_congr n (fun k hk => e k (by omega))]
/-- a change's relation rests on its scheme's row and its own -/
theorem ChR_congr {h h' : Hp} {k c x : Nat} (e8 : ∀ f, vi h' (8, x) f = vi h (8, x) f) (e17 : ∀ i, vi h' (17, x) i = vi h (17, x) i) (l17 : ln h' (17, x) = ln h (17, x)) (e33 : ∀ f, vi h' (33, k) f = vi h (33, k) f) (e40 : ∀ p, 40 ≤ p → p < 50 → ∀ i, vi h' (p, k) i = vi h (p, k) i) (r : ChR h k c x) : ChR h' k c x := by
  have f0 := e40 40 (by omega) (by omega)
  have f1 := e40 41 (by omega) (by omega)
  have f2 := e40 42 (by omega) (by omega)
  have f3 := e40 43 (by omega) (by omega)
  have f4 := e40 44 (by omega) (by omega)
  have f5 := e40 45 (by omega) (by omega)
  have f6 := e40 46 (by omega) (by omega)
  have f7 := e40 47 (by omega) (by omega)
  have f8 := e40 48 (by omega) (by omega)
  have f9 := e40 49 (by omega) (by omega)
  unfold ChR PutR OrdR opOK
  simp only [e8, e17, l17, e33, f0, f1, f2, f3, f4, f5, f6, f7, f8, f9, xCod_congr e17, mOps_congr f5 f6 f7]
  exact r
theorem SK_congr {h h' : Hp} {k : Nat} (ec : ∀ p, (p = 33 ∨ (40 ≤ p ∧ p < 50)) → cn h p ≤ cn h' p) (el : ∀ p, 40 ≤ p → p < 50 → ln h' (p, k) = ln h (p, k)) (er : ∀ f, vr h' (33, k) f = vr h (33, k) f) (er2 : vr h' (36, 0) k = vr h (36, 0) k) (ev : vi h' (33, k) 2 = vi h (33, k) 2) (s : SK h k) : SK h' k := by
  obtain ⟨a, b, ⟨c0, c1, c2, c3, c4, c5, c6, c7, c8, c9⟩, d, ⟨l0, l1, l2, l3, l4, l5, l6, l7, l8, l9⟩, f⟩ := s
  have g := fun p hp => ec p (Or.inr hp)
  refine ⟨Nat.lt_of_lt_of_le a (ec 33 (Or.inl rfl)), er2.trans b, ⟨Nat.lt_of_lt_of_le c0 (g 40 (by omega)), Nat.lt_of_lt_of_le c1 (g 41 (by omega)), Nat.lt_of_lt_of_le c2 (g 42 (by omega)), Nat.lt_of_lt_of_le c3 (g 43 (by omega)), Nat.lt_of_lt_of_le c4 (g 44 (by omega)), Nat.lt_of_lt_of_le c5 (g 45 (by omega)), Nat.lt_of_lt_of_le c6 (g 46 (by omega)), Nat.lt_of_lt_of_le c7 (g 47 (by omega)), Nat.lt_of_lt_of_le c8 (g 48 (by omega)), Nat.lt_of_lt_of_le c9 (g 49 (by omega))⟩, ?_, ⟨(el 40 (by omega) (by omega)).trans l0, (el 41 (by omega) (by omega)).trans l1, (el 42 (by omega) (by omega)).trans l2, (el 43 (by omega) (by omega)).trans l3, (el 44 (by omega) (by omega)).trans l4, (el 45 (by omega) (by omega)).trans l5, (el 46 (by omega) (by omega)).trans l6, (el 47 (by omega) (by omega)).trans l7, (el 48 (by omega) (by omega)).trans l8, (el 49 (by omega) (by omega)).trans l9⟩, by rw [ev]; exact f⟩
  simp only [er]
  exact d
theorem SR_congr {h h' : Hp} (e : Eqv fSR h h') (s : SR h) : SR h' := by
  obtain ⟨n, s1, s2, s3, s4, s5, s6, s7, s8, s9⟩ := s
  obtain ⟨e1, e2, e3, -, e5⟩ := e
  have c33 : cn h' 33 = cn h 33 := e1 33 rfl
  have c8 : cn h' 8 = cn h 8 := e1 8 rfl
  have v33 : ∀ k f, vi h' (33, k) f = vi h (33, k) f := fun k f => e5 33 k f rfl
  have v8 : ∀ k f, vi h' (8, k) f = vi h (8, k) f := fun k f => e5 8 k f rfl
  have v17 : ∀ k f, vi h' (17, k) f = vi h (17, k) f := fun k f => e5 17 k f rfl
  have eC : ∀ p, 40 ≤ p → p < 50 → cn h' p = cn h p := fun p hp hq => e1 p (by show (p == 8 || p == 33 || (Nat.ble 40 p && Nat.blt p 50)) = true; rw [fSRc ⟨hp, hq⟩, Bool.or_true])
  have eL : ∀ p, 40 ≤ p → p < 50 → ∀ k, ln h' (p, k) = ln h (p, k) := fun p hp hq k => e2 p k (by show (p == 17 || (Nat.ble 40 p && Nat.blt p 50)) = true; rw [fSRc ⟨hp, hq⟩, Bool.or_true])
  have eV : ∀ p, 40 ≤ p → p < 50 → ∀ k f, vi h' (p, k) f = vi h (p, k) f := fun p hp hq k f => e5 p k f (by show (p == 8 || p == 17 || p == 33 || (Nat.ble 40 p && Nat.blt p 50) || (p == 0 && f == 11) || (p == 32 && f == 5)) = true; rw [fSRc ⟨hp, hq⟩, Bool.or_true, Bool.true_or, Bool.true_or])
  have hch : ∀ k, chN h' k = chN h k := fun k => by rw [chN, chN, v33]
  have hof : ∀ m, offN h' m = offN h m := fun m => offN_congr m (fun k _ => hch k)
  refine ⟨n, s1, by rw [e5 0 0 11 rfl]; exact s2, by rw [e5 32 0 5 rfl]; exact s3, by rw [c33]; exact s4, by rw [c33]; exact s5, ?_, ?_, ?_, ?_⟩
  · intro k hk
    rw [c33] at hk
    refine SK_congr ?_ (fun p hp hq => eL p hp hq k) (fun f => e3 33 k f rfl) (e3 36 0 k rfl) (v33 k 2) (s6 k hk)
    rintro p (z | ⟨z1, z2⟩)
    · rw [z, c33]; exact Nat.le_refl _
    · rw [eC p z1 z2]; exact Nat.le_refl _
  · intro k hk hk2
    rw [c33] at hk
    rw [e3 36 0 k rfl]; exact s7 k hk hk2
  · intro i hi hi2
    rw [eC i hi hi2, c33]; exact s8 i hi hi2
  · refine ⟨by rw [c8, hof]; exact s9.1, fun k hk => ⟨by rw [hch]; exact (s9.2 k hk).1, fun c hc => ?_⟩⟩
    rw [hch] at hc
    rw [hof]
    exact ChR_congr (fun f => v8 _ f) (fun i => v17 _ i) (e2 17 _ rfl) (fun f => v33 k f) (fun p hp hq i => eV p hp hq k i) ((s9.2 k hk).2 c hc)
/-- the whole relation -/
def RR (h : Hp) : Prop := XI h ∧ LD h ∧ MJ h ∧ ScA h ∧ TaR h ∧ PeR h ∧ PaR h ∧ RoR h ∧ TrR h ∧ LaR h ∧ CsR h ∧ SR h
def potC (h : Hp) : Nat := 4 * (40 - cn h 9) + 2 * (20 - cn h 10) + 2 * (100 - cn h 11) + 2 * (10 - cn h 12) + 3 * (480 - cn h 8) + 11 * (40 - cn h 33)
def potS (h : Hp) : Nat := 1523 * (40 - cn h 9) + 1503 * (20 - cn h 10) + 1504 * (100 - cn h 11) + 1503 * (10 - cn h 12) + 1806 * (480 - cn h 8) + 600 * (40 - cn h 33)
/-- a call of both -/
def Op (g : G0) (h : Hp) (yx : MethodName) (wx : Cond) (A : List PV) (ym : MethodName) (wm : Cond) (B : List PV) (dx dm mc ms mc' ms' : Nat) : Prop :=
  Mx g yx wx dx A h mc ms (fun r h1 => ∃ v, r = some (pI v) ∧ Mx g ym wm dm B h1 mc' ms' (fun r2 h2 => r2 = some (pI v) ∧ RR h2 ∧ potC h2 + mc + mc' ≤ potC h ∧ potS h2 + ms + ms' ≤ potS h) noX) noX
theorem Op.of {g : G0} {h : Hp} {yx : MethodName} {wx : Cond} {A : List PV} {ym : MethodName} {wm : Cond} {B : List PV} {dx dm : Nat} {X Y : Int32 × Hp} (hx : Mx g yx wx dx A h 0 0 (qE (some (pI X.1)) X.2) noX) (hm : Mx g ym wm dm B X.2 0 0 (qE (some (pI Y.1)) Y.2) noX) (ha : Y.1 = X.1) (hr : RR Y.2) (hc : cn Y.2 = cn h) : Op g h yx wx A ym wm B dx dm 0 0 0 0 := by
  refine Mx.mono ?_ (fun _ _ z => z) hx
  rintro r h1 ⟨rfl, rfl⟩
  refine ⟨X.1, rfl, Mx.mono ?_ (fun _ _ z => z) hm⟩
  rintro r h2 ⟨rfl, rfl⟩
  refine ⟨by rw [ha], hr, ?_, ?_⟩
  · unfold potC; rw [hc]; exact Nat.le_refl _
  · unfold potS; rw [hc]; exact Nat.le_refl _
