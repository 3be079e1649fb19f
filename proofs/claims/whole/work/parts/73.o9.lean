theorem subX {P : Fpt} (a : ∀ i f, ¬ P.2.2.2.2 6 i f = true) (b : ∀ i, ¬ P.2.2.2.2 0 i 13 = true) (c : ∀ i, ¬ P.2.2.2.2 9 i 9 = true) (d : ∀ i, ¬ P.2.2.2.2 9 i 10 = true) (e : ¬ P.2.2.2.1 6 = true) : subF P fDx := by
  refine ⟨fun _ _ => rfl, fun _ _ => rfl, fun _ _ => rfl, fun p z => ?_, fun p i f z => ?_⟩
  · show (!(p == 6)) = true
    by_cases w : p = 6
    · subst w; exact absurd z e
    · simp [w]
  · show (!(p == 6) && !(p == 0 && f == 13) && !(p == 9 && (f == 9 || f == 10))) = true
    by_cases w : p = 6
    · subst w; exact absurd z (a i f)
    · by_cases w2 : p = 0 ∧ f = 13
      · obtain ⟨rfl, rfl⟩ := w2; exact absurd z (b i)
      · by_cases w3 : p = 9 ∧ f = 9
        · obtain ⟨rfl, rfl⟩ := w3; exact absurd z (c i)
        · by_cases w4 : p = 9 ∧ f = 10
          · obtain ⟨rfl, rfl⟩ := w4; exact absurd z (d i)
          · simp only [Bool.and_eq_true, Bool.not_eq_true', Bool.and_eq_false_iff, Bool.or_eq_false_iff, beq_eq_false_iff_ne]
            refine ⟨⟨w, ?_⟩, ?_⟩ <;> omega
theorem subM {P : Fpt} (a : ∀ i, ¬ P.2.2.2.2 32 i 23 = true) (b : ∀ i, ¬ P.2.2.2.2 32 i 50 = true) (c : ∀ i, ¬ P.2.2.2.2 32 i 51 = true) (d : ∀ f, ¬ P.2.2.2.2 38 4 f = true) (e : ∀ f, ¬ P.2.2.2.2 38 5 f = true) : subF P fDm := by
  refine ⟨fun _ _ => rfl, fun _ _ => rfl, fun _ _ => rfl, fun _ _ => rfl, fun p i f z => ?_⟩
  show (!(p == 32 && (f == 23 || f == 50 || f == 51)) && !(p == 38 && (i == 4 || i == 5))) = true
  by_cases w1 : p = 32 ∧ f = 23
  · obtain ⟨rfl, rfl⟩ := w1; exact absurd z (a i)
  · by_cases w2 : p = 32 ∧ f = 50
    · obtain ⟨rfl, rfl⟩ := w2; exact absurd z (b i)
    · by_cases w3 : p = 32 ∧ f = 51
      · obtain ⟨rfl, rfl⟩ := w3; exact absurd z (c i)
      · by_cases w4 : p = 38 ∧ i = 4
        · obtain ⟨rfl, rfl⟩ := w4; exact absurd z (d f)
        · by_cases w5 : p = 38 ∧ i = 5
          · obtain ⟨rfl, rfl⟩ := w5; exact absurd z (e f)
          · simp only [Bool.and_eq_true, Bool.not_eq_true', Bool.and_eq_false_iff, Bool.or_eq_false_iff, beq_eq_false_iff_ne]
            refine ⟨?_, ?_⟩ <;> omega
def pX (h : Hp) (m : Nat) : Hp := xT (xDays m h) 0
def pM (h : Hp) (n r m : Nat) : Hp := mT (mDays n r m (mZ (pX h m))) 0
theorem pX_E {P : Fpt} (sx : subF P fDx) (n14 : ¬ P.2.2.2.2 0 0 14 = true) (h : Hp) (m : Nat) : Eqv P h (pX h m) := Eqv.sI ((xDays_e m h).sub sx) n14
theorem pM_E {P : Fpt} (sx : subF P fDx) (sm : subF P fDm) (n14 : ¬ P.2.2.2.2 0 0 14 = true) (n0 : ¬ P.2.2.2.2 32 0 0 = true) (n1 : ¬ P.2.2.2.2 32 0 1 = true) (n2 : ¬ P.2.2.2.2 32 0 2 = true) (h : Hp) (n r m : Nat) : Eqv P h (pM h n r m) :=
  Eqv.sI (Eqv.sI ((Eqv.sI (pX_E sx n14 h m) n0).tr ((mDays_e n r m _).sub sm)) n1) n2
def fPd : Fpt := (fun p => p == 9, fun _ => false, fun _ => false, fun _ => false, fun p i f => (p == 9 && !(f == 9) && !(f == 10)) || p == 18 || p == 19 || (p == 38 && Nat.ble i 9 && !(i == 4) && !(i == 5)) || (p == 39 && i == 0) || (p == 32 && f == 22))
theorem PeR_day {h h' : Hp} (pe : PeR h) (e : Eqv fPd h h') (g : ∀ p, p < cn h 9 → vi h' (9, p) 9 = vi h' (38, 4) p ∧ vi h' (9, p) 10 = vi h' (38, 5) p) (g0 : ∀ p, cn h 9 ≤ p → p < 40 → vi h' (38, 4) p = 0 ∧ vi h' (38, 5) p = 0) : PeR h' := by
  have c9 : cn h' 9 = cn h 9 := e.1 9 rfl
  have v := e.2.2.2.2
  refine ⟨by rw [c9, v 32 0 22 rfl]; exact pe.1, by rw [c9]; exact pe.2.1, fun p hp => ?_, fun p hp hp2 => ?_⟩
  · rw [c9] at hp
    obtain ⟨⟨b0, b1, b2, b3, b7, b8, b9, b10, b6, bm⟩, a2⟩ := pe.2.2.1 p hp
    refine ⟨⟨?_, ?_, ?_, ?_, ?_, ?_, (g p hp).1, (g p hp).2, ?_, fun i hi => ⟨?_, ?_⟩⟩, ⟨?_, ?_, ?_, fun i hi => ⟨?_, ?_⟩⟩⟩
    · rw [v 9 p 0 rfl, v 38 0 p rfl]; exact b0
    · rw [v 9 p 1 rfl, v 38 1 p rfl]; exact b1
    · rw [v 9 p 2 rfl, v 39 0 p rfl]; exact b2
    · rw [v 9 p 3 rfl, v 38 2 p rfl]; exact b3
    · rw [v 9 p 7 rfl, v 38 3 p rfl]; exact b7
    · rw [v 9 p 8 rfl, v 38 6 p rfl]; exact b8
    · rw [v 9 p 6 rfl, v 38 7 p rfl]; exact b6
    · rw [v 18 p i rfl, v 38 8 _ rfl]; exact (bm i hi).1
    · rw [v 19 p i rfl, v 38 9 _ rfl]; exact (bm i hi).2
    · rw [v 9 p 0 rfl]; exact a2.1
    · rw [v 9 p 1 rfl]; exact a2.2.1
    · rw [v 9 p 3 rfl]; exact a2.2.2.1
    · rw [v 18 p i rfl]; exact (a2.2.2.2 i hi).1
    · rw [v 19 p i rfl]; exact (a2.2.2.2 i hi).2
  · rw [c9] at hp
    obtain ⟨a1, a2, a3, a4⟩ := pe.2.2.2 p hp hp2
    exact ⟨(g0 p hp hp2).1, (g0 p hp hp2).2, by rw [v 38 7 p rfl]; exact a3, fun i hi => ⟨by rw [v 38 8 _ rfl]; exact (a4 i hi).1, by rw [v 38 9 _ rfl]; exact (a4 i hi).2⟩⟩
def fRd : Fpt := (fun p => p == 9 || p == 10 || p == 11, fun _ => false, fun p => p == 10, fun _ => false, fun p i f => p == 10 || p == 11 || (p == 9 && f == 8) || (p == 38 && Nat.ble 10 i && Nat.ble i 16) || (p == 32 && (f == 36 || f == 37)))
theorem RoR_day {h h' : Hp} (ro : RoR h) (e : Eqv fRd h h') {T T' : Nat} (hT : T ≤ 40000) (hT' : T' ≤ 40000) (tt : T ≤ T') (e1 : vi h (0, 0) 13 = nI T) (e2 : vi h' (0, 0) 13 = nI T') (g : ∀ p, p < cn h 9 → vi h' (9, p) 8 = -1 → vi h' (9, p) 9 = 0) : RoR h' := by
  obtain ⟨x1, x2, x3, x4, x5, x6⟩ := ro
  have v10 : ∀ p f, vi h' (10, p) f = vi h (10, p) f := fun p f => e.2.2.2.2 10 p f rfl
  have v11 : ∀ p f, vi h' (11, p) f = vi h (11, p) f := fun p f => e.2.2.2.2 11 p f rfl
  have v98 : ∀ p, vi h' (9, p) 8 = vi h (9, p) 8 := fun p => e.2.2.2.2 9 p 8 rfl
  have r10 : ∀ p f, vr h' (10, p) f = vr h (10, p) f := fun p f => e.2.2.1 10 p f rfl
  have up : ∀ t, (∀ u, vi h (0, 0) 13 = nI u → u ≤ 40000 → t ≤ u) → ∀ u, vi h' (0, 0) 13 = nI u → u ≤ 40000 → t ≤ u := by
    intro t ht u hu hu2
    rw [e2] at hu
    have := (nI_eq (by omega) (by omega)).mp hu
    have := ht T e1 hT
    omega
  unfold RoR
  rw [e.1 9 rfl, e.1 10 rfl, e.1 11 rfl, e.2.2.2.2 32 0 36 rfl, e.2.2.2.2 32 0 37 rfl]
  refine ⟨x1, x2, fun r hr => ?_, fun s hs => ?_, ?_, fun p hp => ?_⟩
  · have := x3 r hr
    unfold RoA at this ⊢
    simp only [v10, v11, v98, r10, e.1 9 rfl, e.1 11 rfl, e.2.2.2.2 38 10 _ rfl, e.2.2.2.2 38 11 _ rfl, e.2.2.2.2 38 12 _ rfl]
    exact this
  · obtain ⟨y1, y2, y3, y4, ⟨t, ht, et, bt⟩, y6⟩ := x4 s hs
    unfold StA
    simp only [v11, r10, e.1 10 rfl, e.2.2.2.2 38 13 _ rfl, e.2.2.2.2 38 14 _ rfl, e.2.2.2.2 38 15 _ rfl, e.2.2.2.2 38 16 _ rfl]
    refine ⟨y1, y2, y3, y4, ⟨t, ht, et, up t bt⟩, ?_⟩
    rcases y6 with z | ⟨t2, z1, z2, z3, z4⟩
    · exact Or.inl z
    · exact Or.inr ⟨t2, z1, z2, z3, up t2 z4⟩
  · simp only [v11]; exact x5
  · rcases x6 p hp with ⟨z1, z2⟩ | ⟨r, s, hr, hs, z1, z2, z3⟩
    · exact Or.inl ⟨by rw [v98]; exact z1, g p hp (by rw [v98]; exact z1)⟩
    · exact Or.inr ⟨r, s, hr, hs, by rw [v98]; exact z1, by rw [r10]; exact z2, by rw [v11]; exact z3⟩
def f93 : Fpt := (fun p => p == 9, fun _ => false, fun _ => false, fun _ => false, fun p i f => p == 9 && f == 3)
theorem PaR_day {h h' : Hp} (pa : PaR h) (e : Eqv f93 h h') (le : vi h (0, 0) 13 ≤ vi h' (0, 0) 13) : PaR h' := by
  have v9 : ∀ p, vi h' (9, p) 3 = vi h (9, p) 3 := fun p => e.2.2.2.2 9 p 3 rfl
  unfold PaR
  rw [e.1 9 rfl]
  simp only [v9]
  exact ⟨pa.1, fun p hp => Int32.le_trans (pa.2 p hp) le⟩
def fSd : Fpt := (fun _ => false, fun _ => false, fun _ => false, fun _ => false, fun p i f => (p == 0 && (f == 10 || f == 12 || f == 15)) || (p == 32 && (f == 3 || f == 4 || f == 49)))
theorem ScA_day {h h' : Hp} (s : ScA h) (e : Eqv fSd h h') {T : Nat} (hT : T ≤ 40000) (t1 : vi h' (0, 0) 13 = nI T) (t2 : vi h' (32, 0) 23 = nI T) (e1 : vi h' (0, 0) 14 = 0) (e2 : vi h' (32, 0) 1 = 0) (e3 : vi h' (32, 0) 2 = -1) : ScA h' := by
  unfold ScA
  rw [e.2.2.2.2 0 0 10 rfl, e.2.2.2.2 0 0 12 rfl, e.2.2.2.2 0 0 15 rfl, e.2.2.2.2 32 0 3 rfl, e.2.2.2.2 32 0 4 rfl, e.2.2.2.2 32 0 49 rfl, e1, e2, e3, t1, t2, if_neg (show ¬ (0 : Int32) = 4 by decide)]
  exact ⟨s.1, s.2.1, ⟨T, hT, rfl, rfl⟩, rfl, s.2.2.2.2.1, rfl⟩
/-- behind the class's days the reference's cells stand -/
def fAm : Fpt := (fun p => Nat.ble 32 p, fun p => Nat.ble 32 p, fun p => Nat.ble 32 p, fun p => Nat.ble 32 p, fun p i f => Nat.ble 32 p)
/-- behind the reference's days the class's cells stand -/
def fAx : Fpt := (fun p => Nat.blt p 32, fun p => Nat.blt p 32, fun p => Nat.blt p 32, fun p => Nat.blt p 32, fun p i f => Nat.blt p 32)
theorem sAm : subF fAm fDx := subX (fun _ _ => Bool.false_ne_true) (fun _ => Bool.false_ne_true) (fun _ => Bool.false_ne_true) (fun _ => Bool.false_ne_true) Bool.false_ne_true
theorem sAx : subF fAx fDm := subM (fun _ => Bool.false_ne_true) (fun _ => Bool.false_ne_true) (fun _ => Bool.false_ne_true) (fun _ => Bool.false_ne_true) (fun _ => Bool.false_ne_true)
theorem pX_am (h : Hp) (m : Nat) : Eqv fAm h (pX h m) := pX_E sAm Bool.false_ne_true h m
theorem pM_ax (h : Hp) (n r m : Nat) : Eqv fAx (xT (xDays m h) 0) (pM h n r m) := Eqv.sI (p := 32) (i := 0) (k := 2) (x := -1) (Eqv.sI (p := 32) (i := 0) (k := 1) (x := 0) ((show Eqv fAx (xT (xDays m h) 0) (mZ (pX h m)) from Eqv.sI (Eqv.rf _) Bool.false_ne_true).tr ((mDays_e n r m (mZ (pX h m))).sub sAx)) Bool.false_ne_true) Bool.false_ne_true
theorem xT_o (h : Hp) (w : Int32) {a : Ad} {f : Nat} (hf : f ≠ 14) : vi (xT h w) a f = vi h a f := by unfold xT; rw [vi_sI_nk _ _ _ hf]
theorem mT_o (h : Hp) (w : Int32) {a : Ad} {f : Nat} (hf : a = (32, 0) → f ≠ 1 ∧ f ≠ 2) : vi (mT h w) a f = vi h a f := by
  unfold mT
  by_cases z : a = (32, 0)
  · rw [vi_sI_nk _ _ _ (hf z).2, vi_sI_nk _ _ _ (hf z).1]
  · rw [vi_sI_ne _ _ _ _ z, vi_sI_ne _ _ _ _ z]
theorem RR_pass {h : Hp} (r : RR h) {T m : Nat} (t1 : vi h (0, 0) 13 = nI T) (t2 : vi h (32, 0) 23 = nI T) (hm : T + m ≤ 40000) : RR (pM h (cn h 12) (cn h 10) m) ∧ DN (cn h 12) (cn h 10) (pX h m) ∧ vi (xDays m h) (0, 0) 13 = nI (T + m) ∧ vi (mDays (cn h 12) (cn h 10) m (mZ (pX h m))) (32, 0) 23 = nI (T + m) := by
  have le := r.1.le
  have am := pX_am h m
  have zm : ∀ p i f, 32 ≤ p → (p = 32 → f ≠ 0) → vi (mZ (pX h m)) (p, i) f = vi h (p, i) f := by
    intro p i f hp hf
    rw [← am.2.2.2.2 p i f (Nat.ble_eq.mpr hp)]
    by_cases z : ((p, i) : Ad) = (32, 0)
    · cases z; exact mZ_v _ _ (hf rfl)
    · exact mZ_o _ _ z
  have z38 : ∀ i f, vi (mZ (pX h m)) (38, i) f = vi h (38, i) f := fun i f => zm 38 i f (by decide) (fun z => by cases z)
  have pe := r.2.2.2.2.2.1
  have ro := r.2.2.2.2.2.2.2.1
  have la := r.2.2.2.2.2.2.2.2.2.1
  obtain ⟨cc, R, t, -, ht, et, hR, c1, c2, c3, c4⟩ := r.2.2.2.2.2.2.2.2.2.2.1
  have eT : t = T := (nI_eq (by omega) (by omega)).mp (et.symm.trans t1)
  subst eT
  have d0 : DyR (cn h 12) (cn h 10) (cn h 9) h (mZ (pX h m)) t (t * 99990) := by
    refine ⟨⟨t1, ?_, ?_, ?_⟩, ⟨R, hR, c3, ?_⟩, ?_, ?_, ?_, ?_⟩
    · rw [zm _ _ _ (by decide) (by decide)]; exact t2
    · rw [zm _ _ _ (by decide) (by decide)]; obtain ⟨d, -, k1, k2⟩ := r.2.2.2.1.2.1; rw [k1, k2]
    · rw [zm _ _ _ (by decide) (by decide), c1, c2]
    · rw [zm _ _ _ (by decide) (by decide)]; exact c4
    · intro l hl
      rw [z38, z38, z38]; exact la.2 l hl
    · intro w hw
      rw [z38]
      rcases (ro.2.2.1 w hw).2.2 with z | ⟨s, q, z0, z1, z2, z3, z4, z5, z6, z7⟩
      · exact Or.inl z
      · exact Or.inr ⟨s, q, z1, by omega, z2, z3, z6, by rw [z38]; exact (ro.2.2.2.1 s z0).2.1.symm.trans z6, by rw [z7]; exact nI_ne1 (by omega)⟩
    · intro p hp
      rw [z38, z38]
      have a := (pe.2.2.1 p hp).1
      refine ⟨a.2.2.2.2.2.2.1, a.2.2.2.2.2.2.2.1, fun z => ?_⟩
      rcases ro.2.2.2.2.2 p hp with y | ⟨w, s, hw, -, y, -⟩
      · exact y.2
      · rw [y] at z; exact absurd z (nI_ne1 (by omega))
    · intro p hp hp2
      rw [z38, z38]
      exact ⟨(pe.2.2.2 p hp hp2).1, (pe.2.2.2 p hp hp2).2.1⟩
  have hB : t * 99990 + m * 99990 < 2 ^ 32 := by omega
  obtain ⟨⟨d1, d2, d3, d4⟩, ⟨R2, e1, e2, e3⟩, -, -, pe2⟩ := days1 le.2.2.2.2 le.2.1 m t (t * 99990) _ _ d0 rfl rfl hm hB
  have ax := pM_ax h (cn h 12) (cn h 10) m
  -- cells of the end
  have x13 : vi (pM h (cn h 12) (cn h 10) m) (0, 0) 13 = nI (t + m) := by rw [ax.2.2.2.2 0 0 13 rfl, xT_o _ _ (by decide)]; exact d1
  have m23 : vi (pM h (cn h 12) (cn h 10) m) (32, 0) 23 = nI (t + m) := by unfold pM; rw [mT_o _ _ (by decide)]; exact d2
  have x9 : ∀ p f, f ≠ 14 → vi (pM h (cn h 12) (cn h 10) m) (9, p) f = vi (xDays m h) (9, p) f := fun p f hf => by rw [ax.2.2.2.2 9 p f rfl, xT_o _ _ hf]
  have m38 : ∀ i p, vi (pM h (cn h 12) (cn h 10) m) (38, i) p = vi (mDays (cn h 12) (cn h 10) m (mZ (pX h m))) (38, i) p := fun i p => by unfold pM; rw [mT_o _ _ (fun z => by cases z)]
  have e14 : vi (pM h (cn h 12) (cn h 10) m) (0, 0) 14 = 0 := by rw [ax.2.2.2.2 0 0 14 rfl]; exact xT_14 _ _
  have N := Bool.false_ne_true
  have mj1 : MJ (pX h m) := MJ_congr (pX_E (subX (fun _ _ => N) (fun _ => N) (fun _ => N) (fun _ => N) N) N h m) r.2.2.1
  refine ⟨⟨?_, ?_, ?_, ?_, ?_, ?_, ?_, ?_, ?_, ?_, ?_, ?_⟩, ⟨mj1, le.2.2.2.2, le.2.2.1, ?_, ?_, ?_⟩, d1, d2⟩
  · exact XI_congr (pM_E (subX (fun _ _ => N) (fun _ => N) (fun _ => N) (fun _ => N) N) (subM (fun _ => N) (fun _ => N) (fun _ => N) (fun _ => N) (fun _ => N)) N N N N h _ _ m) r.1
  · exact LD_congr (pM_E (subX (fun _ _ => N) (fun _ => N) (fun _ => N) (fun _ => N) N) (subM (fun _ => N) (fun _ => N) (fun _ => N) (fun _ => N) (fun _ => N)) N N N N h _ _ m) r.2.1
  · exact MJ_congr (pM_E (subX (fun _ _ => N) (fun _ => N) (fun _ => N) (fun _ => N) N) (subM (fun _ => N) (fun _ => N) (fun _ => N) (fun _ => N) (fun _ => N)) N N N N h _ _ m) r.2.2.1
  · exact ScA_day r.2.2.2.1 (pM_E (subX (fun _ _ => N) (fun _ => N) (fun _ => N) (fun _ => N) N) (subM (fun _ => N) (fun _ => N) (fun _ => N) (fun _ => N) (fun _ => N)) N N N N h _ _ m) hm x13 m23 e14 (mT_1 _ _) (mT_2 _ _)
  · exact TaR_congr (pM_E (subX (fun _ _ => N) (fun _ => N) (fun _ => N) (fun _ => N) N) (subM (fun _ => N) (fun _ => N) (fun _ => N) (fun _ => N) (fun _ => N)) N N N N h _ _ m) r.2.2.2.2.1
  · refine PeR_day pe (pM_E (subX (fun _ _ => N) (fun _ => N) (fun _ => N) (fun _ => N) N) (subM (fun _ => N) (fun _ => N) (fun _ => N) (fun _ => N) (fun _ => N)) N N N N h _ _ m) (fun p hp => ?_) (fun p hp hp2 => ?_)
    · rw [x9 _ _ (by decide), x9 _ _ (by decide), m38, m38]; exact ⟨(pe2.1 p hp).1, (pe2.1 p hp).2.1⟩
    · rw [m38, m38]; exact pe2.2 p hp hp2
  · exact PaR_day r.2.2.2.2.2.2.1 (pM_E (subX (fun _ _ => N) (fun _ => N) (fun _ => N) (fun _ => N) N) (subM (fun _ => N) (fun _ => N) (fun _ => N) (fun _ => N) (fun _ => N)) N N N N h _ _ m) (by rw [x13, t1]; exact nI_le (by omega) (by omega))
  · exact RoR_day ro (pM_E (subX (fun _ _ => N) (fun _ => N) (fun _ => N) (fun _ => N) N) (subM (fun _ => N) (fun _ => N) (fun _ => N) (fun _ => N) (fun _ => N)) N N N N h _ _ m) ht hm (by omega) t1 x13 (fun p hp => by rw [x9 _ _ (by decide), x9 _ _ (by decide)]; exact (pe2.1 p hp).2.2)
  · exact TrR_congr (pM_E (subX (fun _ _ => N) (fun _ => N) (fun _ => N) (fun _ => N) N) (subM (fun _ => N) (fun _ => N) (fun _ => N) (fun _ => N) (fun _ => N)) N N N N h _ _ m) r.2.2.2.2.2.2.2.2.1
  · exact LaR_congr (pM_E (subX (fun _ _ => N) (fun _ => N) (fun _ => N) (fun _ => N) N) (subM (fun _ => N) (fun _ => N) (fun _ => N) (fun _ => N) (fun _ => N)) N N N N h _ _ m) la
  · refine ⟨vi (pM h (cn h 12) (cn h 10) m) (32, 0) 50, R2, t + m, trivial, hm, x13, by rw [Nat.add_mul]; exact e1, ?_, rfl, ?_, ?_⟩
    · rw [ax.2.2.2.2 6 0 0 rfl, xT_o _ _ (by decide), d4]; unfold pM; rw [mT_o _ _ (by decide)]
    · rw [ax.2.2.2.1 6 0 1 rfl]; exact e2
    · unfold pM; rw [mT_o _ _ (by decide)]; exact e3
  · exact SR_congr (pM_E (subX (fun _ _ => N) (fun _ => N) (fun _ => N) (fun _ => N) N) (subM (fun _ => N) (fun _ => N) (fun _ => N) (fun _ => N) (fun _ => N)) N N N N h _ _ m) r.2.2.2.2.2.2.2.2.2.2.2
  · rw [am.2.2.2.2 32 0 48 rfl]; exact la.1
  · rw [am.2.2.2.2 32 0 36 rfl]; exact ro.1
  · intro l hl
    rw [am.2.2.2.2 38 18 l rfl]
    obtain ⟨a, b, c, -, h1, h2, -, -, -, -, k, -⟩ := la.2 l hl
    rw [k]; exact nI_ne0 (by omega) (by omega)
theorem pM_cn (h : Hp) (n r m : Nat) : cn (pM h n r m) = cn h := funext fun p => (pM_E (P := fCn) (subX (fun _ _ => Bool.false_ne_true) (fun _ => Bool.false_ne_true) (fun _ => Bool.false_ne_true) (fun _ => Bool.false_ne_true) Bool.false_ne_true) (subM (fun _ => Bool.false_ne_true) (fun _ => Bool.false_ne_true) (fun _ => Bool.false_ne_true) (fun _ => Bool.false_ne_true) (fun _ => Bool.false_ne_true)) Bool.false_ne_true Bool.false_ne_true Bool.false_ne_true Bool.false_ne_true h n r m).1 p rfl
set_option maxRecDepth 20000 in
theorem op_pass (g : G0) (h : Hp) (r : RR h) {d : Int32} : Op g h yX11_pass wX11_pass (pR (0, 0) :: [pI d]) yX14_pass wX14_pass (pR (32, 0) :: [pI d]) 8 12 0 0 0 0 := by
  have le := r.1.le
  have la := r.2.2.2.2.2.2.2.2.2.1
  have ro := r.2.2.2.2.2.2.2.1
  obtain ⟨T, hT, t1, t2⟩ := r.2.2.2.1.2.2.1
  have mj2 : MJ (xT h 2) := MJ_congr (Eqv.sI (Eqv.rf _) Bool.false_ne_true) r.2.2.1
  have dn2 : DN (cn h 12) (cn h 10) (xT h 2) := ⟨mj2, le.2.2.2.2, le.2.2.1, by rw [xT_o _ _ (by decide)]; exact la.1, by rw [xT_o _ _ (by decide)]; exact ro.1, fun l hl => by
    obtain ⟨a, b, c, -, h1, h2, -, -, -, -, k, -⟩ := la.2 l hl
    unfold xT; rw [vi_sI_ne _ _ _ _ (by decide), k]; exact nI_ne0 (by omega) (by omega)⟩
  have refu : xPass h d = (-1, xT h 2) → mPass (cn h 12) (cn h 10) (xT h 2) d = (-1, mT (mZ (xT h 2)) 2) → Op g h yX11_pass wX11_pass (pR (0, 0) :: [pI d]) yX14_pass wX14_pass (pR (32, 0) :: [pI d]) 8 12 0 0 0 0 := fun eX eY => Op.of2 _ _ _ eX eY (m_pass g h r.1) (M_pass g _ dn2) (RR_ref2 r) rfl
  by_cases c1 : d < 1
  · exact refu (by unfold xPass; rw [if_pos c1]) (by unfold mPass mIn; rw [if_pos c1, if_pos rfl])
  · by_cases c2 : 400 < d
    · exact refu (by unfold xPass; rw [if_neg c1, if_pos c2]) (by unfold mPass mIn; rw [if_neg c1, if_pos c2, if_pos rfl])
    · have c3 : ¬ mIn d 1 400 = 0 := by unfold mIn; rw [if_neg c1, if_neg c2]; decide
      obtain ⟨m, hm, rfl⟩ := rng400 c1 c2
      have q1 : nI m ≤ 40000 - vi h (0, 0) 13 ↔ T + m ≤ 40000 := by
        rw [t1, show (40000 : Int32) - nI T = nI (40000 - T) from nI_sub (a := 40000) hT, nI_leI (by omega) (by omega)]; omega
      have q2 : ∀ h', vi h' (32, 0) 23 = nI T → (vi h' (32, 0) 23 + nI m ≤ 40000 ↔ T + m ≤ 40000) := fun h' e => by
        rw [e, nI_add]; exact nI_leI (b := 40000) (by omega) (by decide)
      by_cases c4 : T + m ≤ 40000
      · obtain ⟨rr, dn, x13, m23⟩ := RR_pass r t1 t2 c4
        have eX : xPass h (nI m) = (nI (T + m), pX h m) := by unfold xPass pX; rw [if_neg c1, if_neg c2, if_pos (q1.mpr c4), nI_clamp (by omega), x13]
        have e23 : vi (pX h m) (32, 0) 23 = nI T := by rw [(pX_am h m).2.2.2.2 32 0 23 rfl]; exact t2
        have eY : mPass (cn h 12) (cn h 10) (pX h m) (nI m) = (nI (T + m), pM h (cn h 12) (cn h 10) m) := by unfold mPass pM; rw [if_neg c3, if_pos ((q2 _ e23).mpr c4), nI_clamp (by omega), m23]
        exact Op.of2 _ _ _ eX eY (m_pass g h r.1) (M_pass g _ dn) rr (pM_cn h _ _ m)
      · exact refu (by unfold xPass; rw [if_neg c1, if_neg c2, if_neg (fun z => c4 (q1.mp z))]) (by unfold mPass; rw [if_neg c3, if_neg (fun z => c4 ((q2 _ (by rw [xT_o _ _ (by decide)]; exact t2)).mp z))])
