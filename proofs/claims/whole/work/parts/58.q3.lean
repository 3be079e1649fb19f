/-! the people of both sides -/
def P1 (h : Hp) (p : Nat) : Prop := vi h (9, p) 0 = vi h (38, 0) p ∧ vi h (9, p) 1 = vi h (38, 1) p ∧ vi h (9, p) 2 = vi h (39, 0) p ∧ vi h (9, p) 3 = vi h (38, 2) p ∧ ((vi h (9, p) 7 = 2147483647 ∧ vi h (38, 3) p = -1) ∨ ∃ u, u ≤ 40000 ∧ vi h (9, p) 7 = nI u ∧ vi h (38, 3) p = nI u) ∧ vi h (9, p) 8 = vi h (38, 6) p ∧ vi h (9, p) 9 = vi h (38, 4) p ∧ vi h (9, p) 10 = vi h (38, 5) p ∧ vi h (9, p) 6 = vi h (38, 7) p ∧ ∀ i, i < 6 → vi h (18, p) i = vi h (38, 8) (6 * p + i) ∧ vi h (19, p) i = vi h (38, 9) (6 * p + i)
def P2 (h : Hp) (p : Nat) : Prop := (-40000 ≤ (vi h (9, p) 0).toInt ∧ (vi h (9, p) 0).toInt ≤ 40000) ∧ (-40000 ≤ (vi h (9, p) 1).toInt ∧ (vi h (9, p) 1).toInt ≤ 40000) ∧ (∃ a, a ≤ 40000 ∧ vi h (9, p) 3 = nI a) ∧ (∀ i, i < 6 → (∃ u, u ≤ 40000 ∧ vi h (18, p) i = nI u) ∧ ∃ u, u ≤ 9999 ∧ vi h (19, p) i = nI u)
def P0 (h : Hp) (p : Nat) : Prop := vi h (38, 4) p = 0 ∧ vi h (38, 5) p = 0 ∧ vi h (38, 7) p = 0 ∧ ∀ i, i < 6 → vi h (38, 8) (6 * p + i) = 0 ∧ vi h (38, 9) (6 * p + i) = 0
def PeR (h : Hp) : Prop := vi h (32, 0) 22 = nI (cn h 9) ∧ cn h 9 ≤ 40 ∧ (∀ p, p < cn h 9 → P1 h p ∧ P2 h p) ∧ (∀ p, cn h 9 ≤ p → p < 40 → P0 h p)
theorem nI_div365 {u : Nat} (hu : u < 2 ^ 31) : nI u / 365 = nI (u / 365) := by
  have h1 : u / 365 ≤ u := Nat.div_le_self _ _
  refine Int32.toInt_inj.mp ?_
  rw [Jvm.Kit.i32_div (by rw [nI_toInt hu]; omega), nI_toInt hu, nI_toInt (by omega)]
  show ((u : Int).tdiv ((365 : Nat) : Int)) = _
  rw [← Int.ofNat_tdiv]
theorem dif_ok {D : Nat} {b : Int32} (hD : D ≤ 40000) (h1 : -40000 ≤ b.toInt) (h2 : b.toInt ≤ 40000) : (b ≤ nI D ∧ ∃ u, u ≤ 80000 ∧ nI D - b = nI u) ∨ (¬ b ≤ nI D ∧ ¬ 0 < nI D - b) := by
  have e : (nI D - b).toInt = (D : Int) - b.toInt := by rw [Jvm.Kit.i32_sub (by rw [nI_toInt (by omega)]; omega) (by rw [nI_toInt (by omega)]; omega), nI_toInt (by omega)]
  by_cases c : b ≤ nI D
  · refine Or.inl ⟨c, ((D : Int) - b.toInt).toNat, ?_, ?_⟩
    · omega
    · rw [Int32.le_iff_toInt_le, nI_toInt (by omega)] at c
      refine Int32.toInt_inj.mp ?_
      rw [e, nI_toInt (by omega)]; omega
  · refine Or.inr ⟨c, fun z => ?_⟩
    rw [Int32.le_iff_toInt_le, nI_toInt (by omega)] at c
    rw [Int32.lt_iff_toInt_lt, e, Int32.toInt_zero] at z
    omega
theorem dif_val {D : Nat} {b : Int32} (hD : D ≤ 40000) (h1 : -40000 ≤ b.toInt) (h2 : b.toInt ≤ 40000) : (if 0 < nI D - b then nI D - b else 0) / 365 = (if b ≤ nI D then (nI D - b) / 365 else 0) ∧ ∃ u, u ≤ 40000 ∧ (if 0 < nI D - b then nI D - b else 0) / 365 = nI u := by
  rcases dif_ok hD h1 h2 with ⟨c, u, hu, e⟩ | ⟨c1, c2⟩
  · have e0 : (if 0 < nI D - b then nI D - b else 0) = nI u := by
      rw [e]
      by_cases z : u = 0
      · rw [z]; rfl
      · rw [if_pos]; exact nI_lt (a := 0) (by omega) (by omega)
    rw [e0, if_pos c, e, nI_div365 (by omega)]
    exact ⟨rfl, u / 365, by omega, rfl⟩
  · rw [if_neg c2, if_neg c1]
    exact ⟨by decide, 0, by omega, by decide⟩
theorem dif_wait {D a : Nat} (hD : D ≤ 40000) (ha : a ≤ 40000) : ∃ u, u ≤ 40000 ∧ (if 0 < nI D - nI a then nI D - nI a else 0) = nI u := by
  by_cases c : a ≤ D
  · rw [nI_sub c]
    refine ⟨D - a, by omega, ?_⟩
    by_cases z : D - a = 0
    · rw [z]; rfl
    · rw [if_pos]; exact nI_lt (a := 0) (by omega) (by omega)
  · refine ⟨0, by omega, ?_⟩
    rcases dif_ok (b := nI a) hD (by rw [nI_toInt (by omega)]; omega) (by rw [nI_toInt (by omega)]; omega) with ⟨z, -⟩ | ⟨-, z⟩
    · exact absurd z (nI_ge (by omega) (by omega))
    · rw [if_neg z]; rfl
theorem mean_rel {h : Hp} {p : Nat} (hp : p < 40) (e : ∀ i, i < 6 → vi h (18, p) i = vi h (38, 8) (6 * p + i) ∧ vi h (19, p) i = vi h (38, 9) (6 * p + i)) (pos : ∀ i, i < 6 → (∃ u, u ≤ 40000 ∧ vi h (18, p) i = nI u) ∧ ∃ u, u ≤ 9999 ∧ vi h (19, p) i = nI u) {day : Int32} : ∀ (j i : Nat) (s v b : Int32), i + j ≤ 6 → ((b = -1 ∧ s = -1 ∧ v = 0) ∨ ∃ q, q < 6 ∧ b = nI (6 * p + q) ∧ s = vi h (18, p) q ∧ v = vi h (19, p) q) → meL h p day j i s v = (if mML h day j (6 * p + i) b = -1 then 0 else vi h (38, 9) (mML h day j (6 * p + i) b).toNatClampNeg) ∧ ∃ u, u ≤ 9999 ∧ meL h p day j i s v = nI u
  | 0, i, s, v, b, _, hr => by
    rw [meL, mML]
    rcases hr with ⟨h1, h2, h3⟩ | ⟨q, hq, h1, h2, h3⟩
    · rw [if_pos h1]; exact ⟨h3, 0, by omega, h3⟩
    · rw [if_neg (by rw [h1]; exact nI_ne1 (by omega)), h1, nI_clamp (by omega)]
      exact ⟨h3.trans (e q hq).2, by rw [h3]; exact (pos q hq).2⟩
  | j + 1, i, s, v, b, hi, hr => by
    have e1 := (e i (by omega)).1
    have take := mean_rel hp e pos j (i + 1) (vi h (18, p) i) (vi h (19, p) i) (nI (6 * p + i)) (by omega) (Or.inr ⟨i, by omega, rfl, rfl, rfl⟩) (day := day)
    have skip := mean_rel hp e pos j (i + 1) s v b (by omega) hr (day := day)
    rw [show 6 * p + (i + 1) = 6 * p + i + 1 by omega] at take skip
    rw [meL, mML, ← e1]
    by_cases c1 : day < vi h (18, p) i
    · rw [if_pos (Or.inl c1), if_pos c1]; exact skip
    · rw [if_neg c1]
      rcases hr with ⟨h1, h2, h3⟩ | ⟨q, hq, h1, h2, h3⟩
      · rw [if_pos h1, if_neg]
        · exact take
        · rintro (z | z)
          · exact c1 z
          · obtain ⟨u, hu, eu⟩ := (pos i (by omega)).1
            rw [eu, h2] at z
            exact nI_pos (n := u) (by omega) (Int32.lt_trans z (by decide))
      · rw [if_neg (show ¬ b = -1 by rw [h1]; exact nI_ne1 (by omega))]
        have eb : vi h (38, 8) b.toNatClampNeg = s := by rw [h1, nI_clamp (by omega), h2]; exact ((e q hq).1).symm
        rw [eb]
        by_cases c2 : vi h (18, p) i < s
        · rw [if_pos (Or.inr c2), if_pos c2]; exact skip
        · rw [if_neg c2, if_neg (fun z => z.elim c1 c2)]; exact take
theorem tell_eq {h : Hp} {p : Nat} (hp : p < 40) (a : P1 h p) (b : P2 h p) {t : Nat} (ht : t ≤ 6) (et : vi h (9, p) 6 = nI t) {D : Nat} (hD : D ≤ 40000) {m : Nat} (hm : m < 5) : xTell h p m (nI D) = mFc h p m (nI D) ∧ ∃ u, u ≤ 40000 ∧ xTell h p m (nI D) = nI u := by
  obtain ⟨a0, a1, a2, a3, -, -, -, -, a6, am⟩ := a
  obtain ⟨b0, b1, b3, bm⟩ := b
  match m, hm with
  | 0, _ =>
    have K := dif_val hD b0.1 b0.2
    refine ⟨?_, K.2⟩
    show _ = (if vi h (38, 0) p ≤ nI D then (nI D - vi h (38, 0) p) / 365 else 0)
    rw [← a0]; exact K.1
  | 1, _ =>
    have K := dif_val hD b1.1 b1.2
    refine ⟨?_, K.2⟩
    show _ = (if vi h (38, 1) p ≤ nI D then (nI D - vi h (38, 1) p) / 365 else 0)
    rw [← a1]; exact K.1
  | 2, _ =>
    have K := mean_rel hp am bm (day := nI D) t 0 (-1) 0 (-1) (by omega) (Or.inl ⟨rfl, rfl, rfl⟩)
    have e1 : xTell h p 2 (nI D) = meL h p (nI D) t 0 (-1) 0 := by
      show xMean h p (nI D) = _
      rw [xMean, et, nI_clamp (by omega)]
    have e2 : mFc h p 2 (nI D) = (if mML h (nI D) t (6 * p + 0) (-1) = -1 then 0 else vi h (38, 9) (mML h (nI D) t (6 * p + 0) (-1)).toNatClampNeg) := by
      show mMean h p (nI D) = _
      rw [mMean, ← a6, et, nI_clamp (by omega)]; rfl
    rw [e1, e2]
    obtain ⟨u, hu, eu⟩ := K.2
    exact ⟨K.1, u, by omega, eu⟩
  | 3, _ =>
    refine ⟨?_, ?_⟩
    · show (if vi h (9, p) 2 = 0 then 0 else 1) = (if vi h (39, 0) p = 0 then 0 else 1)
      rw [a2]
    · show ∃ u, u ≤ 40000 ∧ (if vi h (9, p) 2 = 0 then 0 else 1) = nI u
      by_cases z : vi h (9, p) 2 = 0
      · exact ⟨0, by omega, by rw [if_pos z]; rfl⟩
      · exact ⟨1, by omega, by rw [if_neg z]; rfl⟩
  | 4, _ =>
    obtain ⟨q, hq, eq⟩ := b3
    refine ⟨?_, ?_⟩
    · show (if 0 < nI D - vi h (9, p) 3 then nI D - vi h (9, p) 3 else 0) = (if 0 < nI D - vi h (38, 2) p then nI D - vi h (38, 2) p else 0)
      rw [a3]
    · show ∃ u, u ≤ 40000 ∧ (if 0 < nI D - vi h (9, p) 3 then nI D - vi h (9, p) 3 else 0) = nI u
      rw [eq]
      exact dif_wait hD hq
/-- the ground of a question: of will w on day D -/
def QB (h : Hp) (n : Nat) (w : Int32) (D : Nat) : Prop := MJ h ∧ MK h n ∧ ScR h n ∧ PeR h ∧ PSh h ∧ D ≤ 40000 ∧ ∀ m, m < 13 → vr h (15, 0) m = xLat h w (nI D) (cn h 8) m
theorem QB.tell {h : Hp} {n : Nat} {w : Int32} {D : Nat} (b : QB h n w D) {p m : Nat} (hp : p < cn h 9) (hm : m < 5) : xTell h p m (nI D) = mFc h p m (nI D) ∧ ∃ u, u ≤ 40000 ∧ xTell h p m (nI D) = nI u := by
  obtain ⟨-, -, -, c, d, e, -⟩ := b
  obtain ⟨-, -, -, t, ht, et⟩ := d p hp
  exact tell_eq (by have := c.2.1; omega) (c.2.2.1 p hp).1 (c.2.2.1 p hp).2 ht et e hm
theorem M_fnd (g : G0) (h : Hp) {n : Nat} {w : Int32} {D : Nat} (b : QB h n w D) {h0 h' : Hp} (q : Qf h h0 h') {m : Nat} (h1 : 1 ≤ m) (hm : m ≤ 12) : Mx g yX14_finds wX14_finds 0 [pR (32, 0), pI w, pI (nI m), pI (nI D)] h' 0 0 (fun r h2 => Qf h h0 h2 ∧ ((r = some (pI 0) ∧ xCl h m = none) ∨ ∃ k c, k < n ∧ c < chN h k ∧ r = some (pI 1) ∧ xCl h m = some (8, offN h k + c) ∧ vi h2 (32, 0) 20 = nI k ∧ vi h2 (32, 0) 21 = nI c ∧ PutR h k c (offN h k + c) ∧ vi h (8, offN h k + c) 0 = nI k)) noX := by
  obtain ⟨b1, b2, b3, b4, b5, b6, b7⟩ := b
  refine Mx.mono ?_ (fun _ _ z => z) (M_findsQ g h b2 q (w := w) (nu := nI m) (d := nI D))
  rintro r h2 ⟨c0, rfl, q2, e20, e21⟩
  refine ⟨q2, ?_⟩
  have R := fB_rel b2.2.1 b3 (w := w) (d := nI D) (nu := m) hm c0
  have eL := b7 m (by omega)
  rcases R with ⟨z1, z2⟩ | ⟨k, c, hk, hc, z1, z2, z3⟩
  · refine Or.inl ⟨by rw [fEnd, if_pos z1], ?_⟩
    rw [xCl, eL, z2]
  · have r := (b3.2 k hk).2 c hc
    have c12 := (b3.2 k hk).1
    have k40 := b2.2.1
    have eF : fEnd h (fB h n w (nI m) (nI D) c0) = if vi h (40, k) c = 1 then 0 else 1 := by
      rw [fEnd, z1, if_neg (nI_ne1 (by omega))]
      show (if vi h (40, (nI k).toNatClampNeg) (nI c).toNatClampNeg = 1 then _ else _) = _
      rw [nI_clamp (by omega), nI_clamp (by omega)]
    have eX : xCl h m = if vi h (8, offN h k + c) 3 = 5 then some (8, offN h k + c) else none := by rw [xCl, eL, z2]
    rw [z1] at e20 e21
    rcases r.2.2.2 with ⟨m', m1, m2, m3, m4, ⟨w1, w2, w3⟩ | ⟨w1, w2⟩⟩ | ⟨w1, w2, w3, w4⟩
    · refine Or.inr ⟨k, c, hk, hc, ?_, ?_, e20, e21, w3, r.1⟩
      · rw [eF, w1]; rfl
      · rw [eX, if_pos w2]
    · refine Or.inl ⟨?_, ?_⟩
      · rw [eF, w1]; rfl
      · rw [eX, w2]; rfl
    · rw [z3] at w3
      have := (nI_eq (by omega) (by omega)).mp w3
      omega
theorem M_fnd0 (g : G0) (h : Hp) {n : Nat} {w : Int32} {D : Nat} (b : QB h n w D) {h0 h' : Hp} (q : Qf h h0 h') : Mx g yX14_finds wX14_finds 0 [pR (32, 0), pI w, pI 0, pI (nI D)] h' 0 0 (fun r h2 => Qf h h0 h2 ∧ ((r = some (pI 0) ∧ vr h (15, 0) 0 = none) ∨ ∃ k c, k < n ∧ c < chN h k ∧ r = some (pI 1) ∧ vr h (15, 0) 0 = some (8, offN h k + c) ∧ vi h2 (32, 0) 20 = nI k ∧ vi h2 (32, 0) 21 = nI c ∧ OrdR h k c (offN h k + c))) noX := by
  obtain ⟨b1, b2, b3, b4, b5, b6, b7⟩ := b
  refine Mx.mono ?_ (fun _ _ z => z) (M_findsQ g h b2 q (w := w) (nu := nI 0) (d := nI D))
  rintro r h2 ⟨c0, rfl, q2, e20, e21⟩
  refine ⟨q2, ?_⟩
  have R := fB_rel b2.2.1 b3 (w := w) (d := nI D) (nu := 0) (by omega) c0
  have eL := b7 0 (by omega)
  rcases R with ⟨z1, z2⟩ | ⟨k, c, hk, hc, z1, z2, z3⟩
  · exact Or.inl ⟨by rw [fEnd, if_pos z1], eL.trans z2⟩
  · have r := (b3.2 k hk).2 c hc
    have c12 := (b3.2 k hk).1
    have k40 := b2.2.1
    have eF : fEnd h (fB h n w (nI 0) (nI D) c0) = if vi h (40, k) c = 1 then 0 else 1 := by
      rw [fEnd, z1, if_neg (nI_ne1 (by omega))]
      show (if vi h (40, (nI k).toNatClampNeg) (nI c).toNatClampNeg = 1 then _ else _) = _
      rw [nI_clamp (by omega), nI_clamp (by omega)]
    rw [z1] at e20 e21
    rcases r.2.2.2 with ⟨m', m1, m2, m3, m4, -⟩ | ⟨w1, w2, w3, w4⟩
    · rw [z3] at m4
      have := (nI_eq (by omega) (by omega)).mp m4
      omega
    · refine Or.inr ⟨k, c, hk, hc, ?_, eL.trans z2, e20, e21, w4⟩
      rw [eF, w1]; rfl
