/-! days of both sides: hx holds the class's cells, hm the reference's -/
def La2 (hx hm : Hp) (n : Nat) : Prop := ∀ l, l < n → ∃ r e f, r ≤ 9999 ∧ 1 ≤ e ∧ e ≤ 400 ∧ f ≤ 40000 ∧ vi hx (12, l) 0 = nI r ∧ vi hm (38, 17) l = nI r ∧ vi hx (12, l) 1 = nI e ∧ vi hm (38, 18) l = nI e ∧ vi hx (12, l) 2 = nI f ∧ vi hm (38, 19) l = nI f
def Ro2 (hx hm : Hp) (m N : Nat) : Prop := ∀ r, r < m → (vr hx (10, r) 1 = none ∧ vi hm (38, 11) r = -1) ∨ ∃ s q, q < N ∧ s < 100 ∧ vr hx (10, r) 1 = some (11, s) ∧ vi hm (38, 11) r = nI s ∧ vi hx (11, s) 1 = nI q ∧ vi hm (38, 14) s = nI q ∧ ¬ vi hx (9, q) 8 = -1
def Pe2 (hx hm : Hp) (N : Nat) : Prop := (∀ p, p < N → vi hx (9, p) 9 = vi hm (38, 4) p ∧ vi hx (9, p) 10 = vi hm (38, 5) p ∧ (vi hx (9, p) 8 = -1 → vi hx (9, p) 9 = 0)) ∧ ∀ p, N ≤ p → p < 40 → vi hm (38, 4) p = 0 ∧ vi hm (38, 5) p = 0
def Re2 (hx hm : Hp) (B : Nat) : Prop := ∃ R, R ≤ B ∧ (vl hx (6, 0) 1).toInt = (R : Int) ∧ vi hm (32, 0) 51 = nI (if R < 2000000000 then R else 2000000000)
def Mo2 (hx hm : Hp) (T : Nat) : Prop := vi hx (0, 0) 13 = nI T ∧ vi hm (32, 0) 23 = nI T ∧ vi hx (0, 0) 12 = vi hm (32, 0) 49 ∧ vi hx (6, 0) 0 = vi hm (32, 0) 50
def DyR (n m N : Nat) (hx hm : Hp) (T B : Nat) : Prop := Mo2 hx hm T ∧ Re2 hx hm B ∧ La2 hx hm n ∧ Ro2 hx hm m N ∧ Pe2 hx hm N
/-! what a day leaves -/
def fDx : Fpt := (fun _ => true, fun _ => true, fun _ => true, fun p => !(p == 6), fun p i f => !(p == 6) && !(p == 0 && f == 13) && !(p == 9 && (f == 9 || f == 10)))
def fDm : Fpt := (fun _ => true, fun _ => true, fun _ => true, fun _ => true, fun p i f => !(p == 32 && (f == 23 || f == 50 || f == 51)) && !(p == 38 && (i == 4 || i == 5)))
def subF (P Q : Fpt) : Prop := (∀ p, P.1 p = true → Q.1 p = true) ∧ (∀ p, P.2.1 p = true → Q.2.1 p = true) ∧ (∀ p, P.2.2.1 p = true → Q.2.2.1 p = true) ∧ (∀ p, P.2.2.2.1 p = true → Q.2.2.2.1 p = true) ∧ ∀ p i f, P.2.2.2.2 p i f = true → Q.2.2.2.2 p i f = true
theorem chIn_e (h : Hp) (r : Int32) : Eqv fDx h (chIn h r) := Eqv.sI (Eqv.sL (Eqv.rf _) Bool.false_ne_true) Bool.false_ne_true
theorem xBr1_e (h : Hp) (k : Nat) : Eqv fDx h (xBr1 h k) := by
  unfold xBr1; split
  · exact Eqv.rf _
  · exact chIn_e h _
theorem xBring_e : ∀ (j k : Nat) (h : Hp), Eqv fDx h (xBring j k h)
  | 0, _, h => Eqv.rf h
  | j + 1, k, h => (xBr1_e h k).tr (xBring_e j (k + 1) _)
theorem xPay1_e (h : Hp) (q : Nat) : Eqv fDx h (xPay1 h q) := Eqv.sI (Eqv.sI (Eqv.sI (Eqv.rf _) Bool.false_ne_true) Bool.false_ne_true) Bool.false_ne_true
theorem xPy_e (h : Hp) (k : Nat) : Eqv fDx h (xPy h k) := by
  unfold xPy; split
  · exact Eqv.rf _
  · exact xPay1_e h _
theorem xPays_e : ∀ (j k : Nat) (h : Hp), Eqv fDx h (xPays j k h)
  | 0, _, h => Eqv.rf h
  | j + 1, k, h => (xPy_e h k).tr (xPays_e j (k + 1) _)
theorem tdH_e (h : Hp) : Eqv fDx h (tdH h) := Eqv.sI (Eqv.rf _) Bool.false_ne_true
theorem rtH_e (h : Hp) : Eqv fDx h (rtH h) := (tdH_e h).tr (xBring_e _ _ _)
theorem xDay_e (h : Hp) : Eqv fDx h (xDay h) := by
  unfold xDay; split
  · exact (rtH_e h).tr (xPays_e _ _ _)
  · exact rtH_e h
theorem xDays_e : ∀ (j : Nat) (h : Hp), Eqv fDx h (xDays j h)
  | 0, h => Eqv.rf h
  | j + 1, h => (xDay_e h).tr (xDays_e j _)
theorem mB1_e (h : Hp) (k : Nat) : Eqv fDm h (mB1 h k) := by
  unfold mB1; split
  · exact Eqv.rf _
  · split
    · exact Eqv.sI (Eqv.sI (Eqv.rf _) Bool.false_ne_true) Bool.false_ne_true
    · exact Eqv.rf _
theorem mBr_e : ∀ (j k : Nat) (h : Hp), Eqv fDm h (mBr j k h)
  | 0, _, h => Eqv.rf h
  | j + 1, k, h => (mB1_e h k).tr (mBr_e j (k + 1) _)
theorem mPy_e (h : Hp) (k : Nat) : Eqv fDm h (mPy h k) := by
  unfold mPy; split
  · exact Eqv.rf _
  · exact Eqv.sI (Eqv.sI (Eqv.sI (Eqv.rf _) Bool.false_ne_true) Bool.false_ne_true) Bool.false_ne_true
theorem mPs_e : ∀ (j k : Nat) (h : Hp), Eqv fDm h (mPs j k h)
  | 0, _, h => Eqv.rf h
  | j + 1, k, h => (mPy_e h k).tr (mPs_e j (k + 1) _)
theorem mDy1_e (n : Nat) (h : Hp) : Eqv fDm h (mDy1 n h) := (show Eqv fDm h (mTd h) from Eqv.sI (Eqv.rf _) Bool.false_ne_true).tr (mBr_e n 0 _)
theorem mDayH_e (n r : Nat) (h : Hp) : Eqv fDm h (mDayH n r h) := by
  unfold mDayH; split
  · exact (mDy1_e n h).tr (mPs_e _ _ _)
  · exact mDy1_e n h
theorem mDays_e (n r : Nat) : ∀ (j : Nat) (h : Hp), Eqv fDm h (mDays n r j h)
  | 0, h => Eqv.rf h
  | j + 1, h => (mDayH_e n r h).tr (mDays_e n r j _)
theorem Eqv.sub {P Q : Fpt} (s : subF P Q) {h h' : Hp} (e : Eqv Q h h') : Eqv P h h' := ⟨fun p z => e.1 p (s.1 p z), fun p i z => e.2.1 p i (s.2.1 p z), fun p i k z => e.2.2.1 p i k (s.2.2.1 p z), fun p i k z => e.2.2.2.1 p i k (s.2.2.2.1 p z), fun p i f z => e.2.2.2.2 p i f (s.2.2.2.2 p i f z)⟩
/-! the steps -/
theorem chIn_c (h : Hp) (r : Int32) : vi (chIn h r) (6, 0) 0 = (if vi h (6, 0) 0 + r < 1000000 then vi h (6, 0) 0 + r else 1000000) ∧ vl (chIn h r) (6, 0) 1 = vl h (6, 0) 1 + r.toInt64 := by
  unfold chIn
  refine ⟨by rw [vi_sI_eq], ?_⟩
  rw [vl_sI, vl_sL, if_pos ⟨rfl, rfl⟩]
theorem chIn_o (h : Hp) (r : Int32) {a : Ad} (f : Nat) (ha : a ≠ (6, 0)) : vi (chIn h r) a f = vi h a f := by
  unfold chIn; rw [vi_sI_ne _ _ _ _ ha, vi_sL]
theorem mCh_c (h : Hp) (k : Nat) : vi (mRe (mCh h k) k) (32, 0) 50 = (if vi h (32, 0) 50 + vi h (38, 17) k < 1000000 then vi h (32, 0) 50 + vi h (38, 17) k else 1000000) ∧ vi (mRe (mCh h k) k) (32, 0) 51 = (if (vi h (32, 0) 51).toInt64 + (vi h (38, 17) k).toInt64 < 2000000000 then (vi h (32, 0) 51).toInt64 + (vi h (38, 17) k).toInt64 else 2000000000).toInt32 := by
  have e1 : vi (mCh h k) (32, 0) 51 = vi h (32, 0) 51 := by unfold mCh; rw [vi_sI_nk _ _ _ (by decide)]
  have e2 : vi (mCh h k) (38, 17) k = vi h (38, 17) k := by unfold mCh; rw [vi_sI_ne _ _ _ _ (by decide)]
  refine ⟨?_, ?_⟩
  · unfold mRe; rw [vi_sI_nk _ _ _ (by decide)]; unfold mCh; rw [vi_sI_eq]
  · unfold mRe; rw [vi_sI_eq, e1, e2]
theorem mCh_o (h : Hp) (k : Nat) {a : Ad} (f : Nat) (ha : a = (32, 0) → f ≠ 50 ∧ f ≠ 51) : vi (mRe (mCh h k) k) a f = vi h a f := by
  unfold mRe mCh
  by_cases z : a = (32, 0)
  · rw [vi_sI_nk _ _ _ (ha z).2, vi_sI_nk _ _ _ (ha z).1]
  · rw [vi_sI_ne _ _ _ _ z, vi_sI_ne _ _ _ _ z]
theorem rents_add {R r : Nat} (hR : R + r < 2 ^ 32) (hr : r ≤ 9999) : (if (nI (if R < 2000000000 then R else 2000000000)).toInt64 + (nI r).toInt64 < 2000000000 then (nI (if R < 2000000000 then R else 2000000000)).toInt64 + (nI r).toInt64 else 2000000000).toInt32 = nI (if R + r < 2000000000 then R + r else 2000000000) := by
  have hm : (if R < 2000000000 then R else 2000000000) ≤ 2000000000 := by split <;> omega
  generalize ez : (if R < 2000000000 then R else 2000000000) = z at hm ⊢
  have e1 : ((nI z).toInt64 + (nI r).toInt64).toInt = (z : Int) + r := by
    rw [Jvm.Kit.i64_add (by rw [Jvm.Kit.i64_of_i32, Jvm.Kit.i64_of_i32, nI_toInt (by omega), nI_toInt (by omega)]; omega) (by rw [Jvm.Kit.i64_of_i32, Jvm.Kit.i64_of_i32, nI_toInt (by omega), nI_toInt (by omega)]; omega), Jvm.Kit.i64_of_i32, Jvm.Kit.i64_of_i32, nI_toInt (by omega), nI_toInt (by omega)]
  have e2 : (2000000000 : Int64).toInt = 2000000000 := by decide
  refine Int32.toInt_inj.mp ?_
  by_cases c : z + r < 2000000000
  · rw [if_pos (by rw [Int64.lt_iff_toInt_lt, e1, e2]; omega), Jvm.Kit.i32_of_i64 (by rw [e1]; omega) (by rw [e1]; omega), e1]
    have : R < 2000000000 := by
      by_cases w : R < 2000000000
      · exact w
      · rw [if_neg w] at ez; omega
    rw [if_pos this] at ez
    rw [if_pos (by omega), nI_toInt (by omega)]; omega
  · rw [if_neg (by rw [Int64.lt_iff_toInt_lt, e1, e2]; omega)]
    have : ¬ R + r < 2000000000 := by
      by_cases w : R < 2000000000
      · rw [if_pos w] at ez; omega
      · omega
    rw [if_neg this]; decide
theorem bring1 {n m N T B k : Nat} {hx hm : Hp} (d : DyR n m N hx hm T B) (hk : k < n) (hT : T ≤ 40000) (hB : B + 9999 < 2 ^ 32) : DyR n m N (xBr1 hx k) (mB1 hm k) T (B + 9999) := by
  obtain ⟨⟨a1, a2, a3, a4⟩, ⟨R, r1, r2, r3⟩, la, ro, pe⟩ := d
  obtain ⟨r, e, f, h1, h2, h3, h4, l0, l1, l2, l3, l4, l5⟩ := la k hk
  have kE := xBr1_e hx k
  have kM := mB1_e hm k
  have la' : La2 (xBr1 hx k) (mB1 hm k) n := by
    intro l hl
    rw [kE.2.2.2.2 12 l 0 rfl, kE.2.2.2.2 12 l 1 rfl, kE.2.2.2.2 12 l 2 rfl, kM.2.2.2.2 38 17 l rfl, kM.2.2.2.2 38 18 l rfl, kM.2.2.2.2 38 19 l rfl]
    exact la l hl
  have ro' : Ro2 (xBr1 hx k) (mB1 hm k) m N := by
    intro w hw
    rw [kE.2.2.1 10 w 1 rfl, kM.2.2.2.2 38 11 w rfl]
    rcases ro w hw with z | ⟨s, q, z0, z1, z2, z3, z4, z5, z6⟩
    · exact Or.inl z
    · exact Or.inr ⟨s, q, z0, z1, z2, z3, by rw [kE.2.2.2.2 11 s 1 rfl]; exact z4, by rw [kM.2.2.2.2 38 14 s rfl]; exact z5, by rw [kE.2.2.2.2 9 q 8 rfl]; exact z6⟩
  have same : xBr1 hx k = hx → mB1 hm k = hm → DyR n m N (xBr1 hx k) (mB1 hm k) T (B + 9999) := by
    intro e1 e2
    rw [e1, e2]
    exact ⟨⟨a1, a2, a3, a4⟩, ⟨R, by omega, r2, r3⟩, la, ro, pe⟩
  have ne0 : ¬ nI e ≤ 0 := nI_nle (by omega) (by omega)
  by_cases c1 : nI T < nI f
  · refine same ?_ ?_
    · unfold xBr1 ldD; rw [a1, l2, l4, if_neg ne0, if_pos c1, if_pos rfl]
    · unfold mB1; rw [a2, l5, if_pos c1]
  · by_cases c2 : nI T - nI f - (nI T - nI f) / nI e * nI e = 0
    · have eX : xBr1 hx k = chIn hx (nI r) := by unfold xBr1 ldD; rw [a1, l2, l4, if_neg ne0, if_neg c1, if_pos c2, if_neg (by decide), l0]
      have eM : mB1 hm k = mRe (mCh hm k) k := by unfold mB1; rw [a2, l5, if_neg c1, l3, if_pos c2]
      refine ⟨⟨?_, ?_, ?_, ?_⟩, ⟨R + r, by omega, ?_, ?_⟩, la', ro', ?_⟩
      · rw [eX, chIn_o _ _ _ (by decide)]; exact a1
      · rw [eM, mCh_o _ _ _ (by decide)]; exact a2
      · rw [eX, eM, chIn_o _ _ _ (by decide), mCh_o _ _ _ (by decide)]; exact a3
      · rw [eX, eM, (chIn_c _ _).1, (mCh_c _ _).1, a4, l1]
      · rw [eX, (chIn_c _ _).2, Jvm.Kit.i64_add (by rw [r2, Jvm.Kit.i64_of_i32, nI_toInt (by omega)]; omega) (by rw [r2, Jvm.Kit.i64_of_i32, nI_toInt (by omega)]; omega), r2, Jvm.Kit.i64_of_i32, nI_toInt (by omega)]; omega
      · rw [eM, (mCh_c _ _).2, r3, l1, rents_add (by omega) h1]
      · refine ⟨fun p hp => ?_, fun p hp hp2 => ?_⟩
        · rw [eX, eM, chIn_o _ _ _ (fun z => by cases z), chIn_o _ _ _ (fun z => by cases z), chIn_o _ _ _ (fun z => by cases z), mCh_o _ _ _ (fun z => by cases z), mCh_o _ _ _ (fun z => by cases z)]; exact pe.1 p hp
        · rw [eM, mCh_o _ _ _ (fun z => by cases z), mCh_o _ _ _ (fun z => by cases z)]; exact pe.2 p hp hp2
    · refine same ?_ ?_
      · unfold xBr1 ldD; rw [a1, l2, l4, if_neg ne0, if_neg c1, if_neg c2, if_pos rfl]
      · unfold mB1; rw [a2, l5, if_neg c1, l3, if_neg c2]
set_option maxRecDepth 40000 in
theorem brings {n m N T : Nat} (hT : T ≤ 40000) : ∀ (j k B : Nat) (hx hm : Hp), DyR n m N hx hm T B → k + j = n → B + j * 9999 < 2 ^ 32 → DyR n m N (xBring j k hx) (mBr j k hm) T (B + j * 9999)
  | 0, _, B, _, _, d, _, _ => by rw [Nat.zero_mul, Nat.add_zero]; exact d
  | j + 1, k, B, hx, hm, d, hk, hB => by
    rw [xBring, mBr, show B + (j + 1) * 9999 = B + 9999 + j * 9999 by omega]
    have h1 : k < n := by omega
    have h3 : (j + 1) * 9999 = j * 9999 + 9999 := by omega
    have h2 : B + 9999 < 2 ^ 32 := by omega
    have h4 : B + 9999 + j * 9999 < 2 ^ 32 := by omega
    exact brings hT j (k + 1) (B + 9999) _ _ (bring1 d h1 hT h2) (by omega) h4
theorem xPay1_c (h : Hp) (q : Nat) : (∀ p, vi (xPay1 h q) (9, p) 9 = if p = q then vi h (0, 0) 12 + vi h (9, q) 9 - chPay h (vi h (0, 0) 12 + vi h (9, q) 9) else vi h (9, p) 9) ∧ (∀ p, vi (xPay1 h q) (9, p) 10 = if p = q then vi h (9, q) 10 + chPay h (vi h (0, 0) 12 + vi h (9, q) 9) else vi h (9, p) 10) ∧ vi (xPay1 h q) (6, 0) 0 = vi h (6, 0) 0 - chPay h (vi h (0, 0) 12 + vi h (9, q) 9) ∧ (∀ p, vi (xPay1 h q) (9, p) 8 = vi h (9, p) 8) ∧ ∀ f, vi (xPay1 h q) (0, 0) f = vi h (0, 0) f := by
  unfold xPay1
  refine ⟨fun p => ?_, fun p => ?_, ?_, fun p => ?_, fun f => ?_⟩
  · rw [vi_sI, upC, vi_sI_nk _ _ _ (by decide), vi_sI_ne _ _ _ _ (fun z => (by cases z))]
  · rw [vi_sI_nk _ _ _ (by decide), vi_sI, upC, vi_sI_ne _ _ _ _ (fun z => (by cases z))]
  · rw [vi_sI_ne _ _ _ _ (fun z => (by cases z)), vi_sI_ne _ _ _ _ (fun z => (by cases z)), vi_sI_eq]
  · rw [vi_sI_nk _ _ _ (by decide), vi_sI_nk _ _ _ (by decide), vi_sI_ne _ _ _ _ (fun z => (by cases z))]
  · rw [vi_sI_ne _ _ _ _ (fun z => (by cases z)), vi_sI_ne _ _ _ _ (fun z => (by cases z)), vi_sI_ne _ _ _ _ (fun z => (by cases z))]
theorem mY3_c (h : Hp) (q : Nat) : (∀ p, vi (mY3 h q) (38, 4) p = if p = q then vi h (32, 0) 49 + vi h (38, 4) q - mHas h q else vi h (38, 4) p) ∧ (∀ p, vi (mY3 h q) (38, 5) p = if p = q then vi h (38, 5) q + mHas h q else vi h (38, 5) p) ∧ vi (mY3 h q) (32, 0) 50 = vi h (32, 0) 50 - mHas h q ∧ ∀ f, f ≠ 50 → vi (mY3 h q) (32, 0) f = vi h (32, 0) f := by
  unfold mY3 mY2 mY1
  refine ⟨fun p => ?_, fun p => ?_, ?_, fun f hf => ?_⟩
  · rw [vi_sI, upB, vi_sI_ne _ _ _ _ (by decide), vi_sI_ne _ _ _ _ (by decide)]
  · rw [vi_sI_ne _ _ _ _ (by decide), vi_sI, upB, vi_sI_ne _ _ _ _ (by decide), vi_sI_ne _ _ _ _ (by decide)]
  · rw [vi_sI_ne _ _ _ _ (by decide), vi_sI_ne _ _ _ _ (by decide), vi_sI_eq]
  · rw [vi_sI_ne _ _ _ _ (by decide), vi_sI_ne _ _ _ _ (by decide), vi_sI_nk _ _ _ hf]
theorem pay1 {n m N T B k : Nat} {hx hm : Hp} (hN : N ≤ 40) (d : DyR n m N hx hm T B) (hk : k < m) : DyR n m N (xPy hx k) (mPy hm k) T B := by
  obtain ⟨⟨a1, a2, a3, a4⟩, ⟨R, r1, r2, r3⟩, la, ro, pe⟩ := d
  have kE := xPy_e hx k
  have kM := mPy_e hm k
  rcases ro k hk with ⟨z1, z2⟩ | ⟨s, q, z0, z1, z2, z3, z4, z5, z6⟩
  · have eX : xPy hx k = hx := by unfold xPy; rw [z1]
    have eM : mPy hm k = hm := by unfold mPy; rw [if_pos z2]
    rw [eX, eM]; exact ⟨⟨a1, a2, a3, a4⟩, ⟨R, r1, r2, r3⟩, la, ro, pe⟩
  · have eX : xPy hx k = xPay1 hx q := by unfold xPy; rw [z2]; show xPay1 hx (vi hx (11, s) 1).toNatClampNeg = _; rw [z4, nI_clamp (by omega)]
    have eM : mPy hm k = mY3 hm q := by unfold mPy; rw [z3, if_neg (nI_ne1 (by omega)), nI_clamp (by omega), z5, nI_clamp (by omega)]
    have eq9 := pe.1 q z0
    have eP : chPay hx (vi hx (0, 0) 12 + vi hx (9, q) 9) = mHas hm q := by unfold chPay mHas; rw [a3, a4, eq9.1]
    obtain ⟨x1, x2, x3, x4, x5⟩ := xPay1_c hx q
    obtain ⟨y1, y2, y3, y4⟩ := mY3_c hm q
    refine ⟨⟨?_, ?_, ?_, ?_⟩, ⟨R, r1, ?_, ?_⟩, ?_, ?_, ?_⟩
    · rw [eX, x5]; exact a1
    · rw [eM, y4 _ (by decide)]; exact a2
    · rw [eX, eM, x5, y4 _ (by decide)]; exact a3
    · rw [eX, eM, x3, y3, eP, a4]
    · rw [show vl (xPy hx k) (6, 0) 1 = vl hx (6, 0) 1 from by rw [eX]; rfl]; exact r2
    · rw [eM, y4 _ (by decide)]; exact r3
    · intro l hl
      rw [kE.2.2.2.2 12 l 0 rfl, kE.2.2.2.2 12 l 1 rfl, kE.2.2.2.2 12 l 2 rfl, kM.2.2.2.2 38 17 l rfl, kM.2.2.2.2 38 18 l rfl, kM.2.2.2.2 38 19 l rfl]
      exact la l hl
    · intro w hw
      rw [kE.2.2.1 10 w 1 rfl, kM.2.2.2.2 38 11 w rfl]
      rcases ro w hw with z | ⟨s, q, z0, z1, z2, z3, z4, z5, z6⟩
      · exact Or.inl z
      · exact Or.inr ⟨s, q, z0, z1, z2, z3, by rw [kE.2.2.2.2 11 s 1 rfl]; exact z4, by rw [kM.2.2.2.2 38 14 s rfl]; exact z5, by rw [kE.2.2.2.2 9 q 8 rfl]; exact z6⟩
    · refine ⟨fun p hp => ?_, fun p hp hp2 => ?_⟩
      · rw [eX, eM, x1, x2, x4, y1, y2, eP]
        by_cases w : p = q
        · rw [if_pos w, if_pos w, if_pos w, if_pos w, a3, eq9.1, eq9.2.1]
          exact ⟨rfl, rfl, fun y => absurd (by rw [← w]; exact y) z6⟩
        · rw [if_neg w, if_neg w, if_neg w, if_neg w]; exact pe.1 p hp
      · rw [eM, y1, y2, if_neg (by omega), if_neg (by omega)]; exact pe.2 p hp hp2
theorem pays {n m N T B : Nat} (hN : N ≤ 40) : ∀ (j k : Nat) (hx hm : Hp), DyR n m N hx hm T B → k + j = m → DyR n m N (xPays j k hx) (mPs j k hm) T B
  | 0, _, _, _, d, _ => d
  | j + 1, k, hx, hm, d, hk => by
    rw [xPays, mPs]
    exact pays hN j (k + 1) _ _ (pay1 hN d (by omega)) (by omega)
theorem day1 {n m N T B : Nat} {hx hm : Hp} (hn : n ≤ 10) (hN : N ≤ 40) (d : DyR n m N hx hm T B) (c12 : cn hx 12 = n) (c10 : cn hx 10 = m) (hT : T + 1 ≤ 40000) (hB : B + 99990 < 2 ^ 32) : DyR n m N (xDay hx) (mDayH n m hm) (T + 1) (B + 99990) := by
  obtain ⟨⟨a1, a2, a3, a4⟩, re, la, ro, pe⟩ := d
  have d1 : DyR n m N (tdH hx) (mTd hm) (T + 1) B := by
    have k9 : ∀ p f, vi (tdH hx) (9, p) f = vi hx (9, p) f := fun p f => by unfold tdH; rw [vi_sI_ne _ _ _ _ (fun z => (by cases z))]
    have k38 : ∀ p f, vi (mTd hm) (38, p) f = vi hm (38, p) f := fun p f => by unfold mTd; rw [vi_sI_ne _ _ _ _ (fun z => (by cases z))]
    refine ⟨⟨?_, ?_, ?_, ?_⟩, ?_, ?_, ?_, ?_⟩
    · unfold tdH; rw [vi_sI_eq, a1, nI_1]
    · unfold mTd; rw [vi_sI_eq, a2, nI_1]
    · unfold tdH mTd; rw [vi_sI_nk _ _ _ (by decide), vi_sI_nk _ _ _ (by decide)]; exact a3
    · unfold tdH mTd; rw [vi_sI_ne _ _ _ _ (by decide), vi_sI_nk _ _ _ (by decide)]; exact a4
    · obtain ⟨R, r1, r2, r3⟩ := re
      refine ⟨R, r1, r2, ?_⟩
      unfold mTd; rw [vi_sI_nk _ _ _ (by decide)]; exact r3
    · intro l hl
      rw [k38, k38, k38, (tdH_e hx).2.2.2.2 12 l 0 rfl, (tdH_e hx).2.2.2.2 12 l 1 rfl, (tdH_e hx).2.2.2.2 12 l 2 rfl]; exact la l hl
    · intro w hw
      rw [(tdH_e hx).2.2.1 10 w 1 rfl, k38]
      rcases ro w hw with z | ⟨s, q, z0, z1, z2, z3, z4, z5, z6⟩
      · exact Or.inl z
      · exact Or.inr ⟨s, q, z0, z1, z2, z3, by rw [(tdH_e hx).2.2.2.2 11 s 1 rfl]; exact z4, by rw [k38]; exact z5, by rw [k9]; exact z6⟩
    · refine ⟨fun p hp => ?_, fun p hp hp2 => ?_⟩
      · rw [k9, k9, k9, k38, k38]; exact pe.1 p hp
      · rw [k38, k38]; exact pe.2 p hp hp2
  have d2 : DyR n m N (rtH hx) (mDy1 n hm) (T + 1) (B + 99990) := by
    have K := brings hT n 0 B _ _ d1 (by omega) (by have : n * 9999 ≤ 10 * 9999 := Nat.mul_le_mul_right _ hn; omega)
    have ec : cn (tdH hx) 12 = n := c12
    unfold rtH mDy1
    rw [ec]
    obtain ⟨k1, ⟨R, r1, r2⟩, k3⟩ := K
    refine ⟨k1, ⟨R, ?_, r2⟩, k3⟩
    have : n * 9999 ≤ 10 * 9999 := Nat.mul_le_mul_right _ hn
    omega
  have ec : cn (rtH hx) 10 = m := ((rtH_e hx).1 10 rfl).trans c10
  have e1 : vi (rtH hx) (0, 0) 13 = nI (T + 1) := d2.1.1
  have e2 : vi (mDy1 n hm) (32, 0) 23 = nI (T + 1) := d2.1.2.1
  unfold xDay mDayH
  rw [e1, e2]
  by_cases c : nI (T + 1) - nI (T + 1) / 7 * 7 = 0
  · rw [if_pos c, if_pos c, ec]; exact pays hN m 0 _ _ d2 (by omega)
  · rw [if_neg c, if_neg c]; exact d2
set_option maxRecDepth 40000 in
theorem days1 {n m N : Nat} (hn : n ≤ 10) (hN : N ≤ 40) : ∀ (j T B : Nat) (hx hm : Hp), DyR n m N hx hm T B → cn hx 12 = n → cn hx 10 = m → T + j ≤ 40000 → B + j * 99990 < 2 ^ 32 → DyR n m N (xDays j hx) (mDays n m j hm) (T + j) (B + j * 99990)
  | 0, T, B, _, _, d, _, _, _, _ => by rw [Nat.zero_mul, Nat.add_zero, Nat.add_zero]; exact d
  | j + 1, T, B, hx, hm, d, c12, c10, hT, hB => by
    have h3 : (j + 1) * 99990 = j * 99990 + 99990 := by omega
    have h2 : B + 99990 < 2 ^ 32 := by omega
    have h4 : B + 99990 + j * 99990 < 2 ^ 32 := by omega
    have h5 : T + 1 ≤ 40000 := by omega
    have h6 : T + 1 + j ≤ 40000 := by omega
    rw [xDays, mDays, show T + (j + 1) = T + 1 + j by omega, show B + (j + 1) * 99990 = B + 99990 + j * 99990 by omega]
    exact days1 hn hN j (T + 1) (B + 99990) _ _ (day1 hn hN d c12 c10 h5 h2) (((xDay_e hx).1 12 rfl).trans c12) (((xDay_e hx).1 10 rfl).trans c10) h6 h4
