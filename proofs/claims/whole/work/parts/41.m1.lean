/-- the reference's counts -/
def MI (h : Hp) : Prop := SM h ∧ (∃ n, n ≤ 40 ∧ vi h (32, 0) 22 = nI n) ∧ (∃ n, n ≤ 20 ∧ vi h (32, 0) 36 = nI n) ∧ (∃ n, n ≤ 100 ∧ vi h (32, 0) 37 = nI n) ∧ (∃ n, n ≤ 8 ∧ vi h (32, 0) 38 = nI n) ∧ ∃ n, n ≤ 10 ∧ vi h (32, 0) 48 = nI n
def mT (h : Hp) (w : Int32) : Hp := sI (sI h (32, 0) 1 w) (32, 0) 2 (-1)
def mZ (h : Hp) : Hp := sI h (32, 0) 0 0
theorem mZ_v (h : Hp) {a : Ad} (f : Nat) (hf : f ≠ 0) : vi (mZ h) a f = vi h a f := vi_sI_nk _ _ _ hf
theorem mZ_o (h : Hp) {a : Ad} (f : Nat) (ha : a ≠ (32, 0)) : vi (mZ h) a f = vi h a f := vi_sI_ne _ _ _ _ ha
theorem MIz {h : Hp} (i : MI h) : MI (mZ h) := by
  obtain ⟨s, ⟨a, a1, a2⟩, ⟨b, b1, b2⟩, ⟨c, c1, c2⟩, ⟨d, d1, d2⟩, e, e1, e2⟩ := i
  exact ⟨s, ⟨a, a1, (mZ_v h _ (by decide)).trans a2⟩, ⟨b, b1, (mZ_v h _ (by decide)).trans b2⟩, ⟨c, c1, (mZ_v h _ (by decide)).trans c2⟩, ⟨d, d1, (mZ_v h _ (by decide)).trans d2⟩, e, e1, (mZ_v h _ (by decide)).trans e2⟩
def mIn (v l u : Int32) : Int32 := if v < l then 0 else if u < v then 0 else 1
theorem mIn01 (v l u : Int32) : mIn v l u = 0 ∨ mIn v l u = 1 := by
  unfold mIn; split
  · exact Or.inl rfl
  · split
    · exact Or.inl rfl
    · exact Or.inr rfl
def mWb (h : Hp) (w : Int32) : Int32 := if w < 0 then 0 else if vi h (32, 0) 4 ≤ w then 0 else 1
def mPb (h : Hp) (w : Int32) : Int32 := if w < 0 then 0 else if vi h (32, 0) 22 ≤ w then 0 else 1
def mRb (h : Hp) (w : Int32) : Int32 := if w < 0 then 0 else if vi h (32, 0) 36 ≤ w then 0 else 1
def mDy (d : Int32) : Int32 := mIn d 0 40000
def mAs (h : Hp) (p w d : Int32) : Int32 := if mPb h p = 0 then 0 else if mWb h w = 0 then 0 else if mDy d = 0 then 0 else 1
theorem mPb_in {h : Hp} (i : MI h) {p : Int32} (c : ¬ mPb h p = 0) : ∃ j, j < 40 ∧ p = nI j ∧ ∃ n, n ≤ 40 ∧ vi h (32, 0) 22 = nI n ∧ j < n := by
  unfold mPb at c
  split at c
  · exact absurd rfl c
  · rename_i c1
    split at c
    · exact absurd rfl c
    · rename_i c2
      obtain ⟨j, hj, rfl⟩ := nI_of c1
      obtain ⟨n, hn, e⟩ := i.2.1
      rw [e] at c2
      have : j < n := (nI_ltI hj (by omega)).mp (Int32.not_le.mp c2)
      exact ⟨j, by omega, rfl, n, hn, e, this⟩
theorem mRb_in {h : Hp} (i : MI h) {p : Int32} (c : ¬ mRb h p = 0) : ∃ j, j < 20 ∧ p = nI j ∧ ∃ n, n ≤ 20 ∧ vi h (32, 0) 36 = nI n ∧ j < n := by
  unfold mRb at c
  split at c
  · exact absurd rfl c
  · rename_i c1
    split at c
    · exact absurd rfl c
    · rename_i c2
      obtain ⟨j, hj, rfl⟩ := nI_of c1
      obtain ⟨n, hn, e⟩ := i.2.2.1
      rw [e] at c2
      have : j < n := (nI_ltI hj (by omega)).mp (Int32.not_le.mp c2)
      exact ⟨j, by omega, rfl, n, hn, e, this⟩
set_option maxRecDepth 20000 in
theorem M_refused (g : G0) (h : Hp) (hM : SM h) {w : Int32} : Mx g yX14_refused wX14_refused 0 [pR (32, 0), pI w] h 0 0 (qE (some (pI (-1))) (mT h w)) noX := by
  refine Mx.by kfX14_refused rfl (by decide) (Nat.le_of_ble_eq_true rfl) ?_
  refine v_aload_n dX14_refused_0 rfl ?_
  refine v_iload_n dX14_refused_1 rfl ?_
  refine v_putI fl_X14_115 (fun z => by cases z) dX14_refused_2 rfl rfl (Nat.le_of_ble_eq_true rfl) rfl rfl (mh_32_0 hM) ?_
  refine v_aload_n dX14_refused_5 rfl ?_
  refine v_iconst (-1) dX14_refused_6 (by decide) ?_
  refine v_putI fl_X14_9 (fun z => by cases z) dX14_refused_7 rfl rfl (Nat.le_of_ble_eq_true rfl) rfl rfl (mh_32_0 hM) ?_
  refine v_iconst (-1) dX14_refused_10 (by decide) ?_
  refine v_ireturn dX14_refused_11 rfl rfl ?_
  exact ⟨rfl, rfl⟩
set_option maxRecDepth 20000 in
theorem M_done (g : G0) (h : Hp) (hM : SM h) {w : Int32} : Mx g yX14_done wX14_done 0 [pR (32, 0), pI w] h 0 0 (qE (some (pI w)) (mT h 0)) noX := by
  refine Mx.by kfX14_done rfl (by decide) (Nat.le_of_ble_eq_true rfl) ?_
  refine v_aload_n dX14_done_0 rfl ?_
  refine v_iconst (0) dX14_done_1 (by decide) ?_
  refine v_putI fl_X14_115 (fun z => by cases z) dX14_done_2 rfl rfl (Nat.le_of_ble_eq_true rfl) rfl rfl (mh_32_0 hM) ?_
  refine v_aload_n dX14_done_5 rfl ?_
  refine v_iconst (-1) dX14_done_6 (by decide) ?_
  refine v_putI fl_X14_9 (fun z => by cases z) dX14_done_7 rfl rfl (Nat.le_of_ble_eq_true rfl) rfl rfl (mh_32_0 hM) ?_
  refine v_iload_n dX14_done_10 rfl ?_
  refine v_ireturn dX14_done_11 rfl rfl ?_
  exact ⟨rfl, rfl⟩
set_option maxRecDepth 20000 in
theorem M_denied (g : G0) (h : Hp) (hM : SM h) {w : Int32} : Mx g yX14_denied wX14_denied 0 [pR (32, 0), pI w] h 0 0 (qE (some (pI 0)) (mT h w)) noX := by
  refine Mx.by kfX14_denied rfl (by decide) (Nat.le_of_ble_eq_true rfl) ?_
  refine v_aload_n dX14_denied_0 rfl ?_
  refine v_iload_n dX14_denied_1 rfl ?_
  refine v_putI fl_X14_115 (fun z => by cases z) dX14_denied_2 rfl rfl (Nat.le_of_ble_eq_true rfl) rfl rfl (mh_32_0 hM) ?_
  refine v_aload_n dX14_denied_5 rfl ?_
  refine v_iconst (-1) dX14_denied_6 (by decide) ?_
  refine v_putI fl_X14_9 (fun z => by cases z) dX14_denied_7 rfl rfl (Nat.le_of_ble_eq_true rfl) rfl rfl (mh_32_0 hM) ?_
  refine v_iconst (0) dX14_denied_10 (by decide) ?_
  refine v_ireturn dX14_denied_11 rfl rfl ?_
  exact ⟨rfl, rfl⟩
set_option maxRecDepth 20000 in
theorem M_granted (g : G0) (h : Hp) (hM : SM h)  : Mx g yX14_granted wX14_granted 0 [pR (32, 0)] h 0 0 (qE (some (pI 1)) (mT h 0)) noX := by
  refine Mx.by kfX14_granted rfl (by decide) (Nat.le_of_ble_eq_true rfl) ?_
  refine v_aload_n dX14_granted_0 rfl ?_
  refine v_iconst (0) dX14_granted_1 (by decide) ?_
  refine v_putI fl_X14_115 (fun z => by cases z) dX14_granted_2 rfl rfl (Nat.le_of_ble_eq_true rfl) rfl rfl (mh_32_0 hM) ?_
  refine v_aload_n dX14_granted_5 rfl ?_
  refine v_iconst (-1) dX14_granted_6 (by decide) ?_
  refine v_putI fl_X14_9 (fun z => by cases z) dX14_granted_7 rfl rfl (Nat.le_of_ble_eq_true rfl) rfl rfl (mh_32_0 hM) ?_
  refine v_iconst (1) dX14_granted_10 (by decide) ?_
  refine v_ireturn dX14_granted_11 rfl rfl ?_
  exact ⟨rfl, rfl⟩
set_option maxRecDepth 20000 in
theorem M_in (g : G0) (h : Hp)  {v l u : Int32} : Mx g yX14_in wX14_in 0 [pI v, pI l, pI u] h 0 0 (qE (some (pI (mIn v l u))) h) noX := by
  refine Mx.by kfX14_in rfl (by decide) (Nat.le_of_ble_eq_true rfl) ?_
  refine v_iload_n dX14_in_0 rfl ?_
  refine v_iload_n dX14_in_1 rfl ?_
  refine v_icmp_lt 14 dX14_in_2 (by decide) (fun c2 => ?_) (fun c2 => ?_)
  · refine v_iconst (0) dX14_in_14 (by decide) ?_
    refine v_ireturn dX14_in_15 rfl rfl ?_
    exact ⟨by simp only [mIn, if_pos c2], rfl⟩
  · refine v_iload_n dX14_in_5 rfl ?_
    refine v_iload_n dX14_in_6 rfl ?_
    refine v_icmp_gt 14 dX14_in_7 (by decide) (fun c7 => ?_) (fun c7 => ?_)
    · refine v_iconst (0) dX14_in_14 (by decide) ?_
      refine v_ireturn dX14_in_15 rfl rfl ?_
      exact ⟨by simp only [mIn, if_neg c2, if_pos c7], rfl⟩
    · refine v_iconst (1) dX14_in_10 (by decide) ?_
      refine v_goto 15 dX14_in_11 (by decide) ?_
      refine v_ireturn dX14_in_15 rfl rfl ?_
      exact ⟨by simp only [mIn, if_neg c2, if_neg c7], rfl⟩
set_option maxRecDepth 20000 in
theorem M_isDay (g : G0) (h : Hp)  {d : Int32} : Mx g yX14_isDay wX14_isDay 1 [pI d] h 0 0 (qE (some (pI (mDy d))) h) noX := by
  refine Mx.by kfX14_isDay rfl (by decide) (Nat.le_of_ble_eq_true rfl) ?_
  refine v_iload_n dX14_isDay_0 rfl ?_
  refine v_iconst (0) dX14_isDay_1 (by decide) ?_
  refine v_ldcw (40000) dX14_isDay_2 ctX14_273 ?_
  refine v_invSE (M_in g h) dX14_isDay_5 cwX14_in mlX14_231 rfl rfl (by decide) (by decide) (Nat.le_of_ble_eq_true rfl) ?_
  refine v_ireturn dX14_isDay_8 rfl (nar01 (mIn01 _ _ _)).1 ?_
  exact ⟨rfl, rfl⟩
set_option maxRecDepth 20000 in
theorem M_isWill (g : G0) (h : Hp) (hM : SM h) {w : Int32} : Mx g yX14_isWill wX14_isWill 0 [pR (32, 0), pI w] h 0 0 (qE (some (pI (mWb h w))) h) noX := by
  refine Mx.by kfX14_isWill rfl (by decide) (Nat.le_of_ble_eq_true rfl) ?_
  refine v_iload_n dX14_isWill_0 rfl ?_
  refine v_if_lt 16 dX14_isWill_1 (by decide) (fun c1 => ?_) (fun c1 => ?_)
  · refine v_iconst (0) dX14_isWill_16 (by decide) ?_
    refine v_ireturn dX14_isWill_17 rfl rfl ?_
    exact ⟨by simp only [mWb, if_pos c1], rfl⟩
  · refine v_iload_n dX14_isWill_4 rfl ?_
    refine v_aload_n dX14_isWill_5 rfl ?_
    refine v_getI fl_X14_118 dX14_isWill_6 rfl rfl (Nat.le_of_ble_eq_true rfl) (mh_32_0 hM) ?_
    refine v_icmp_ge 16 dX14_isWill_9 (by decide) (fun c9 => ?_) (fun c9 => ?_)
    · refine v_iconst (0) dX14_isWill_16 (by decide) ?_
      refine v_ireturn dX14_isWill_17 rfl rfl ?_
      exact ⟨by simp only [mWb, if_neg c1, if_pos c9], rfl⟩
    · refine v_iconst (1) dX14_isWill_12 (by decide) ?_
      refine v_goto 17 dX14_isWill_13 (by decide) ?_
      refine v_ireturn dX14_isWill_17 rfl rfl ?_
      exact ⟨by simp only [mWb, if_neg c1, if_neg c9], rfl⟩
set_option maxRecDepth 20000 in
theorem M_isPerson (g : G0) (h : Hp) (hM : SM h) {w : Int32} : Mx g yX14_isPerson wX14_isPerson 0 [pR (32, 0), pI w] h 0 0 (qE (some (pI (mPb h w))) h) noX := by
  refine Mx.by kfX14_isPerson rfl (by decide) (Nat.le_of_ble_eq_true rfl) ?_
  refine v_iload_n dX14_isPerson_0 rfl ?_
  refine v_if_lt 16 dX14_isPerson_1 (by decide) (fun c1 => ?_) (fun c1 => ?_)
  · refine v_iconst (0) dX14_isPerson_16 (by decide) ?_
    refine v_ireturn dX14_isPerson_17 rfl rfl ?_
    exact ⟨by simp only [mPb, if_pos c1], rfl⟩
  · refine v_iload_n dX14_isPerson_4 rfl ?_
    refine v_aload_n dX14_isPerson_5 rfl ?_
    refine v_getI fl_X14_308 dX14_isPerson_6 rfl rfl (Nat.le_of_ble_eq_true rfl) (mh_32_0 hM) ?_
    refine v_icmp_ge 16 dX14_isPerson_9 (by decide) (fun c9 => ?_) (fun c9 => ?_)
    · refine v_iconst (0) dX14_isPerson_16 (by decide) ?_
      refine v_ireturn dX14_isPerson_17 rfl rfl ?_
      exact ⟨by simp only [mPb, if_neg c1, if_pos c9], rfl⟩
    · refine v_iconst (1) dX14_isPerson_12 (by decide) ?_
      refine v_goto 17 dX14_isPerson_13 (by decide) ?_
      refine v_ireturn dX14_isPerson_17 rfl rfl ?_
      exact ⟨by simp only [mPb, if_neg c1, if_neg c9], rfl⟩
set_option maxRecDepth 20000 in
theorem M_isRoom (g : G0) (h : Hp) (hM : SM h) {w : Int32} : Mx g yX14_isRoom wX14_isRoom 0 [pR (32, 0), pI w] h 0 0 (qE (some (pI (mRb h w))) h) noX := by
  refine Mx.by kfX14_isRoom rfl (by decide) (Nat.le_of_ble_eq_true rfl) ?_
  refine v_iload_n dX14_isRoom_0 rfl ?_
  refine v_if_lt 16 dX14_isRoom_1 (by decide) (fun c1 => ?_) (fun c1 => ?_)
  · refine v_iconst (0) dX14_isRoom_16 (by decide) ?_
    refine v_ireturn dX14_isRoom_17 rfl rfl ?_
    exact ⟨by simp only [mRb, if_pos c1], rfl⟩
  · refine v_iload_n dX14_isRoom_4 rfl ?_
    refine v_aload_n dX14_isRoom_5 rfl ?_
    refine v_getI fl_X14_355 dX14_isRoom_6 rfl rfl (Nat.le_of_ble_eq_true rfl) (mh_32_0 hM) ?_
    refine v_icmp_ge 16 dX14_isRoom_9 (by decide) (fun c9 => ?_) (fun c9 => ?_)
    · refine v_iconst (0) dX14_isRoom_16 (by decide) ?_
      refine v_ireturn dX14_isRoom_17 rfl rfl ?_
      exact ⟨by simp only [mRb, if_neg c1, if_pos c9], rfl⟩
    · refine v_iconst (1) dX14_isRoom_12 (by decide) ?_
      refine v_goto 17 dX14_isRoom_13 (by decide) ?_
      refine v_ireturn dX14_isRoom_17 rfl rfl ?_
      exact ⟨by simp only [mRb, if_neg c1, if_neg c9], rfl⟩
set_option maxRecDepth 20000 in
theorem M_isAsked (g : G0) (h : Hp) (hM : SM h) {p w d : Int32} : Mx g yX14_isAsked wX14_isAsked 2 [pR (32, 0), pI p, pI w, pI d] h 0 0 (qE (some (pI (mAs h p w d))) h) noX := by
  refine Mx.by kfX14_isAsked rfl (by decide) (Nat.le_of_ble_eq_true rfl) ?_
  refine v_aload_n dX14_isAsked_0 rfl ?_
  refine v_iload_n dX14_isAsked_1 rfl ?_
  refine v_invVE (M_isPerson g h hM) dX14_isAsked_2 cwX14_isPerson mlX14_315 (ob_32 _) rfl rfl (by decide) (by decide) (Nat.le_of_ble_eq_true rfl) ?_
  refine v_if_eq 27 dX14_isAsked_5 (by decide) (fun c5 => ?_) (fun c5 => ?_)
  · refine v_iconst (0) dX14_isAsked_27 (by decide) ?_
    refine v_ireturn dX14_isAsked_28 rfl rfl ?_
    exact ⟨by simp only [mAs, if_pos c5], rfl⟩
  · refine v_aload_n dX14_isAsked_8 rfl ?_
    refine v_iload_n dX14_isAsked_9 rfl ?_
    refine v_invVE (M_isWill g h hM) dX14_isAsked_10 cwX14_isWill mlX14_274 (ob_32 _) rfl rfl (by decide) (by decide) (Nat.le_of_ble_eq_true rfl) ?_
    refine v_if_eq 27 dX14_isAsked_13 (by decide) (fun c13 => ?_) (fun c13 => ?_)
    · refine v_iconst (0) dX14_isAsked_27 (by decide) ?_
      refine v_ireturn dX14_isAsked_28 rfl rfl ?_
      exact ⟨by simp only [mAs, if_neg c5, if_pos c13], rfl⟩
    · refine v_iload_n dX14_isAsked_16 rfl ?_
      refine v_invSE (M_isDay g h) dX14_isAsked_17 cwX14_isDay mlX14_277 rfl rfl (by decide) (by decide) (Nat.le_of_ble_eq_true rfl) ?_
      refine v_if_eq 27 dX14_isAsked_20 (by decide) (fun c20 => ?_) (fun c20 => ?_)
      · refine v_iconst (0) dX14_isAsked_27 (by decide) ?_
        refine v_ireturn dX14_isAsked_28 rfl rfl ?_
        exact ⟨by simp only [mAs, if_neg c5, if_neg c13, if_pos c20], rfl⟩
      · refine v_iconst (1) dX14_isAsked_23 (by decide) ?_
        refine v_goto 28 dX14_isAsked_24 (by decide) ?_
        refine v_ireturn dX14_isAsked_28 rfl rfl ?_
        exact ⟨by simp only [mAs, if_neg c5, if_neg c13, if_neg c20], rfl⟩
def mWill (h : Hp) : Int32 × Hp := if vi (mZ h) (32, 0) 4 = 4 then (-1, mT (mZ h) 3) else (vi (sI (mZ h) (32, 0) 4 (vi (mZ h) (32, 0) 4 + 1)) (32, 0) 4 - 1, mT (sI (mZ h) (32, 0) 4 (vi (mZ h) (32, 0) 4 + 1)) 0)
def mFault (h : Hp) : Int32 × Hp := (vi (mZ h) (32, 0) 3, mZ h)
def mWhere (h : Hp) : Int32 × Hp := (vi (mZ h) (32, 0) 2, mZ h)
def mTrouble (h : Hp) : Int32 × Hp := (vi (mZ h) (32, 0) 1, mZ h)
def mOwed (h : Hp) (p : Int32) : Int32 × Hp := if mPb (mZ h) p = 0 then (-1, mZ h) else (vi (mZ h) (38, 4) p.toNatClampNeg, mZ h)
def mGot (h : Hp) (p : Int32) : Int32 × Hp := if mPb (mZ h) p = 0 then (-1, mZ h) else (vi (mZ h) (38, 5) p.toNatClampNeg, mZ h)
def mDole (h : Hp) (v : Int32) : Int32 × Hp := if mIn v 0 999 = 0 then (0, mT (mZ h) 2) else (1, mT (sI (mZ h) (32, 0) 49 v) 0)
set_option maxRecDepth 20000 in
theorem M_will (g : G0) (h : Hp) (i : MI h)  : Mx g yX14_will wX14_will 12 [pR (32, 0)] h 0 0 (qE (some (pI (mWill h).1)) (mWill h).2) noX := by
  have hM : SM (mZ h) := i.1
  have i2 := MIz i
  refine Mx.by kfX14_will rfl (by decide) (Nat.le_of_ble_eq_true rfl) ?_
  refine v_aload_n dX14_will_0 rfl ?_
  refine v_iconst (0) dX14_will_1 (by decide) ?_
  refine v_putI fl_X14_112 (fun z => by cases z) dX14_will_2 rfl rfl (Nat.le_of_ble_eq_true rfl) rfl rfl (mh_32_0 hM) ?_
  change V g _ _ _ _ _ _ _ (mZ h) _ _
  refine v_aload_n dX14_will_5 rfl ?_
  refine v_getI fl_X14_118 dX14_will_6 rfl rfl (Nat.le_of_ble_eq_true rfl) (mh_32_0 hM) ?_
  refine v_iconst (4) dX14_will_9 (by decide) ?_
  refine v_icmp_ne 19 dX14_will_10 (by decide) (fun c10 => ?_) (fun c10 => ?_)
  · refine v_aload_n dX14_will_19 rfl ?_
    refine v_dup dX14_will_20 rfl ?_
    refine v_getI fl_X14_118 dX14_will_21 rfl rfl (Nat.le_of_ble_eq_true rfl) (mh_32_0 hM) ?_
    refine v_iconst (1) dX14_will_24 (by decide) ?_
    refine v_iadd dX14_will_25 ?_
    refine v_putI fl_X14_118 (fun z => by cases z) dX14_will_26 rfl rfl (Nat.le_of_ble_eq_true rfl) rfl rfl (mh_32_0 hM) ?_
    refine v_aload_n dX14_will_29 rfl ?_
    refine v_aload_n dX14_will_30 rfl ?_
    refine v_getI fl_X14_118 dX14_will_31 rfl rfl (Nat.le_of_ble_eq_true rfl) (mh_32_0 hM) ?_
    refine v_iconst (1) dX14_will_34 (by decide) ?_
    refine v_isub dX14_will_35 ?_
    refine v_invVE (M_done g _ (SM.sI hM)) dX14_will_36 cwX14_done mlX14_125 (ob_32 _) rfl rfl (by decide) (by decide) (Nat.le_of_ble_eq_true rfl) ?_
    refine v_ireturn dX14_will_39 rfl rfl ?_
    exact ⟨by simp only [mWill, if_neg c10], by simp only [mWill, if_neg c10]⟩
  · refine v_aload_n dX14_will_13 rfl ?_
    refine v_iconst (3) dX14_will_14 (by decide) ?_
    refine v_invVE (M_refused g (mZ h) hM) dX14_will_15 cwX14_refused mlX14_121 (ob_32 _) rfl rfl (by decide) (by decide) (Nat.le_of_ble_eq_true rfl) ?_
    refine v_ireturn dX14_will_18 rfl rfl ?_
    exact ⟨by simp only [mWill, if_pos c10], by simp only [mWill, if_pos c10]⟩
set_option maxRecDepth 20000 in
theorem M_fault (g : G0) (h : Hp) (i : MI h)  : Mx g yX14_fault wX14_fault 12 [pR (32, 0)] h 0 0 (qE (some (pI (mFault h).1)) (mFault h).2) noX := by
  have hM : SM (mZ h) := i.1
  have i2 := MIz i
  refine Mx.by kfX14_fault rfl (by decide) (Nat.le_of_ble_eq_true rfl) ?_
  refine v_aload_n dX14_fault_0 rfl ?_
  refine v_iconst (0) dX14_fault_1 (by decide) ?_
  refine v_putI fl_X14_112 (fun z => by cases z) dX14_fault_2 rfl rfl (Nat.le_of_ble_eq_true rfl) rfl rfl (mh_32_0 hM) ?_
  change V g _ _ _ _ _ _ _ (mZ h) _ _
  refine v_aload_n dX14_fault_5 rfl ?_
  refine v_getI fl_X14_280 dX14_fault_6 rfl rfl (Nat.le_of_ble_eq_true rfl) (mh_32_0 hM) ?_
  refine v_ireturn dX14_fault_9 rfl rfl ?_
  exact ⟨rfl, rfl⟩
set_option maxRecDepth 20000 in
theorem M_where (g : G0) (h : Hp) (i : MI h)  : Mx g yX14_where wX14_where 12 [pR (32, 0)] h 0 0 (qE (some (pI (mWhere h).1)) (mWhere h).2) noX := by
  have hM : SM (mZ h) := i.1
  have i2 := MIz i
  refine Mx.by kfX14_where rfl (by decide) (Nat.le_of_ble_eq_true rfl) ?_
  refine v_aload_n dX14_where_0 rfl ?_
  refine v_iconst (0) dX14_where_1 (by decide) ?_
  refine v_putI fl_X14_112 (fun z => by cases z) dX14_where_2 rfl rfl (Nat.le_of_ble_eq_true rfl) rfl rfl (mh_32_0 hM) ?_
  change V g _ _ _ _ _ _ _ (mZ h) _ _
  refine v_aload_n dX14_where_5 rfl ?_
  refine v_getI fl_X14_9 dX14_where_6 rfl rfl (Nat.le_of_ble_eq_true rfl) (mh_32_0 hM) ?_
  refine v_ireturn dX14_where_9 rfl rfl ?_
  exact ⟨rfl, rfl⟩
set_option maxRecDepth 20000 in
theorem M_trouble (g : G0) (h : Hp) (i : MI h)  : Mx g yX14_trouble wX14_trouble 12 [pR (32, 0)] h 0 0 (qE (some (pI (mTrouble h).1)) (mTrouble h).2) noX := by
  have hM : SM (mZ h) := i.1
  have i2 := MIz i
  refine Mx.by kfX14_trouble rfl (by decide) (Nat.le_of_ble_eq_true rfl) ?_
  refine v_aload_n dX14_trouble_0 rfl ?_
  refine v_iconst (0) dX14_trouble_1 (by decide) ?_
  refine v_putI fl_X14_112 (fun z => by cases z) dX14_trouble_2 rfl rfl (Nat.le_of_ble_eq_true rfl) rfl rfl (mh_32_0 hM) ?_
  change V g _ _ _ _ _ _ _ (mZ h) _ _
  refine v_aload_n dX14_trouble_5 rfl ?_
  refine v_getI fl_X14_115 dX14_trouble_6 rfl rfl (Nat.le_of_ble_eq_true rfl) (mh_32_0 hM) ?_
  refine v_ireturn dX14_trouble_9 rfl rfl ?_
  exact ⟨rfl, rfl⟩
set_option maxRecDepth 20000 in
theorem M_owed (g : G0) (h : Hp) (i : MI h) {p : Int32} : Mx g yX14_owed wX14_owed 12 [pR (32, 0), pI p] h 0 0 (qE (some (pI (mOwed h p).1)) (mOwed h p).2) noX := by
  have hM : SM (mZ h) := i.1
  have i2 := MIz i
  refine Mx.by kfX14_owed rfl (by decide) (Nat.le_of_ble_eq_true rfl) ?_
  refine v_aload_n dX14_owed_0 rfl ?_
  refine v_iconst (0) dX14_owed_1 (by decide) ?_
  refine v_putI fl_X14_112 (fun z => by cases z) dX14_owed_2 rfl rfl (Nat.le_of_ble_eq_true rfl) rfl rfl (mh_32_0 hM) ?_
  change V g _ _ _ _ _ _ _ (mZ h) _ _
  refine v_aload_n dX14_owed_5 rfl ?_
  refine v_iload_n dX14_owed_6 rfl ?_
  refine v_invVE (M_isPerson g (mZ h) hM) dX14_owed_7 cwX14_isPerson mlX14_315 (ob_32 _) rfl rfl (by decide) (by decide) (Nat.le_of_ble_eq_true rfl) ?_
  refine v_if_eq 22 dX14_owed_10 (by decide) (fun c10 => ?_) (fun c10 => ?_)
  · refine v_iconst (-1) dX14_owed_22 (by decide) ?_
    refine v_ireturn dX14_owed_23 rfl rfl ?_
    exact ⟨by simp only [mOwed, if_pos c10], by simp only [mOwed, if_pos c10]⟩
  · obtain ⟨j, hj, rfl, -⟩ := mPb_in i2 c10
    refine v_aload_n dX14_owed_13 rfl ?_
    refine v_getR (some (38, 4)) fl_X14_48 dX14_owed_14 rfl rfl (Nat.le_of_ble_eq_true rfl) (mh_32_0 hM) (mr_32_0_28 hM) ?_
    refine v_iload_n dX14_owed_17 rfl ?_
    refine v_iald dX14_owed_18 rfl (Nat.le_of_ble_eq_true rfl) (mh_38_4 hM) (by rw [ml_38_4 hM]; exact vp_in_nI hj (by decide)) ?_
    refine v_goto 23 dX14_owed_19 (by decide) ?_
    refine v_ireturn dX14_owed_23 rfl rfl ?_
    exact ⟨by simp only [mOwed, if_neg c10], by simp only [mOwed, if_neg c10]⟩
set_option maxRecDepth 20000 in
theorem M_got (g : G0) (h : Hp) (i : MI h) {p : Int32} : Mx g yX14_got wX14_got 12 [pR (32, 0), pI p] h 0 0 (qE (some (pI (mGot h p).1)) (mGot h p).2) noX := by
  have hM : SM (mZ h) := i.1
  have i2 := MIz i
  refine Mx.by kfX14_got rfl (by decide) (Nat.le_of_ble_eq_true rfl) ?_
  refine v_aload_n dX14_got_0 rfl ?_
  refine v_iconst (0) dX14_got_1 (by decide) ?_
  refine v_putI fl_X14_112 (fun z => by cases z) dX14_got_2 rfl rfl (Nat.le_of_ble_eq_true rfl) rfl rfl (mh_32_0 hM) ?_
  change V g _ _ _ _ _ _ _ (mZ h) _ _
  refine v_aload_n dX14_got_5 rfl ?_
  refine v_iload_n dX14_got_6 rfl ?_
  refine v_invVE (M_isPerson g (mZ h) hM) dX14_got_7 cwX14_isPerson mlX14_315 (ob_32 _) rfl rfl (by decide) (by decide) (Nat.le_of_ble_eq_true rfl) ?_
  refine v_if_eq 22 dX14_got_10 (by decide) (fun c10 => ?_) (fun c10 => ?_)
  · refine v_iconst (-1) dX14_got_22 (by decide) ?_
    refine v_ireturn dX14_got_23 rfl rfl ?_
    exact ⟨by simp only [mGot, if_pos c10], by simp only [mGot, if_pos c10]⟩
  · obtain ⟨j, hj, rfl, -⟩ := mPb_in i2 c10
    refine v_aload_n dX14_got_13 rfl ?_
    refine v_getR (some (38, 5)) fl_X14_51 dX14_got_14 rfl rfl (Nat.le_of_ble_eq_true rfl) (mh_32_0 hM) (mr_32_0_29 hM) ?_
    refine v_iload_n dX14_got_17 rfl ?_
    refine v_iald dX14_got_18 rfl (Nat.le_of_ble_eq_true rfl) (mh_38_5 hM) (by rw [ml_38_5 hM]; exact vp_in_nI hj (by decide)) ?_
    refine v_goto 23 dX14_got_19 (by decide) ?_
    refine v_ireturn dX14_got_23 rfl rfl ?_
    exact ⟨by simp only [mGot, if_neg c10], by simp only [mGot, if_neg c10]⟩
set_option maxRecDepth 20000 in
theorem M_dole (g : G0) (h : Hp) (i : MI h) {v : Int32} : Mx g yX14_dole wX14_dole 12 [pR (32, 0), pI v] h 0 0 (qE (some (pI (mDole h v).1)) (mDole h v).2) noX := by
  have hM : SM (mZ h) := i.1
  have i2 := MIz i
  refine Mx.by kfX14_dole rfl (by decide) (Nat.le_of_ble_eq_true rfl) ?_
  refine v_aload_n dX14_dole_0 rfl ?_
  refine v_iconst (0) dX14_dole_1 (by decide) ?_
  refine v_putI fl_X14_112 (fun z => by cases z) dX14_dole_2 rfl rfl (Nat.le_of_ble_eq_true rfl) rfl rfl (mh_32_0 hM) ?_
  change V g _ _ _ _ _ _ _ (mZ h) _ _
  refine v_iload_n dX14_dole_5 rfl ?_
  refine v_iconst (0) dX14_dole_6 (by decide) ?_
  refine v_sipush (999) dX14_dole_7 (by decide) ?_
  refine v_invSE (M_in g (mZ h)) dX14_dole_10 cwX14_in mlX14_231 rfl rfl (by decide) (by decide) (Nat.le_of_ble_eq_true rfl) ?_
  refine v_if_ne 22 dX14_dole_13 (by decide) (fun c13 => ?_) (fun c13 => ?_)
  · refine v_aload_n dX14_dole_22 rfl ?_
    refine v_iload_n dX14_dole_23 rfl ?_
    refine v_putI fl_X14_100 (fun z => by cases z) dX14_dole_24 rfl rfl (Nat.le_of_ble_eq_true rfl) rfl rfl (mh_32_0 hM) ?_
    refine v_aload_n dX14_dole_27 rfl ?_
    refine v_invVE (M_granted g _ (SM.sI hM)) dX14_dole_28 cwX14_granted mlX14_364 (ob_32 _) rfl rfl (by decide) (by decide) (Nat.le_of_ble_eq_true rfl) ?_
    refine v_ireturn dX14_dole_31 rfl rfl ?_
    exact ⟨by simp only [mDole, if_neg c13], by simp only [mDole, if_neg c13]⟩
  · refine v_aload_n dX14_dole_16 rfl ?_
    refine v_iconst (2) dX14_dole_17 (by decide) ?_
    refine v_invVE (M_denied g (mZ h) hM) dX14_dole_18 cwX14_denied mlX14_361 (ob_32 _) rfl rfl (by decide) (by decide) (Nat.le_of_ble_eq_true rfl) ?_
    refine v_ireturn dX14_dole_21 rfl rfl ?_
    exact ⟨by simp only [mDole, if_pos c13], by simp only [mDole, if_pos c13]⟩
