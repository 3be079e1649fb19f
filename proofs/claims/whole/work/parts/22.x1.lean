theorem fa_nlt {t : Int32} (c : nI 8 ≤ t) : ¬ t < 8 := fun z => absurd (Int32.lt_of_lt_of_le z c) (by simp [Int32.lt_irrefl])
theorem fa_lt8 {t : Int32} (c : ¬ nI 8 ≤ t) : t < 8 := Int32.not_le.mp c
theorem vp_in8 {t : Int32} (c0 : ¬ t < 0) (c : ¬ nI 8 ≤ t) : vp_in t 8 := by
  obtain ⟨j, hj, rfl⟩ := nI_of c0
  have : j < 8 := (nI_ltI hj (by decide)).mp (Int32.not_le.mp c)
  exact vp_in_nI this (by decide)
def chIn (h : Hp) (r : Int32) : Hp := sI (sL h (6, 0) 1 (vl h (6, 0) 1 + r.toInt64)) (6, 0) 0 (if vi h (6, 0) 0 + r < 1000000 then vi h (6, 0) 0 + r else 1000000)
set_option maxRecDepth 20000 in
theorem m_takeIn (g : G0) (h : Hp) (hS : SX h) {r : Int32} : Mx g yX1_takeIn wX1_takeIn 1 [pR (6, 0), pI r] h 0 0 (qE none (chIn h r)) noX := by
  refine Mx.by kfX1_takeIn rfl (by decide) (Nat.le_of_ble_eq_true rfl) ?_
  refine v_aload_n dX1_takeIn_0 rfl ?_
  refine v_dup dX1_takeIn_1 rfl ?_
  refine v_getL fl_X1_9 dX1_takeIn_2 rfl rfl (Nat.le_of_ble_eq_true rfl) (xh_6_0 hS) ?_
  refine v_iload_n dX1_takeIn_5 rfl ?_
  refine v_i2l dX1_takeIn_6 ?_
  refine v_ladd dX1_takeIn_7 ?_
  refine v_putL fl_X1_9 (fun z => by cases z) dX1_takeIn_8 rfl rfl (Nat.le_of_ble_eq_true rfl) (xh_6_0 hS) ?_
  refine v_aload_n dX1_takeIn_11 rfl ?_
  refine v_ldc (1000000) dX1_takeIn_12 ctX1_15 ?_
  refine v_aload_n dX1_takeIn_14 rfl ?_
  refine v_getI fl_X1_16 dX1_takeIn_15 rfl rfl (Nat.le_of_ble_eq_true rfl) (xh_6_0 hS) ?_
  refine v_iload_n dX1_takeIn_18 rfl ?_
  refine v_iadd dX1_takeIn_19 ?_
  refine v_mmin dX1_takeIn_20 mlX1_20 (by decide) (Nat.le_of_ble_eq_true rfl) ?_
  refine v_putI fl_X1_16 (fun z => by cases z) dX1_takeIn_23 rfl rfl (Nat.le_of_ble_eq_true rfl) rfl rfl (xh_6_0 hS) ?_
  refine v_return dX1_takeIn_26 rfl ?_
  exact ⟨rfl, rfl⟩
def chPay (h : Hp) (d : Int32) : Int32 := if vi h (6, 0) 0 < d then vi h (6, 0) 0 else d
set_option maxRecDepth 20000 in
theorem m_payOut (g : G0) (h : Hp) (hS : SX h) {d : Int32} : Mx g yX1_payOut wX1_payOut 1 [pR (6, 0), pI d] h 0 0 (qE (some (pI (chPay h d))) (sI h (6, 0) 0 (vi h (6, 0) 0 - chPay h d))) noX := by
  refine Mx.by kfX1_payOut rfl (by decide) (Nat.le_of_ble_eq_true rfl) ?_
  refine v_iload_n dX1_payOut_0 rfl ?_
  refine v_aload_n dX1_payOut_1 rfl ?_
  refine v_getI fl_X1_16 dX1_payOut_2 rfl rfl (Nat.le_of_ble_eq_true rfl) (xh_6_0 hS) ?_
  refine v_mmin dX1_payOut_5 mlX1_20 (by decide) (Nat.le_of_ble_eq_true rfl) ?_
  refine v_istore_n dX1_payOut_8 (by decide) ?_
  refine v_aload_n dX1_payOut_9 rfl ?_
  refine v_dup dX1_payOut_10 rfl ?_
  refine v_getI fl_X1_16 dX1_payOut_11 rfl rfl (Nat.le_of_ble_eq_true rfl) (xh_6_0 hS) ?_
  refine v_iload_n dX1_payOut_14 rfl ?_
  refine v_isub dX1_payOut_15 ?_
  refine v_putI fl_X1_16 (fun z => by cases z) dX1_payOut_16 rfl rfl (Nat.le_of_ble_eq_true rfl) rfl rfl (xh_6_0 hS) ?_
  refine v_iload_n dX1_payOut_19 rfl ?_
  refine v_ireturn dX1_payOut_20 rfl rfl ?_
  exact ⟨rfl, rfl⟩
def ldDue (h : Hp) (i : Nat) (day : Int32) : Prop := ¬ vi h (12, i) 1 ≤ 0 ∧ ¬ day < vi h (12, i) 2 ∧ day - vi h (12, i) 2 - (day - vi h (12, i) 2) / vi h (12, i) 1 * vi h (12, i) 1 = 0
theorem ne_of_nle {x : Int32} (h : ¬ x ≤ 0) : ¬ x = 0 := fun e => h (by rw [e]; decide)
set_option maxRecDepth 20000 in
theorem m_isDueOn (g : G0) (h : Hp) {i : Nat} (hi : i < cn h 12) {day : Int32} : Mx g yX2_isDueOn wX2_isDueOn 0 [pR (12, i), pI day] h 0 0 (fun r h' => h' = h ∧ ((r = some (pI 1) ∧ ldDue h i day) ∨ (r = some (pI 0) ∧ ¬ ldDue h i day))) noX := by
  refine Mx.by kfX2_isDueOn rfl (by decide) (Nat.le_of_ble_eq_true rfl) ?_
  refine v_aload_n dX2_isDueOn_0 rfl ?_
  refine v_getI fl_X2_13 dX2_isDueOn_1 rfl rfl (Nat.le_of_ble_eq_true rfl) hi ?_
  refine v_if_le 33 dX2_isDueOn_4 (by decide) (fun c4 => ?_) (fun c4 => ?_)
  · refine v_iconst (0) dX2_isDueOn_33 (by decide) ?_
    refine v_ireturn dX2_isDueOn_34 rfl rfl ?_
    first | exact ⟨rfl, Or.inr ⟨rfl, fun z => z.1 c4⟩⟩ | exact ⟨rfl, Or.inr ⟨rfl, fun z => z.2.1 c12⟩⟩ | exact ⟨rfl, Or.inr ⟨rfl, fun z => c26 z.2.2⟩⟩ | exact ⟨rfl, Or.inl ⟨rfl, c4, c12, c26⟩⟩
  · refine v_iload_n dX2_isDueOn_7 rfl ?_
    refine v_aload_n dX2_isDueOn_8 rfl ?_
    refine v_getI fl_X2_16 dX2_isDueOn_9 rfl rfl (Nat.le_of_ble_eq_true rfl) hi ?_
    refine v_icmp_lt 33 dX2_isDueOn_12 (by decide) (fun c12 => ?_) (fun c12 => ?_)
    · refine v_iconst (0) dX2_isDueOn_33 (by decide) ?_
      refine v_ireturn dX2_isDueOn_34 rfl rfl ?_
      first | exact ⟨rfl, Or.inr ⟨rfl, fun z => z.1 c4⟩⟩ | exact ⟨rfl, Or.inr ⟨rfl, fun z => z.2.1 c12⟩⟩ | exact ⟨rfl, Or.inr ⟨rfl, fun z => c26 z.2.2⟩⟩ | exact ⟨rfl, Or.inl ⟨rfl, c4, c12, c26⟩⟩
    · refine v_iload_n dX2_isDueOn_15 rfl ?_
      refine v_aload_n dX2_isDueOn_16 rfl ?_
      refine v_getI fl_X2_16 dX2_isDueOn_17 rfl rfl (Nat.le_of_ble_eq_true rfl) hi ?_
      refine v_isub dX2_isDueOn_20 ?_
      refine v_aload_n dX2_isDueOn_21 rfl ?_
      refine v_getI fl_X2_13 dX2_isDueOn_22 rfl rfl (Nat.le_of_ble_eq_true rfl) hi ?_
      refine v_irem dX2_isDueOn_25 (ne_of_nle c4) ?_
      refine v_if_ne 33 dX2_isDueOn_26 (by decide) (fun c26 => ?_) (fun c26 => ?_)
      · refine v_iconst (0) dX2_isDueOn_33 (by decide) ?_
        refine v_ireturn dX2_isDueOn_34 rfl rfl ?_
        first | exact ⟨rfl, Or.inr ⟨rfl, fun z => z.1 c4⟩⟩ | exact ⟨rfl, Or.inr ⟨rfl, fun z => z.2.1 c12⟩⟩ | exact ⟨rfl, Or.inr ⟨rfl, fun z => c26 z.2.2⟩⟩ | exact ⟨rfl, Or.inl ⟨rfl, c4, c12, c26⟩⟩
      · refine v_iconst (1) dX2_isDueOn_29 (by decide) ?_
        refine v_goto 34 dX2_isDueOn_30 (by decide) ?_
        refine v_ireturn dX2_isDueOn_34 rfl rfl ?_
        first | exact ⟨rfl, Or.inr ⟨rfl, fun z => z.1 c4⟩⟩ | exact ⟨rfl, Or.inr ⟨rfl, fun z => z.2.1 c12⟩⟩ | exact ⟨rfl, Or.inr ⟨rfl, fun z => c26 z.2.2⟩⟩ | exact ⟨rfl, Or.inl ⟨rfl, c4, c12, c26⟩⟩
def trBeh (h : Hp) (t : Int32) : Int32 := if vi h (5, 0) 1 ≤ t + 1 then 0 else t + 1
set_option maxRecDepth 20000 in
theorem m_behind (g : G0) (h : Hp) (hS : SX h) {t : Int32} : Mx g yX9_behind wX9_behind 0 [pR (5, 0), pI t] h 0 0 (qE (some (pI (trBeh h t))) h) noX := by
  refine Mx.by kfX9_behind rfl (by decide) (Nat.le_of_ble_eq_true rfl) ?_
  refine v_iload_n dX9_behind_0 rfl ?_
  refine v_iconst (1) dX9_behind_1 (by decide) ?_
  refine v_iadd dX9_behind_2 ?_
  refine v_aload_n dX9_behind_3 rfl ?_
  refine v_getI fl_X9_19 dX9_behind_4 rfl rfl (Nat.le_of_ble_eq_true rfl) (xh_5_0 hS) ?_
  refine v_icmp_ge 16 dX9_behind_7 (by decide) (fun c7 => ?_) (fun c7 => ?_)
  · refine v_iconst (0) dX9_behind_16 (by decide) ?_
    refine v_ireturn dX9_behind_17 rfl rfl ?_
    refine ⟨?_, rfl⟩
    unfold trBeh
    first | rw [if_pos c7] | rw [if_neg c7]
  · refine v_iload_n dX9_behind_10 rfl ?_
    refine v_iconst (1) dX9_behind_11 (by decide) ?_
    refine v_iadd dX9_behind_12 ?_
    refine v_goto 17 dX9_behind_13 (by decide) ?_
    refine v_ireturn dX9_behind_17 rfl rfl ?_
    refine ⟨?_, rfl⟩
    unfold trBeh
    first | rw [if_pos c7] | rw [if_neg c7]
set_option maxRecDepth 20000 in
theorem m_moveTurn (g : G0) (h : Hp) (hS : SX h) {t : Int32} : Mx g yX9_moveTurnBehind wX9_moveTurnBehind 1 [pR (5, 0), pI t] h 0 0 (qE none (sI h (5, 0) 2 (trBeh h t))) noX := by
  refine Mx.by kfX9_moveTurnBehind rfl (by decide) (Nat.le_of_ble_eq_true rfl) ?_
  refine v_aload_n dX9_moveTurnBehind_0 rfl ?_
  refine v_aload_n dX9_moveTurnBehind_1 rfl ?_
  refine v_iload_n dX9_moveTurnBehind_2 rfl ?_
  refine v_invVE (m_behind g h hS) dX9_moveTurnBehind_3 cwX9_behind mlX9_22 (ob_5 _) rfl rfl (by decide) (by decide) (Nat.le_of_ble_eq_true rfl) ?_
  refine v_putI fl_X9_15 (fun z => by cases z) dX9_moveTurnBehind_6 rfl rfl (Nat.le_of_ble_eq_true rfl) rfl rfl (xh_5_0 hS) ?_
  refine v_return dX9_moveTurnBehind_9 rfl ?_
  exact ⟨rfl, rfl⟩
set_option maxRecDepth 20000 in
theorem m_setAbsent (g : G0) (h : Hp) (hS : SX h) {t : Nat} {b : Int32} (ht : t < 8) : Mx g yX9_setAbsent wX9_setAbsent 0 [pR (5, 0), pI (nI t), pI b] h 0 0 (qE none (sI h (14, 0) t (vp_nar .boolean b))) noX := by
  have ncl : (nI t).toNatClampNeg = t := nI_clamp (by omega)
  refine Mx.by kfX9_setAbsent rfl (by decide) (Nat.le_of_ble_eq_true rfl) ?_
  refine v_iload_n dX9_setAbsent_0 rfl ?_
  refine v_if_lt 20 dX9_setAbsent_1 (by decide) (fun z => absurd z (nI_pos (by omega))) (fun _ => ?_)
  refine v_iload_n dX9_setAbsent_4 rfl ?_
  refine v_aload_n dX9_setAbsent_5 rfl ?_
  refine v_getR (some (14, 0)) fl_X9_9 dX9_setAbsent_6 rfl rfl (Nat.le_of_ble_eq_true rfl) (xh_5_0 hS) (xr_5_0_0 hS) ?_
  refine v_alen dX9_setAbsent_9 rfl (by decide) (Nat.le_of_ble_eq_true rfl) (xh_14_0 hS) ?_
  refine v_icmp_ge 20 dX9_setAbsent_10 (by decide) (fun z => absurd z (by rw [xl_14_0 hS]; exact nI_ge (by omega) (by decide))) (fun _ => ?_)
  refine v_aload_n dX9_setAbsent_13 rfl ?_
  refine v_getR (some (14, 0)) fl_X9_9 dX9_setAbsent_14 rfl rfl (Nat.le_of_ble_eq_true rfl) (xh_5_0 hS) (xr_5_0_0 hS) ?_
  refine v_iload_n dX9_setAbsent_17 rfl ?_
  refine v_iload_n dX9_setAbsent_18 rfl ?_
  refine v_zast dX9_setAbsent_19 rfl (Nat.le_of_ble_eq_true rfl) (xh_14_0 hS) (by rw [xl_14_0 hS]; exact vp_in_nI ht (by decide)) ?_
  rw [ncl]
  refine v_return dX9_setAbsent_20 rfl ?_
  exact ⟨rfl, rfl⟩
/-- who gives: the first from t on, round, of n tries, that is there -/
def trGiv (h : Hp) : Nat → Int32 → Int32
  | 0, _ => -1
  | n + 1, t => if ¬ t < 0 ∧ t < 8 ∧ vi h (14, 0) t.toNatClampNeg = 0 then t else trGiv h n (trBeh h t)
set_option maxRecDepth 20000 in
theorem giver_loop (g : G0) (h : Hp) (hS : SX h) {n : Nat} (hn : vi h (5, 0) 1 = nI n) (hn8 : n ≤ 8) : ∀ (j i : Nat) (t x : Int32), i + j = n → x = nI i → V g kfX9_giver 1 0 0 7 [(0, pR (5, 0)), (1, pI t), (2, pI x)] [] h (qE (some (pI (trGiv h j t))) h) (fun _ _ a h' => noX a h') := by
  intro j
  induction j with
  | zero =>
    intro i t x hij hx
    subst hx
    refine v_iload_n dX9_giver_7 rfl ?_
    refine v_aload_n dX9_giver_8 rfl ?_
    refine v_getI fl_X9_19 dX9_giver_9 rfl rfl (Nat.le_of_ble_eq_true rfl) (xh_5_0 hS) ?_
    rw [hn]
    refine v_icmp_ge 51 dX9_giver_12 (by decide) (fun _ => ?_) (fun z => absurd (nI_le (by omega) (by omega)) z)
    refine v_iconst (-1) dX9_giver_51 (by decide) ?_
    refine v_ireturn dX9_giver_52 rfl rfl ?_
    exact ⟨rfl, rfl⟩
  | succ j ih =>
    intro i t x hij hx
    subst hx
    refine v_iload_n dX9_giver_7 rfl ?_
    refine v_aload_n dX9_giver_8 rfl ?_
    refine v_getI fl_X9_19 dX9_giver_9 rfl rfl (Nat.le_of_ble_eq_true rfl) (xh_5_0 hS) ?_
    rw [hn]
    refine v_icmp_ge 51 dX9_giver_12 (by decide) (fun z => absurd z (nI_ge (by omega) (by omega))) (fun _ => ?_)
    refine v_iload_n dX9_giver_15 rfl ?_
    refine v_if_lt 39 dX9_giver_16 (by decide) (fun c16 => ?_) (fun c16 => ?_)
    · refine v_aload_n dX9_giver_39 rfl ?_
      refine v_iload_n dX9_giver_40 rfl ?_
      refine v_invVE (m_behind g h hS) dX9_giver_41 cwX9_behind mlX9_22 (ob_5 _) rfl rfl (by decide) (by decide) (Nat.le_of_ble_eq_true rfl) ?_
      refine v_istore_n dX9_giver_44 (by decide) ?_
      refine v_iinc _ dX9_giver_45 rfl rfl (by decide) ?_
      refine v_goto 7 dX9_giver_48 (by decide) ?_
      refine v_loc [(0, pR (5, 0)), (1, pI (trBeh h t)), (2, pI (nI i + 1))] rfl ?_
      have e : trGiv h (j + 1) t = trGiv h j (trBeh h t) := by
        rw [trGiv]; apply if_neg; rintro ⟨z1, z2, z3⟩
        first | exact z1 c16 | exact absurd z2 (fa_nlt c25) | exact c34 z3
      rw [e]
      exact ih (i + 1) _ _ (by omega) (nI_1 i)
    · refine v_iload_n dX9_giver_19 rfl ?_
      refine v_aload_n dX9_giver_20 rfl ?_
      refine v_getR (some (14, 0)) fl_X9_9 dX9_giver_21 rfl rfl (Nat.le_of_ble_eq_true rfl) (xh_5_0 hS) (xr_5_0_0 hS) ?_
      refine v_alen dX9_giver_24 rfl (by decide) (Nat.le_of_ble_eq_true rfl) (xh_14_0 hS) ?_
      rw [xl_14_0 hS]
      refine v_icmp_ge 39 dX9_giver_25 (by decide) (fun c25 => ?_) (fun c25 => ?_)
      · refine v_aload_n dX9_giver_39 rfl ?_
        refine v_iload_n dX9_giver_40 rfl ?_
        refine v_invVE (m_behind g h hS) dX9_giver_41 cwX9_behind mlX9_22 (ob_5 _) rfl rfl (by decide) (by decide) (Nat.le_of_ble_eq_true rfl) ?_
        refine v_istore_n dX9_giver_44 (by decide) ?_
        refine v_iinc _ dX9_giver_45 rfl rfl (by decide) ?_
        refine v_goto 7 dX9_giver_48 (by decide) ?_
        refine v_loc [(0, pR (5, 0)), (1, pI (trBeh h t)), (2, pI (nI i + 1))] rfl ?_
        have e : trGiv h (j + 1) t = trGiv h j (trBeh h t) := by
          rw [trGiv]; apply if_neg; rintro ⟨z1, z2, z3⟩
          first | exact z1 c16 | exact absurd z2 (fa_nlt c25) | exact c34 z3
        rw [e]
        exact ih (i + 1) _ _ (by omega) (nI_1 i)
      · refine v_aload_n dX9_giver_28 rfl ?_
        refine v_getR (some (14, 0)) fl_X9_9 dX9_giver_29 rfl rfl (Nat.le_of_ble_eq_true rfl) (xh_5_0 hS) (xr_5_0_0 hS) ?_
        refine v_iload_n dX9_giver_32 rfl ?_
        refine v_zald dX9_giver_33 rfl (Nat.le_of_ble_eq_true rfl) (xh_14_0 hS) (by rw [xl_14_0 hS]; exact vp_in8 c16 c25) ?_
        refine v_if_ne 39 dX9_giver_34 (by decide) (fun c34 => ?_) (fun c34 => ?_)
        · refine v_aload_n dX9_giver_39 rfl ?_
          refine v_iload_n dX9_giver_40 rfl ?_
          refine v_invVE (m_behind g h hS) dX9_giver_41 cwX9_behind mlX9_22 (ob_5 _) rfl rfl (by decide) (by decide) (Nat.le_of_ble_eq_true rfl) ?_
          refine v_istore_n dX9_giver_44 (by decide) ?_
          refine v_iinc _ dX9_giver_45 rfl rfl (by decide) ?_
          refine v_goto 7 dX9_giver_48 (by decide) ?_
          refine v_loc [(0, pR (5, 0)), (1, pI (trBeh h t)), (2, pI (nI i + 1))] rfl ?_
          have e : trGiv h (j + 1) t = trGiv h j (trBeh h t) := by
            rw [trGiv]; apply if_neg; rintro ⟨z1, z2, z3⟩
            first | exact z1 c16 | exact absurd z2 (fa_nlt c25) | exact c34 z3
          rw [e]
          exact ih (i + 1) _ _ (by omega) (nI_1 i)
        · refine v_iload_n dX9_giver_37 rfl ?_
          refine v_ireturn dX9_giver_38 rfl rfl ?_
          refine ⟨?_, rfl⟩
          rw [trGiv, if_pos ⟨c16, fa_lt8 c25, c34⟩]
set_option maxRecDepth 20000 in
theorem m_giver (g : G0) (h : Hp) (hS : SX h) {n : Nat} (hn : vi h (5, 0) 1 = nI n) (hn8 : n ≤ 8) : Mx g yX9_giver wX9_giver 1 [pR (5, 0)] h 0 0 (qE (some (pI (trGiv h n (vi h (5, 0) 2)))) h) noX := by
  refine Mx.by kfX9_giver rfl (by decide) (Nat.le_of_ble_eq_true rfl) ?_
  refine v_aload_n dX9_giver_0 rfl ?_
  refine v_getI fl_X9_15 dX9_giver_1 rfl rfl (Nat.le_of_ble_eq_true rfl) (xh_5_0 hS) ?_
  refine v_istore_n dX9_giver_4 (by decide) ?_
  refine v_iconst (0) dX9_giver_5 (by decide) ?_
  refine v_istore_n dX9_giver_6 (by decide) ?_
  refine v_loc [(0, pR (5, 0)), (1, pI (vi h (5, 0) 2)), (2, pI 0)] rfl ?_
  exact giver_loop g h hS hn hn8 n 0 _ _ (by omega) rfl
