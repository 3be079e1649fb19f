def mTrA (h : Hp) : Int32 × Hp := (vi (sI h (32, 0) 38 (vi h (32, 0) 38 + 1)) (32, 0) 38 - 1, mT (sI h (32, 0) 38 (vi h (32, 0) 38 + 1)) 0)
def mTrustee (h : Hp) : Int32 × Hp := if vi (mZ h) (32, 0) 38 = 8 then (-1, mT (mZ h) 3) else if vi (mZ h) (32, 0) 38 = 0 then mTrA (sI (mZ h) (32, 0) 39 0) else mTrA (mZ h)
def mAway (h : Hp) (t b : Int32) : Int32 × Hp := if t < 0 then (0, mT (mZ h) 1) else if t < vi (mZ h) (32, 0) 38 then (1, mT (sI (mZ h) (39, 2) t.toNatClampNeg (vp_nar .boolean b)) 0) else (0, mT (mZ h) 1)
set_option maxRecDepth 20000 in
theorem M_trustee (g : G0) (h : Hp) (i : MI h)  : Mx g yX14_trustee wX14_trustee 12 [pR (32, 0)] h 0 0 (qE (some (pI (mTrustee h).1)) (mTrustee h).2) noX := by
  have hM : SM (mZ h) := i.1
  have i2 := MIz i
  refine Mx.by kfX14_trustee rfl (by decide) (Nat.le_of_ble_eq_true rfl) ?_
  refine v_aload_n dX14_trustee_0 rfl ?_
  refine v_iconst (0) dX14_trustee_1 (by decide) ?_
  refine v_putI fl_X14_112 (fun z => by cases z) dX14_trustee_2 rfl rfl (Nat.le_of_ble_eq_true rfl) rfl rfl (mh_32_0 hM) ?_
  change V g _ _ _ _ _ _ _ (mZ h) _ _
  refine v_aload_n dX14_trustee_5 rfl ?_
  refine v_getI fl_X14_358 dX14_trustee_6 rfl rfl (Nat.le_of_ble_eq_true rfl) (mh_32_0 hM) ?_
  refine v_bipush (8) dX14_trustee_9 (by decide) ?_
  refine v_icmp_ne 20 dX14_trustee_11 (by decide) (fun c11 => ?_) (fun c11 => ?_)
  · refine v_aload_n dX14_trustee_20 rfl ?_
    refine v_getI fl_X14_358 dX14_trustee_21 rfl rfl (Nat.le_of_ble_eq_true rfl) (mh_32_0 hM) ?_
    refine v_if_ne 32 dX14_trustee_24 (by decide) (fun c24 => ?_) (fun c24 => ?_)
    · refine v_aload_n dX14_trustee_32 rfl ?_
      refine v_dup dX14_trustee_33 rfl ?_
      refine v_getI fl_X14_358 dX14_trustee_34 rfl rfl (Nat.le_of_ble_eq_true rfl) (mh_32_0 hM) ?_
      refine v_iconst (1) dX14_trustee_37 (by decide) ?_
      refine v_iadd dX14_trustee_38 ?_
      refine v_putI fl_X14_358 (fun z => by cases z) dX14_trustee_39 rfl rfl (Nat.le_of_ble_eq_true rfl) rfl rfl (mh_32_0 hM) ?_
      refine v_aload_n dX14_trustee_42 rfl ?_
      refine v_aload_n dX14_trustee_43 rfl ?_
      refine v_getI fl_X14_358 dX14_trustee_44 rfl rfl (Nat.le_of_ble_eq_true rfl) (mh_32_0 hM) ?_
      refine v_iconst (1) dX14_trustee_47 (by decide) ?_
      refine v_isub dX14_trustee_48 ?_
      first | refine v_invVE (M_done g (sI (mZ h) (32, 0) 38 (vi (mZ h) (32, 0) 38 + 1)) hM) dX14_trustee_49 cwX14_done mlX14_125 (ob_32 _) rfl rfl (by decide) (by decide) (Nat.le_of_ble_eq_true rfl) ?_ | refine v_invVE (M_done g (sI (sI (mZ h) (32, 0) 39 0) (32, 0) 38 (vi (sI (mZ h) (32, 0) 39 0) (32, 0) 38 + 1)) hM) dX14_trustee_49 cwX14_done mlX14_125 (ob_32 _) rfl rfl (by decide) (by decide) (Nat.le_of_ble_eq_true rfl) ?_
      refine v_ireturn dX14_trustee_52 rfl rfl ?_
      exact ⟨by simp only [mTrustee, mTrA, if_neg c11, if_neg c24], by simp only [mTrustee, mTrA, if_neg c11, if_neg c24]⟩
    · refine v_aload_n dX14_trustee_27 rfl ?_
      refine v_iconst (0) dX14_trustee_28 (by decide) ?_
      refine v_putI fl_X14_73 (fun z => by cases z) dX14_trustee_29 rfl rfl (Nat.le_of_ble_eq_true rfl) rfl rfl (mh_32_0 hM) ?_
      refine v_aload_n dX14_trustee_32 rfl ?_
      refine v_dup dX14_trustee_33 rfl ?_
      refine v_getI fl_X14_358 dX14_trustee_34 rfl rfl (Nat.le_of_ble_eq_true rfl) (mh_32_0 hM) ?_
      refine v_iconst (1) dX14_trustee_37 (by decide) ?_
      refine v_iadd dX14_trustee_38 ?_
      refine v_putI fl_X14_358 (fun z => by cases z) dX14_trustee_39 rfl rfl (Nat.le_of_ble_eq_true rfl) rfl rfl (mh_32_0 hM) ?_
      refine v_aload_n dX14_trustee_42 rfl ?_
      refine v_aload_n dX14_trustee_43 rfl ?_
      refine v_getI fl_X14_358 dX14_trustee_44 rfl rfl (Nat.le_of_ble_eq_true rfl) (mh_32_0 hM) ?_
      refine v_iconst (1) dX14_trustee_47 (by decide) ?_
      refine v_isub dX14_trustee_48 ?_
      first | refine v_invVE (M_done g (sI (mZ h) (32, 0) 38 (vi (mZ h) (32, 0) 38 + 1)) hM) dX14_trustee_49 cwX14_done mlX14_125 (ob_32 _) rfl rfl (by decide) (by decide) (Nat.le_of_ble_eq_true rfl) ?_ | refine v_invVE (M_done g (sI (sI (mZ h) (32, 0) 39 0) (32, 0) 38 (vi (sI (mZ h) (32, 0) 39 0) (32, 0) 38 + 1)) hM) dX14_trustee_49 cwX14_done mlX14_125 (ob_32 _) rfl rfl (by decide) (by decide) (Nat.le_of_ble_eq_true rfl) ?_
      refine v_ireturn dX14_trustee_52 rfl rfl ?_
      exact ⟨by simp only [mTrustee, mTrA, if_neg c11, if_pos c24], by simp only [mTrustee, mTrA, if_neg c11, if_pos c24]⟩
  · refine v_aload_n dX14_trustee_14 rfl ?_
    refine v_iconst (3) dX14_trustee_15 (by decide) ?_
    refine v_invVE (M_refused g (mZ h) hM) dX14_trustee_16 cwX14_refused mlX14_121 (ob_32 _) rfl rfl (by decide) (by decide) (Nat.le_of_ble_eq_true rfl) ?_
    refine v_ireturn dX14_trustee_19 rfl rfl ?_
    exact ⟨by simp only [mTrustee, mTrA, if_pos c11], by simp only [mTrustee, mTrA, if_pos c11]⟩
set_option maxRecDepth 20000 in
theorem M_away (g : G0) (h : Hp) (i : MI h) {t b : Int32} : Mx g yX14_away wX14_away 12 [pR (32, 0), pI t, pI b] h 0 0 (qE (some (pI (mAway h t b).1)) (mAway h t b).2) noX := by
  have hM : SM (mZ h) := i.1
  have i2 := MIz i
  refine Mx.by kfX14_away rfl (by decide) (Nat.le_of_ble_eq_true rfl) ?_
  refine v_aload_n dX14_away_0 rfl ?_
  refine v_iconst (0) dX14_away_1 (by decide) ?_
  refine v_putI fl_X14_112 (fun z => by cases z) dX14_away_2 rfl rfl (Nat.le_of_ble_eq_true rfl) rfl rfl (mh_32_0 hM) ?_
  change V g _ _ _ _ _ _ _ (mZ h) _ _
  refine v_iload_n dX14_away_5 rfl ?_
  refine v_if_lt 17 dX14_away_6 (by decide) (fun c6 => ?_) (fun c6 => ?_)
  · refine v_aload_n dX14_away_17 rfl ?_
    refine v_iconst (1) dX14_away_18 (by decide) ?_
    refine v_invVE (M_denied g (mZ h) hM) dX14_away_19 cwX14_denied mlX14_361 (ob_32 _) rfl rfl (by decide) (by decide) (Nat.le_of_ble_eq_true rfl) ?_
    refine v_ireturn dX14_away_22 rfl rfl ?_
    exact ⟨by simp only [mAway, if_pos c6], by simp only [mAway, if_pos c6]⟩
  · refine v_iload_n dX14_away_9 rfl ?_
    refine v_aload_n dX14_away_10 rfl ?_
    refine v_getI fl_X14_358 dX14_away_11 rfl rfl (Nat.le_of_ble_eq_true rfl) (mh_32_0 hM) ?_
    refine v_icmp_lt 23 dX14_away_14 (by decide) (fun c14 => ?_) (fun c14 => ?_)
    · obtain ⟨n, hn8, hnv⟩ := i2.2.2.2.2.1
      obtain ⟨j, hj31, rfl⟩ := nI_of c6
      have c14a := c14
      rw [hnv] at c14a
      have ht : j < 8 := by have := (nI_ltI hj31 (by omega)).mp c14a; omega
      refine v_aload_n dX14_away_23 rfl ?_
      refine v_getR (some (39, 2)) fl_X14_97 dX14_away_24 rfl rfl (Nat.le_of_ble_eq_true rfl) (mh_32_0 hM) (mr_32_0_47 hM) ?_
      refine v_iload_n dX14_away_27 rfl ?_
      refine v_iload_n dX14_away_28 rfl ?_
      refine v_zast dX14_away_29 rfl (Nat.le_of_ble_eq_true rfl) (mh_39_2 hM) (by rw [ml_39_2 hM]; exact vp_in_nI ht (by decide)) ?_
      refine v_aload_n dX14_away_30 rfl ?_
      refine v_invVE (M_granted g _ (SM.sI hM)) dX14_away_31 cwX14_granted mlX14_364 (ob_32 _) rfl rfl (by decide) (by decide) (Nat.le_of_ble_eq_true rfl) ?_
      refine v_ireturn dX14_away_34 rfl rfl ?_
      exact ⟨by simp only [mAway, if_neg c6, if_pos c14], by simp only [mAway, if_neg c6, if_pos c14]⟩
    · refine v_aload_n dX14_away_17 rfl ?_
      refine v_iconst (1) dX14_away_18 (by decide) ?_
      refine v_invVE (M_denied g (mZ h) hM) dX14_away_19 cwX14_denied mlX14_361 (ob_32 _) rfl rfl (by decide) (by decide) (Nat.le_of_ble_eq_true rfl) ?_
      refine v_ireturn dX14_away_22 rfl rfl ?_
      exact ⟨by simp only [mAway, if_neg c6, if_neg c14], by simp only [mAway, if_neg c6, if_neg c14]⟩
def mRoN (h : Hp) (n : Nat) (w : Int32) : Hp := sI (sI (sI (sI h (38, 10) n w) (38, 11) n (-1)) (38, 12) n (-2)) (32, 0) 36 (nI n + 1)
def mRoom (h : Hp) (w : Int32) : Int32 × Hp := if mWb (mZ h) w = 0 then (-1, mT (mZ h) 1) else if vi (mZ h) (32, 0) 36 = 20 then (-1, mT (mZ h) 3) else (nI (vi (mZ h) (32, 0) 36).toNatClampNeg, mT (mRoN (mZ h) (vi (mZ h) (32, 0) 36).toNatClampNeg w) 0)
set_option maxRecDepth 20000 in
theorem M_room (g : G0) (h : Hp) (i : MI h) {w : Int32} : Mx g yX14_room wX14_room 12 [pR (32, 0), pI w] h 0 0 (qE (some (pI (mRoom h w).1)) (mRoom h w).2) noX := by
  have hM : SM (mZ h) := i.1
  have i2 := MIz i
  obtain ⟨n, hn, e⟩ := i2.2.2.1
  have ncl : (nI n).toNatClampNeg = n := nI_clamp (by omega)
  have ncv : (vi (mZ h) (32, 0) 36).toNatClampNeg = n := by rw [e, ncl]
  have e1 : vi (sI (mZ h) (38, 10) n w) (32, 0) 36 = nI n := by rw [vi_sI_ne _ _ _ _ (by decide)]; exact e
  have e2 : vi (sI (sI (mZ h) (38, 10) n w) (38, 11) n (-1)) (32, 0) 36 = nI n := by rw [vi_sI_ne _ _ _ _ (by decide)]; exact e1
  have e3 : vi (sI (sI (sI (mZ h) (38, 10) n w) (38, 11) n (-1)) (38, 12) n (-2)) (32, 0) 36 = nI n := by rw [vi_sI_ne _ _ _ _ (by decide)]; exact e2
  refine Mx.by kfX14_room rfl (by decide) (Nat.le_of_ble_eq_true rfl) ?_
  refine v_aload_n dX14_room_0 rfl ?_
  refine v_iconst (0) dX14_room_1 (by decide) ?_
  refine v_putI fl_X14_112 (fun z => by cases z) dX14_room_2 rfl rfl (Nat.le_of_ble_eq_true rfl) rfl rfl (mh_32_0 hM) ?_
  change V g _ _ _ _ _ _ _ (mZ h) _ _
  refine v_aload_n dX14_room_5 rfl ?_
  refine v_iload_n dX14_room_6 rfl ?_
  refine v_invVE (M_isWill g (mZ h) hM) dX14_room_7 cwX14_isWill mlX14_274 (ob_32 _) rfl rfl (by decide) (by decide) (Nat.le_of_ble_eq_true rfl) ?_
  refine v_if_ne 19 dX14_room_10 (by decide) (fun c10 => ?_) (fun c10 => ?_)
  · refine v_aload_n dX14_room_19 rfl ?_
    refine v_getI fl_X14_355 dX14_room_20 rfl rfl (Nat.le_of_ble_eq_true rfl) (mh_32_0 hM) ?_
    refine v_bipush (20) dX14_room_23 (by decide) ?_
    refine v_icmp_ne 34 dX14_room_25 (by decide) (fun c25 => ?_) (fun c25 => ?_)
    · have hne : n ≠ 20 := fun z => c25 (by rw [e, z]; decide)
      have hn2 : n < 20 := by omega
      refine v_aload_n dX14_room_34 rfl ?_
      refine v_getR (some (38, 10)) fl_X14_76 dX14_room_35 rfl rfl (Nat.le_of_ble_eq_true rfl) (mh_32_0 hM) (mr_32_0_40 hM) ?_
      refine v_aload_n dX14_room_38 rfl ?_
      refine v_getI fl_X14_355 dX14_room_39 rfl rfl (Nat.le_of_ble_eq_true rfl) (mh_32_0 hM) ?_
      rw [e]
      refine v_iload_n dX14_room_42 rfl ?_
      refine v_iast dX14_room_43 rfl (Nat.le_of_ble_eq_true rfl) (mh_38_10 hM) (by rw [ml_38_10 hM]; exact vp_in_nI hn2 (by decide)) ?_
      rw [ncl]
      refine v_aload_n dX14_room_44 rfl ?_
      refine v_getR (some (38, 11)) fl_X14_79 dX14_room_45 rfl rfl (Nat.le_of_ble_eq_true rfl) (mh_32_0 hM) (mr_32_0_41 hM) ?_
      refine v_aload_n dX14_room_48 rfl ?_
      refine v_getI fl_X14_355 dX14_room_49 rfl rfl (Nat.le_of_ble_eq_true rfl) (mh_32_0 hM) ?_
      rw [e1]
      refine v_iconst (-1) dX14_room_52 (by decide) ?_
      refine v_iast dX14_room_53 rfl (Nat.le_of_ble_eq_true rfl) (mh_38_11 hM) (by rw [ln_sI, ml_38_11 hM]; exact vp_in_nI hn2 (by decide)) ?_
      rw [ncl]
      refine v_aload_n dX14_room_54 rfl ?_
      refine v_getR (some (38, 12)) fl_X14_82 dX14_room_55 rfl rfl (Nat.le_of_ble_eq_true rfl) (mh_32_0 hM) (mr_32_0_42 hM) ?_
      refine v_aload_n dX14_room_58 rfl ?_
      refine v_getI fl_X14_355 dX14_room_59 rfl rfl (Nat.le_of_ble_eq_true rfl) (mh_32_0 hM) ?_
      rw [e2]
      refine v_bipush (-2) dX14_room_62 (by decide) ?_
      refine v_iast dX14_room_64 rfl (Nat.le_of_ble_eq_true rfl) (mh_38_12 hM) (by rw [ln_sI, ln_sI, ml_38_12 hM]; exact vp_in_nI hn2 (by decide)) ?_
      rw [ncl]
      refine v_aload_n dX14_room_65 rfl ?_
      refine v_dup dX14_room_66 rfl ?_
      refine v_getI fl_X14_355 dX14_room_67 rfl rfl (Nat.le_of_ble_eq_true rfl) (mh_32_0 hM) ?_
      rw [e3]
      refine v_iconst (1) dX14_room_70 (by decide) ?_
      refine v_iadd dX14_room_71 ?_
      refine v_putI fl_X14_355 (fun z => by cases z) dX14_room_72 rfl rfl (Nat.le_of_ble_eq_true rfl) rfl rfl (mh_32_0 hM) ?_
      change V g _ _ _ _ _ _ _ (mRoN (mZ h) n w) _ _
      refine v_aload_n dX14_room_75 rfl ?_
      refine v_aload_n dX14_room_76 rfl ?_
      refine v_getI fl_X14_355 dX14_room_77 rfl rfl (Nat.le_of_ble_eq_true rfl) (mh_32_0 hM) ?_
      rw [show vi (mRoN (mZ h) n w) (32, 0) 36 = nI n + 1 from vi_sI_eq _ _ _ _, nI_1]
      refine v_iconst (1) dX14_room_80 (by decide) ?_
      refine v_isub dX14_room_81 ?_
      rw [nI_pred]
      refine v_invVE (M_done g (mRoN (mZ h) n w) hM) dX14_room_82 cwX14_done mlX14_125 (ob_32 _) rfl rfl (by decide) (by decide) (Nat.le_of_ble_eq_true rfl) ?_
      refine v_ireturn dX14_room_85 rfl rfl ?_
      refine ⟨?_, ?_⟩ <;> first | (simp only [mRoom, if_neg c10, if_neg c25]; done) | (simp only [mRoom, if_neg c10, if_neg c25, ncv]; done)
    · refine v_aload_n dX14_room_28 rfl ?_
      refine v_iconst (3) dX14_room_29 (by decide) ?_
      refine v_invVE (M_refused g (mZ h) hM) dX14_room_30 cwX14_refused mlX14_121 (ob_32 _) rfl rfl (by decide) (by decide) (Nat.le_of_ble_eq_true rfl) ?_
      refine v_ireturn dX14_room_33 rfl rfl ?_
      refine ⟨?_, ?_⟩ <;> first | (simp only [mRoom, if_neg c10, if_pos c25]; done) | (simp only [mRoom, if_neg c10, if_pos c25, ncv]; done)
  · refine v_aload_n dX14_room_13 rfl ?_
    refine v_iconst (1) dX14_room_14 (by decide) ?_
    refine v_invVE (M_refused g (mZ h) hM) dX14_room_15 cwX14_refused mlX14_121 (ob_32 _) rfl rfl (by decide) (by decide) (Nat.le_of_ble_eq_true rfl) ?_
    refine v_ireturn dX14_room_18 rfl rfl ?_
    refine ⟨?_, ?_⟩ <;> first | (simp only [mRoom, if_pos c10]; done) | (simp only [mRoom, if_pos c10, ncv]; done)
def mLaN (h : Hp) (n : Nat) (r e f : Int32) : Hp := sI (sI (sI (sI h (38, 17) n r) (38, 18) n e) (38, 19) n f) (32, 0) 48 (nI n + 1)
def mLand (h : Hp) (r u f : Int32) : Int32 × Hp := if mIn r 0 9999 = 0 then (-1, mT (mZ h) 2) else if mIn u 1 400 = 0 then (-1, mT (mZ h) 2) else if mIn f (vi (mZ h) (32, 0) 23 + 1) 40000 = 0 then (-1, mT (mZ h) 2) else if vi (mZ h) (32, 0) 48 = 10 then (-1, mT (mZ h) 3) else (nI (vi (mZ h) (32, 0) 48).toNatClampNeg, mT (mLaN (mZ h) (vi (mZ h) (32, 0) 48).toNatClampNeg r u f) 0)
set_option maxRecDepth 20000 in
theorem M_land (g : G0) (h : Hp) (i : MI h) {r u f : Int32} : Mx g yX14_land wX14_land 12 [pR (32, 0), pI r, pI u, pI f] h 0 0 (qE (some (pI (mLand h r u f).1)) (mLand h r u f).2) noX := by
  have hM : SM (mZ h) := i.1
  have i2 := MIz i
  obtain ⟨n, hn, e⟩ := i2.2.2.2.2.2
  have ncl : (nI n).toNatClampNeg = n := nI_clamp (by omega)
  have ncv : (vi (mZ h) (32, 0) 48).toNatClampNeg = n := by rw [e, ncl]
  have e1 : vi (sI (mZ h) (38, 17) n r) (32, 0) 48 = nI n := by rw [vi_sI_ne _ _ _ _ (by decide)]; exact e
  have e2 : vi (sI (sI (mZ h) (38, 17) n r) (38, 18) n u) (32, 0) 48 = nI n := by rw [vi_sI_ne _ _ _ _ (by decide)]; exact e1
  have e3 : vi (sI (sI (sI (mZ h) (38, 17) n r) (38, 18) n u) (38, 19) n f) (32, 0) 48 = nI n := by rw [vi_sI_ne _ _ _ _ (by decide)]; exact e2
  refine Mx.by kfX14_land rfl (by decide) (Nat.le_of_ble_eq_true rfl) ?_
  refine v_aload_n dX14_land_0 rfl ?_
  refine v_iconst (0) dX14_land_1 (by decide) ?_
  refine v_putI fl_X14_112 (fun z => by cases z) dX14_land_2 rfl rfl (Nat.le_of_ble_eq_true rfl) rfl rfl (mh_32_0 hM) ?_
  change V g _ _ _ _ _ _ _ (mZ h) _ _
  refine v_iload_n dX14_land_5 rfl ?_
  refine v_iconst (0) dX14_land_6 (by decide) ?_
  refine v_sipush (9999) dX14_land_7 (by decide) ?_
  refine v_invSE (M_in g (mZ h)) dX14_land_10 cwX14_in mlX14_231 rfl rfl (by decide) (by decide) (Nat.le_of_ble_eq_true rfl) ?_
  refine v_if_eq 43 dX14_land_13 (by decide) (fun c13 => ?_) (fun c13 => ?_)
  · refine v_aload_n dX14_land_43 rfl ?_
    refine v_iconst (2) dX14_land_44 (by decide) ?_
    refine v_invVE (M_refused g (mZ h) hM) dX14_land_45 cwX14_refused mlX14_121 (ob_32 _) rfl rfl (by decide) (by decide) (Nat.le_of_ble_eq_true rfl) ?_
    refine v_ireturn dX14_land_48 rfl rfl ?_
    refine ⟨?_, ?_⟩ <;> first | (simp only [mLand, if_pos c13]; done) | (simp only [mLand, if_pos c13, ncv]; done)
  · refine v_iload_n dX14_land_16 rfl ?_
    refine v_iconst (1) dX14_land_17 (by decide) ?_
    refine v_sipush (400) dX14_land_18 (by decide) ?_
    refine v_invSE (M_in g (mZ h)) dX14_land_21 cwX14_in mlX14_231 rfl rfl (by decide) (by decide) (Nat.le_of_ble_eq_true rfl) ?_
    refine v_if_eq 43 dX14_land_24 (by decide) (fun c24 => ?_) (fun c24 => ?_)
    · refine v_aload_n dX14_land_43 rfl ?_
      refine v_iconst (2) dX14_land_44 (by decide) ?_
      refine v_invVE (M_refused g (mZ h) hM) dX14_land_45 cwX14_refused mlX14_121 (ob_32 _) rfl rfl (by decide) (by decide) (Nat.le_of_ble_eq_true rfl) ?_
      refine v_ireturn dX14_land_48 rfl rfl ?_
      refine ⟨?_, ?_⟩ <;> first | (simp only [mLand, if_neg c13, if_pos c24]; done) | (simp only [mLand, if_neg c13, if_pos c24, ncv]; done)
    · refine v_iload_n dX14_land_27 rfl ?_
      refine v_aload_n dX14_land_28 rfl ?_
      refine v_getI fl_X14_312 dX14_land_29 rfl rfl (Nat.le_of_ble_eq_true rfl) (mh_32_0 hM) ?_
      refine v_iconst (1) dX14_land_32 (by decide) ?_
      refine v_iadd dX14_land_33 ?_
      refine v_ldcw (40000) dX14_land_34 ctX14_273 ?_
      refine v_invSE (M_in g (mZ h)) dX14_land_37 cwX14_in mlX14_231 rfl rfl (by decide) (by decide) (Nat.le_of_ble_eq_true rfl) ?_
      refine v_if_ne 49 dX14_land_40 (by decide) (fun c40 => ?_) (fun c40 => ?_)
      · refine v_aload_n dX14_land_49 rfl ?_
        refine v_getI fl_X14_377 dX14_land_50 rfl rfl (Nat.le_of_ble_eq_true rfl) (mh_32_0 hM) ?_
        refine v_bipush (10) dX14_land_53 (by decide) ?_
        refine v_icmp_ne 64 dX14_land_55 (by decide) (fun c55 => ?_) (fun c55 => ?_)
        · have hne : n ≠ 10 := fun z => c55 (by rw [e, z]; decide)
          have hn2 : n < 10 := by omega
          refine v_aload_n dX14_land_64 rfl ?_
          refine v_getR (some (38, 17)) fl_X14_103 dX14_land_65 rfl rfl (Nat.le_of_ble_eq_true rfl) (mh_32_0 hM) (mr_32_0_52 hM) ?_
          refine v_aload_n dX14_land_68 rfl ?_
          refine v_getI fl_X14_377 dX14_land_69 rfl rfl (Nat.le_of_ble_eq_true rfl) (mh_32_0 hM) ?_
          rw [e]
          refine v_iload_n dX14_land_72 rfl ?_
          refine v_iast dX14_land_73 rfl (Nat.le_of_ble_eq_true rfl) (mh_38_17 hM) (by rw [ml_38_17 hM]; exact vp_in_nI hn2 (by decide)) ?_
          rw [ncl]
          refine v_aload_n dX14_land_74 rfl ?_
          refine v_getR (some (38, 18)) fl_X14_106 dX14_land_75 rfl rfl (Nat.le_of_ble_eq_true rfl) (mh_32_0 hM) (mr_32_0_53 hM) ?_
          refine v_aload_n dX14_land_78 rfl ?_
          refine v_getI fl_X14_377 dX14_land_79 rfl rfl (Nat.le_of_ble_eq_true rfl) (mh_32_0 hM) ?_
          rw [e1]
          refine v_iload_n dX14_land_82 rfl ?_
          refine v_iast dX14_land_83 rfl (Nat.le_of_ble_eq_true rfl) (mh_38_18 hM) (by rw [ln_sI, ml_38_18 hM]; exact vp_in_nI hn2 (by decide)) ?_
          rw [ncl]
          refine v_aload_n dX14_land_84 rfl ?_
          refine v_getR (some (38, 19)) fl_X14_109 dX14_land_85 rfl rfl (Nat.le_of_ble_eq_true rfl) (mh_32_0 hM) (mr_32_0_54 hM) ?_
          refine v_aload_n dX14_land_88 rfl ?_
          refine v_getI fl_X14_377 dX14_land_89 rfl rfl (Nat.le_of_ble_eq_true rfl) (mh_32_0 hM) ?_
          rw [e2]
          refine v_iload_n dX14_land_92 rfl ?_
          refine v_iast dX14_land_93 rfl (Nat.le_of_ble_eq_true rfl) (mh_38_19 hM) (by rw [ln_sI, ln_sI, ml_38_19 hM]; exact vp_in_nI hn2 (by decide)) ?_
          rw [ncl]
          refine v_aload_n dX14_land_94 rfl ?_
          refine v_dup dX14_land_95 rfl ?_
          refine v_getI fl_X14_377 dX14_land_96 rfl rfl (Nat.le_of_ble_eq_true rfl) (mh_32_0 hM) ?_
          rw [e3]
          refine v_iconst (1) dX14_land_99 (by decide) ?_
          refine v_iadd dX14_land_100 ?_
          refine v_putI fl_X14_377 (fun z => by cases z) dX14_land_101 rfl rfl (Nat.le_of_ble_eq_true rfl) rfl rfl (mh_32_0 hM) ?_
          change V g _ _ _ _ _ _ _ (mLaN (mZ h) n r u f) _ _
          refine v_aload_n dX14_land_104 rfl ?_
          refine v_aload_n dX14_land_105 rfl ?_
          refine v_getI fl_X14_377 dX14_land_106 rfl rfl (Nat.le_of_ble_eq_true rfl) (mh_32_0 hM) ?_
          rw [show vi (mLaN (mZ h) n r u f) (32, 0) 48 = nI n + 1 from vi_sI_eq _ _ _ _, nI_1]
          refine v_iconst (1) dX14_land_109 (by decide) ?_
          refine v_isub dX14_land_110 ?_
          rw [nI_pred]
          refine v_invVE (M_done g (mLaN (mZ h) n r u f) hM) dX14_land_111 cwX14_done mlX14_125 (ob_32 _) rfl rfl (by decide) (by decide) (Nat.le_of_ble_eq_true rfl) ?_
          refine v_ireturn dX14_land_114 rfl rfl ?_
          refine ⟨?_, ?_⟩ <;> first | (simp only [mLand, if_neg c13, if_neg c24, if_neg c40, if_neg c55]; done) | (simp only [mLand, if_neg c13, if_neg c24, if_neg c40, if_neg c55, ncv]; done)
        · refine v_aload_n dX14_land_58 rfl ?_
          refine v_iconst (3) dX14_land_59 (by decide) ?_
          refine v_invVE (M_refused g (mZ h) hM) dX14_land_60 cwX14_refused mlX14_121 (ob_32 _) rfl rfl (by decide) (by decide) (Nat.le_of_ble_eq_true rfl) ?_
          refine v_ireturn dX14_land_63 rfl rfl ?_
          refine ⟨?_, ?_⟩ <;> first | (simp only [mLand, if_neg c13, if_neg c24, if_neg c40, if_pos c55]; done) | (simp only [mLand, if_neg c13, if_neg c24, if_neg c40, if_pos c55, ncv]; done)
      · refine v_aload_n dX14_land_43 rfl ?_
        refine v_iconst (2) dX14_land_44 (by decide) ?_
        refine v_invVE (M_refused g (mZ h) hM) dX14_land_45 cwX14_refused mlX14_121 (ob_32 _) rfl rfl (by decide) (by decide) (Nat.le_of_ble_eq_true rfl) ?_
        refine v_ireturn dX14_land_48 rfl rfl ?_
        refine ⟨?_, ?_⟩ <;> first | (simp only [mLand, if_neg c13, if_neg c24, if_pos c40]; done) | (simp only [mLand, if_neg c13, if_neg c24, if_pos c40, ncv]; done)
