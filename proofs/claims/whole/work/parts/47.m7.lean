def mRo (h : Hp) (r : Nat) (k : Int32) : Int32 := if k = 0 then vi h (38, 10) r else if k = 1 then (if vi h (38, 11) r = -1 then -2 else vi h (38, 14) (vi h (38, 11) r).toNatClampNeg) else if k = 2 then (if vi h (38, 11) r = -1 then -2 else vi h (38, 15) (vi h (38, 11) r).toNatClampNeg) else if k = 3 then vi h (38, 12) r else -1
def mRoomOf (h : Hp) (r k : Int32) : Int32 × Hp := if mRb (mZ h) r = 0 then (-1, mZ h) else (mRo (mZ h) r.toNatClampNeg k, mZ h)
set_option maxRecDepth 20000 in
theorem M_roomOf0 (g : G0) (h : Hp) (i : MJ h) {r : Int32} : Mx g yX14_roomOf wX14_roomOf 12 [pR (32, 0), pI r, pI 0] h 0 0 (qE (some (pI (mRoomOf h r 0).1)) (mRoomOf h r 0).2) noX := by
  have hM : SM (mZ h) := i.1.1
  have i2 := MJz i
  refine Mx.by kfX14_roomOf rfl (by decide) (Nat.le_of_ble_eq_true rfl) ?_
  refine v_aload_n dX14_roomOf_0 rfl ?_
  refine v_iconst (0) dX14_roomOf_1 (by decide) ?_
  refine v_putI fl_X14_112 (fun z => by cases z) dX14_roomOf_2 rfl rfl (Nat.le_of_ble_eq_true rfl) rfl rfl (mh_32_0 hM) ?_
  change V g _ _ _ _ _ _ _ (mZ h) _ _
  refine v_aload_n dX14_roomOf_5 rfl ?_
  refine v_iload_n dX14_roomOf_6 rfl ?_
  refine v_invVE (M_isRoom g (mZ h) hM) dX14_roomOf_7 cwX14_isRoom mlX14_368 (ob_32 _) rfl rfl (by decide) (by decide) (Nat.le_of_ble_eq_true rfl) ?_
  refine v_if_ne 15 dX14_roomOf_10 (by decide) (fun c10 => ?_) (fun c10 => ?_)
  · obtain ⟨j, hj, rfl, -⟩ := mRb_in i2.1 c10
    have ncj : (nI j).toNatClampNeg = j := nI_clamp (by omega)
    refine v_aload_n dX14_roomOf_15 rfl ?_
    refine v_getR (some (38, 11)) fl_X14_79 dX14_roomOf_16 rfl rfl (Nat.le_of_ble_eq_true rfl) (mh_32_0 hM) (mr_32_0_41 hM) ?_
    refine v_iload_n dX14_roomOf_19 rfl ?_
    refine v_iald dX14_roomOf_20 rfl (Nat.le_of_ble_eq_true rfl) (mh_38_11 hM) (by rw [ml_38_11 hM]; exact vp_in_nI hj (by decide)) ?_
    rw [ncj]
    refine v_istore_n dX14_roomOf_21 (by decide) ?_
    refine v_iload_n dX14_roomOf_22 rfl ?_
    refine v_tableIn 52 dX14_roomOf_23 (by decide) (by decide) (by rfl) (by decide) ?_
    refine v_aload_n dX14_roomOf_52 rfl ?_
    refine v_getR (some (38, 10)) fl_X14_76 dX14_roomOf_53 rfl rfl (Nat.le_of_ble_eq_true rfl) (mh_32_0 hM) (mr_32_0_40 hM) ?_
    refine v_iload_n dX14_roomOf_56 rfl ?_
    refine v_iald dX14_roomOf_57 rfl (Nat.le_of_ble_eq_true rfl) (mh_38_10 hM) (by rw [ml_38_10 hM]; exact vp_in_nI hj (by decide)) ?_
    rw [ncj]
    refine v_ireturn dX14_roomOf_58 rfl rfl ?_
    refine ⟨?_, ?_⟩ <;> first | (simp only [mRoomOf, if_neg c10]; done) | (simp only [mRoomOf, mRo, if_neg c10, ncj, ↓reduceIte]; done)
  · refine v_iconst (-1) dX14_roomOf_13 (by decide) ?_
    refine v_ireturn dX14_roomOf_14 rfl rfl ?_
    refine ⟨?_, ?_⟩ <;> first | (simp only [mRoomOf, if_pos c10]; done) | (simp only [mRoomOf, mRo, if_pos c10, ncj, ↓reduceIte]; done)
set_option maxRecDepth 20000 in
theorem M_roomOf1 (g : G0) (h : Hp) (i : MJ h) {r : Int32} : Mx g yX14_roomOf wX14_roomOf 12 [pR (32, 0), pI r, pI 1] h 0 0 (qE (some (pI (mRoomOf h r 1).1)) (mRoomOf h r 1).2) noX := by
  have hM : SM (mZ h) := i.1.1
  have i2 := MJz i
  refine Mx.by kfX14_roomOf rfl (by decide) (Nat.le_of_ble_eq_true rfl) ?_
  refine v_aload_n dX14_roomOf_0 rfl ?_
  refine v_iconst (0) dX14_roomOf_1 (by decide) ?_
  refine v_putI fl_X14_112 (fun z => by cases z) dX14_roomOf_2 rfl rfl (Nat.le_of_ble_eq_true rfl) rfl rfl (mh_32_0 hM) ?_
  change V g _ _ _ _ _ _ _ (mZ h) _ _
  refine v_aload_n dX14_roomOf_5 rfl ?_
  refine v_iload_n dX14_roomOf_6 rfl ?_
  refine v_invVE (M_isRoom g (mZ h) hM) dX14_roomOf_7 cwX14_isRoom mlX14_368 (ob_32 _) rfl rfl (by decide) (by decide) (Nat.le_of_ble_eq_true rfl) ?_
  refine v_if_ne 15 dX14_roomOf_10 (by decide) (fun c10 => ?_) (fun c10 => ?_)
  · obtain ⟨j, hj, rfl, -⟩ := mRb_in i2.1 c10
    have ncj : (nI j).toNatClampNeg = j := nI_clamp (by omega)
    refine v_aload_n dX14_roomOf_15 rfl ?_
    refine v_getR (some (38, 11)) fl_X14_79 dX14_roomOf_16 rfl rfl (Nat.le_of_ble_eq_true rfl) (mh_32_0 hM) (mr_32_0_41 hM) ?_
    refine v_iload_n dX14_roomOf_19 rfl ?_
    refine v_iald dX14_roomOf_20 rfl (Nat.le_of_ble_eq_true rfl) (mh_38_11 hM) (by rw [ml_38_11 hM]; exact vp_in_nI hj (by decide)) ?_
    rw [ncj]
    refine v_istore_n dX14_roomOf_21 (by decide) ?_
    refine v_iload_n dX14_roomOf_22 rfl ?_
    refine v_tableIn 59 dX14_roomOf_23 (by decide) (by decide) (by rfl) (by decide) ?_
    refine v_iload_n dX14_roomOf_59 rfl ?_
    refine v_iconst (-1) dX14_roomOf_60 (by decide) ?_
    refine v_icmp_ne 69 dX14_roomOf_61 (by decide) (fun c61 => ?_) (fun c61 => ?_)
    · obtain ⟨s, hs, hsv⟩ := (i2.2.2.1 j hj).resolve_left c61
      refine v_aload_n dX14_roomOf_69 rfl ?_
      refine v_getR (some (38, 14)) fl_X14_88 dX14_roomOf_70 rfl rfl (Nat.le_of_ble_eq_true rfl) (mh_32_0 hM) (mr_32_0_44 hM) ?_
      refine v_iload_n dX14_roomOf_73 rfl ?_
      refine v_iald dX14_roomOf_74 rfl (Nat.le_of_ble_eq_true rfl) (mh_38_14 hM) (by rw [hsv, ml_38_14 hM]; exact vp_in_nI hs (by decide)) ?_
      refine v_ireturn dX14_roomOf_75 rfl rfl ?_
      refine ⟨?_, ?_⟩ <;> first | (simp only [mRoomOf, if_neg c10, if_neg c61]; done) | (simp only [mRoomOf, mRo, if_neg c10, if_neg c61, ncj, if_neg (show ¬ ((1 : Int32) = 0) by decide), ↓reduceIte]; done)
    · refine v_bipush (-2) dX14_roomOf_64 (by decide) ?_
      refine v_goto 75 dX14_roomOf_66 (by decide) ?_
      refine v_ireturn dX14_roomOf_75 rfl rfl ?_
      refine ⟨?_, ?_⟩ <;> first | (simp only [mRoomOf, if_neg c10, if_pos c61]; done) | (simp only [mRoomOf, mRo, if_neg c10, if_pos c61, ncj, if_neg (show ¬ ((1 : Int32) = 0) by decide), ↓reduceIte]; done)
  · refine v_iconst (-1) dX14_roomOf_13 (by decide) ?_
    refine v_ireturn dX14_roomOf_14 rfl rfl ?_
    refine ⟨?_, ?_⟩ <;> first | (simp only [mRoomOf, if_pos c10]; done) | (simp only [mRoomOf, mRo, if_pos c10, ncj, if_neg (show ¬ ((1 : Int32) = 0) by decide), ↓reduceIte]; done)
set_option maxRecDepth 20000 in
theorem M_roomOf2 (g : G0) (h : Hp) (i : MJ h) {r : Int32} : Mx g yX14_roomOf wX14_roomOf 12 [pR (32, 0), pI r, pI 2] h 0 0 (qE (some (pI (mRoomOf h r 2).1)) (mRoomOf h r 2).2) noX := by
  have hM : SM (mZ h) := i.1.1
  have i2 := MJz i
  refine Mx.by kfX14_roomOf rfl (by decide) (Nat.le_of_ble_eq_true rfl) ?_
  refine v_aload_n dX14_roomOf_0 rfl ?_
  refine v_iconst (0) dX14_roomOf_1 (by decide) ?_
  refine v_putI fl_X14_112 (fun z => by cases z) dX14_roomOf_2 rfl rfl (Nat.le_of_ble_eq_true rfl) rfl rfl (mh_32_0 hM) ?_
  change V g _ _ _ _ _ _ _ (mZ h) _ _
  refine v_aload_n dX14_roomOf_5 rfl ?_
  refine v_iload_n dX14_roomOf_6 rfl ?_
  refine v_invVE (M_isRoom g (mZ h) hM) dX14_roomOf_7 cwX14_isRoom mlX14_368 (ob_32 _) rfl rfl (by decide) (by decide) (Nat.le_of_ble_eq_true rfl) ?_
  refine v_if_ne 15 dX14_roomOf_10 (by decide) (fun c10 => ?_) (fun c10 => ?_)
  · obtain ⟨j, hj, rfl, -⟩ := mRb_in i2.1 c10
    have ncj : (nI j).toNatClampNeg = j := nI_clamp (by omega)
    refine v_aload_n dX14_roomOf_15 rfl ?_
    refine v_getR (some (38, 11)) fl_X14_79 dX14_roomOf_16 rfl rfl (Nat.le_of_ble_eq_true rfl) (mh_32_0 hM) (mr_32_0_41 hM) ?_
    refine v_iload_n dX14_roomOf_19 rfl ?_
    refine v_iald dX14_roomOf_20 rfl (Nat.le_of_ble_eq_true rfl) (mh_38_11 hM) (by rw [ml_38_11 hM]; exact vp_in_nI hj (by decide)) ?_
    rw [ncj]
    refine v_istore_n dX14_roomOf_21 (by decide) ?_
    refine v_iload_n dX14_roomOf_22 rfl ?_
    refine v_tableIn 76 dX14_roomOf_23 (by decide) (by decide) (by rfl) (by decide) ?_
    refine v_iload_n dX14_roomOf_76 rfl ?_
    refine v_iconst (-1) dX14_roomOf_77 (by decide) ?_
    refine v_icmp_ne 86 dX14_roomOf_78 (by decide) (fun c78 => ?_) (fun c78 => ?_)
    · obtain ⟨s, hs, hsv⟩ := (i2.2.2.1 j hj).resolve_left c78
      refine v_aload_n dX14_roomOf_86 rfl ?_
      refine v_getR (some (38, 15)) fl_X14_91 dX14_roomOf_87 rfl rfl (Nat.le_of_ble_eq_true rfl) (mh_32_0 hM) (mr_32_0_45 hM) ?_
      refine v_iload_n dX14_roomOf_90 rfl ?_
      refine v_iald dX14_roomOf_91 rfl (Nat.le_of_ble_eq_true rfl) (mh_38_15 hM) (by rw [hsv, ml_38_15 hM]; exact vp_in_nI hs (by decide)) ?_
      refine v_ireturn dX14_roomOf_92 rfl rfl ?_
      refine ⟨?_, ?_⟩ <;> first | (simp only [mRoomOf, if_neg c10, if_neg c78]; done) | (simp only [mRoomOf, mRo, if_neg c10, if_neg c78, ncj, if_neg (show ¬ ((2 : Int32) = 0) by decide), if_neg (show ¬ ((2 : Int32) = 1) by decide), ↓reduceIte]; done)
    · refine v_bipush (-2) dX14_roomOf_81 (by decide) ?_
      refine v_goto 92 dX14_roomOf_83 (by decide) ?_
      refine v_ireturn dX14_roomOf_92 rfl rfl ?_
      refine ⟨?_, ?_⟩ <;> first | (simp only [mRoomOf, if_neg c10, if_pos c78]; done) | (simp only [mRoomOf, mRo, if_neg c10, if_pos c78, ncj, if_neg (show ¬ ((2 : Int32) = 0) by decide), if_neg (show ¬ ((2 : Int32) = 1) by decide), ↓reduceIte]; done)
  · refine v_iconst (-1) dX14_roomOf_13 (by decide) ?_
    refine v_ireturn dX14_roomOf_14 rfl rfl ?_
    refine ⟨?_, ?_⟩ <;> first | (simp only [mRoomOf, if_pos c10]; done) | (simp only [mRoomOf, mRo, if_pos c10, ncj, if_neg (show ¬ ((2 : Int32) = 0) by decide), if_neg (show ¬ ((2 : Int32) = 1) by decide), ↓reduceIte]; done)
set_option maxRecDepth 20000 in
theorem M_roomOf3 (g : G0) (h : Hp) (i : MJ h) {r : Int32} : Mx g yX14_roomOf wX14_roomOf 12 [pR (32, 0), pI r, pI 3] h 0 0 (qE (some (pI (mRoomOf h r 3).1)) (mRoomOf h r 3).2) noX := by
  have hM : SM (mZ h) := i.1.1
  have i2 := MJz i
  refine Mx.by kfX14_roomOf rfl (by decide) (Nat.le_of_ble_eq_true rfl) ?_
  refine v_aload_n dX14_roomOf_0 rfl ?_
  refine v_iconst (0) dX14_roomOf_1 (by decide) ?_
  refine v_putI fl_X14_112 (fun z => by cases z) dX14_roomOf_2 rfl rfl (Nat.le_of_ble_eq_true rfl) rfl rfl (mh_32_0 hM) ?_
  change V g _ _ _ _ _ _ _ (mZ h) _ _
  refine v_aload_n dX14_roomOf_5 rfl ?_
  refine v_iload_n dX14_roomOf_6 rfl ?_
  refine v_invVE (M_isRoom g (mZ h) hM) dX14_roomOf_7 cwX14_isRoom mlX14_368 (ob_32 _) rfl rfl (by decide) (by decide) (Nat.le_of_ble_eq_true rfl) ?_
  refine v_if_ne 15 dX14_roomOf_10 (by decide) (fun c10 => ?_) (fun c10 => ?_)
  · obtain ⟨j, hj, rfl, -⟩ := mRb_in i2.1 c10
    have ncj : (nI j).toNatClampNeg = j := nI_clamp (by omega)
    refine v_aload_n dX14_roomOf_15 rfl ?_
    refine v_getR (some (38, 11)) fl_X14_79 dX14_roomOf_16 rfl rfl (Nat.le_of_ble_eq_true rfl) (mh_32_0 hM) (mr_32_0_41 hM) ?_
    refine v_iload_n dX14_roomOf_19 rfl ?_
    refine v_iald dX14_roomOf_20 rfl (Nat.le_of_ble_eq_true rfl) (mh_38_11 hM) (by rw [ml_38_11 hM]; exact vp_in_nI hj (by decide)) ?_
    rw [ncj]
    refine v_istore_n dX14_roomOf_21 (by decide) ?_
    refine v_iload_n dX14_roomOf_22 rfl ?_
    refine v_tableIn 93 dX14_roomOf_23 (by decide) (by decide) (by rfl) (by decide) ?_
    refine v_aload_n dX14_roomOf_93 rfl ?_
    refine v_getR (some (38, 12)) fl_X14_82 dX14_roomOf_94 rfl rfl (Nat.le_of_ble_eq_true rfl) (mh_32_0 hM) (mr_32_0_42 hM) ?_
    refine v_iload_n dX14_roomOf_97 rfl ?_
    refine v_iald dX14_roomOf_98 rfl (Nat.le_of_ble_eq_true rfl) (mh_38_12 hM) (by rw [ml_38_12 hM]; exact vp_in_nI hj (by decide)) ?_
    rw [ncj]
    refine v_ireturn dX14_roomOf_99 rfl rfl ?_
    refine ⟨?_, ?_⟩ <;> first | (simp only [mRoomOf, if_neg c10]; done) | (simp only [mRoomOf, mRo, if_neg c10, ncj, if_neg (show ¬ ((3 : Int32) = 0) by decide), if_neg (show ¬ ((3 : Int32) = 1) by decide), if_neg (show ¬ ((3 : Int32) = 2) by decide), ↓reduceIte]; done)
  · refine v_iconst (-1) dX14_roomOf_13 (by decide) ?_
    refine v_ireturn dX14_roomOf_14 rfl rfl ?_
    refine ⟨?_, ?_⟩ <;> first | (simp only [mRoomOf, if_pos c10]; done) | (simp only [mRoomOf, mRo, if_pos c10, ncj, if_neg (show ¬ ((3 : Int32) = 0) by decide), if_neg (show ¬ ((3 : Int32) = 1) by decide), if_neg (show ¬ ((3 : Int32) = 2) by decide), ↓reduceIte]; done)
set_option maxRecDepth 20000 in
theorem M_roomOfO (g : G0) (h : Hp) (i : MJ h) {r k : Int32} (k0 : ¬ k = 0) (k1 : ¬ k = 1) (k2 : ¬ k = 2) (k3 : ¬ k = 3) : Mx g yX14_roomOf wX14_roomOf 12 [pR (32, 0), pI r, pI k] h 0 0 (qE (some (pI (mRoomOf h r k).1)) (mRoomOf h r k).2) noX := by
  have hM : SM (mZ h) := i.1.1
  have i2 := MJz i
  refine Mx.by kfX14_roomOf rfl (by decide) (Nat.le_of_ble_eq_true rfl) ?_
  refine v_aload_n dX14_roomOf_0 rfl ?_
  refine v_iconst (0) dX14_roomOf_1 (by decide) ?_
  refine v_putI fl_X14_112 (fun z => by cases z) dX14_roomOf_2 rfl rfl (Nat.le_of_ble_eq_true rfl) rfl rfl (mh_32_0 hM) ?_
  change V g _ _ _ _ _ _ _ (mZ h) _ _
  refine v_aload_n dX14_roomOf_5 rfl ?_
  refine v_iload_n dX14_roomOf_6 rfl ?_
  refine v_invVE (M_isRoom g (mZ h) hM) dX14_roomOf_7 cwX14_isRoom mlX14_368 (ob_32 _) rfl rfl (by decide) (by decide) (Nat.le_of_ble_eq_true rfl) ?_
  refine v_if_ne 15 dX14_roomOf_10 (by decide) (fun c10 => ?_) (fun c10 => ?_)
  · obtain ⟨j, hj, rfl, -⟩ := mRb_in i2.1 c10
    have ncj : (nI j).toNatClampNeg = j := nI_clamp (by omega)
    refine v_aload_n dX14_roomOf_15 rfl ?_
    refine v_getR (some (38, 11)) fl_X14_79 dX14_roomOf_16 rfl rfl (Nat.le_of_ble_eq_true rfl) (mh_32_0 hM) (mr_32_0_41 hM) ?_
    refine v_iload_n dX14_roomOf_19 rfl ?_
    refine v_iald dX14_roomOf_20 rfl (Nat.le_of_ble_eq_true rfl) (mh_38_11 hM) (by rw [ml_38_11 hM]; exact vp_in_nI hj (by decide)) ?_
    rw [ncj]
    refine v_istore_n dX14_roomOf_21 (by decide) ?_
    refine v_iload_n dX14_roomOf_22 rfl ?_
    refine v_tableOut 100 dX14_roomOf_23 (outOf k0 k1 k2 k3) (by decide) ?_
    refine v_iconst (-1) dX14_roomOf_100 (by decide) ?_
    refine v_ireturn dX14_roomOf_101 rfl rfl ?_
    refine ⟨?_, ?_⟩ <;> first | (simp only [mRoomOf, if_neg c10]; done) | (simp only [mRoomOf, mRo, if_neg c10, if_neg k0, if_neg k1, if_neg k2, if_neg k3]; done)
  · refine v_iconst (-1) dX14_roomOf_13 (by decide) ?_
    refine v_ireturn dX14_roomOf_14 rfl rfl ?_
    refine ⟨?_, ?_⟩ <;> first | (simp only [mRoomOf, if_pos c10]; done) | (simp only [mRoomOf, mRo, if_pos c10, if_neg k0, if_neg k1, if_neg k2, if_neg k3]; done)
theorem M_roomOf (g : G0) (h : Hp) (i : MJ h) {r k : Int32} : Mx g yX14_roomOf wX14_roomOf 12 [pR (32, 0), pI r, pI k] h 0 0 (qE (some (pI (mRoomOf h r k).1)) (mRoomOf h r k).2) noX := by
  by_cases k0 : k = 0
  · subst k0; exact M_roomOf0 g h i
  by_cases k1 : k = 1
  · subst k1; exact M_roomOf1 g h i
  by_cases k2 : k = 2
  · subst k2; exact M_roomOf2 g h i
  by_cases k3 : k = 3
  · subst k3; exact M_roomOf3 g h i
  exact M_roomOfO g h i k0 k1 k2 k3
