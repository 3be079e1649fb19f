set_option maxRecDepth 20000 in
theorem M_dies2 (g : G0) (h : Hp) (i : MJ h) {p : Int32} (hrs : ∀ k r, p = nI k → k < 40 → vi h (38, 6) k = nI r → r < 20 → ∃ s, s < 100 ∧ vi h (38, 11) r = nI s) : Mx g yX14_dies wX14_dies 12 [pR (32, 0), pI p] h 0 0 (qE (some (pI (mDies h p).1)) (mDies h p).2) noX := by
  have hM : SM (mZ h) := i.1.1
  have i2 := MJz i
  refine Mx.by kfX14_dies rfl (by decide) (Nat.le_of_ble_eq_true rfl) ?_
  refine v_aload_n dX14_dies_0 rfl ?_
  refine v_iconst (0) dX14_dies_1 (by decide) ?_
  refine v_putI fl_X14_112 (fun z => by cases z) dX14_dies_2 rfl rfl (Nat.le_of_ble_eq_true rfl) rfl rfl (mh_32_0 hM) ?_
  change V g _ _ _ _ _ _ _ (mZ h) _ _
  refine v_aload_n dX14_dies_5 rfl ?_
  refine v_iload_n dX14_dies_6 rfl ?_
  refine v_invVE (M_isPerson g (mZ h) hM) dX14_dies_7 cwX14_isPerson mlX14_315 (ob_32 _) rfl rfl (by decide) (by decide) (Nat.le_of_ble_eq_true rfl) ?_
  refine v_if_ne 19 dX14_dies_10 (by decide) (fun c10 => ?_) (fun c10 => ?_)
  · obtain ⟨j, hj, rfl, -⟩ := mPb_in i2.1 c10
    have ncj : (nI j).toNatClampNeg = j := nI_clamp (by omega)
    refine v_aload_n dX14_dies_19 rfl ?_
    refine v_getR (some (38, 3)) fl_X14_45 dX14_dies_20 rfl rfl (Nat.le_of_ble_eq_true rfl) (mh_32_0 hM) (mr_32_0_27 hM) ?_
    refine v_iload_n dX14_dies_23 rfl ?_
    refine v_iald dX14_dies_24 rfl (Nat.le_of_ble_eq_true rfl) (mh_38_3 hM) (by rw [ml_38_3 hM]; exact vp_in_nI hj (by decide)) ?_
    rw [ncj]
    refine v_iconst (-1) dX14_dies_25 (by decide) ?_
    refine v_icmp_eq 35 dX14_dies_26 (by decide) (fun c26 => ?_) (fun c26 => ?_)
    · refine v_aload_n dX14_dies_35 rfl ?_
      refine v_getR (some (38, 3)) fl_X14_45 dX14_dies_36 rfl rfl (Nat.le_of_ble_eq_true rfl) (mh_32_0 hM) (mr_32_0_27 hM) ?_
      refine v_iload_n dX14_dies_39 rfl ?_
      refine v_aload_n dX14_dies_40 rfl ?_
      refine v_getI fl_X14_312 dX14_dies_41 rfl rfl (Nat.le_of_ble_eq_true rfl) (mh_32_0 hM) ?_
      refine v_iast dX14_dies_44 rfl (Nat.le_of_ble_eq_true rfl) (mh_38_3 hM) (by rw [ml_38_3 hM]; exact vp_in_nI hj (by decide)) ?_
      rw [ncj]
      change V g _ _ _ _ _ _ _ (mD1 (mZ h) j) _ _
      refine v_aload_n dX14_dies_45 rfl ?_
      refine v_getR (some (38, 6)) fl_X14_54 dX14_dies_46 rfl rfl (Nat.le_of_ble_eq_true rfl) (mh_32_0 hM) (mr_32_0_30 hM) ?_
      refine v_iload_n dX14_dies_49 rfl ?_
      refine v_iald dX14_dies_50 rfl (Nat.le_of_ble_eq_true rfl) (mh_38_6 hM) (by rw [ml_38_6 (show SM (mD1 (mZ h) j) from hM)]; exact vp_in_nI hj (by decide)) ?_
      rw [ncj]
      refine v_iconst (-1) dX14_dies_51 (by decide) ?_
      refine v_icmp_ne 59 dX14_dies_52 (by decide) (fun c52 => ?_) (fun c52 => ?_)
      · have c52a := c52
        rw [mD1_o _ _ _ (by decide)] at c52a
        obtain ⟨r, hr, hrv⟩ := (i2.2.2.2.2 j hj).resolve_left c52a
        obtain ⟨s, hs, hsv⟩ := hrs j r rfl hj hrv hr
        obtain ⟨q, hq, hqv⟩ := i2.2.2.2.1 s hs
        have ncr : (nI r).toNatClampNeg = r := nI_clamp (by omega)
        have ncs : (nI s).toNatClampNeg = s := nI_clamp (by omega)
        have ncq : (nI q).toNatClampNeg = q := nI_clamp (by omega)
        refine v_aload_n dX14_dies_59 rfl ?_
        refine v_aload_n dX14_dies_60 rfl ?_
        refine v_getR (some (38, 6)) fl_X14_54 dX14_dies_61 rfl rfl (Nat.le_of_ble_eq_true rfl) (mh_32_0 hM) (mr_32_0_30 hM) ?_
        refine v_iload_n dX14_dies_64 rfl ?_
        refine v_iald dX14_dies_65 rfl (Nat.le_of_ble_eq_true rfl) (mh_38_6 hM) (by rw [ml_38_6 (show SM (mD1 (mZ h) j) from hM)]; exact vp_in_nI hj (by decide)) ?_
        rw [ncj]
        rw [mD1_o _ _ _ (by decide), hrv]
        refine v_invVE (M_ends g (mD1 (mZ h) j) hM hr (s := s) (p := q) hs hq (by rw [mD1_o _ _ _ (by decide)]; exact hsv) (by rw [mD1_o _ _ _ (by decide)]; exact hqv)) dX14_dies_66 cwX14_ends mlX14_374 (ob_32 _) rfl rfl (by decide) (by decide) (Nat.le_of_ble_eq_true rfl) ?_
        refine v_istore_n dX14_dies_69 (by decide) ?_
        refine v_aload_n dX14_dies_70 rfl ?_
        refine v_getR (some (38, 4)) fl_X14_48 dX14_dies_71 rfl rfl (Nat.le_of_ble_eq_true rfl) (mh_32_0 hM) (mr_32_0_28 hM) ?_
        refine v_iload_n dX14_dies_74 rfl ?_
        refine v_iconst (0) dX14_dies_75 (by decide) ?_
        refine v_iast dX14_dies_76 rfl (Nat.le_of_ble_eq_true rfl) (mh_38_4 hM) (by first | (rw [ml_38_4 (show SM (mD1 (mZ h) j) from hM)]; exact vp_in_nI hj (by decide)) | (rw [ml_38_4 (show SM (mEnH (mD1 (mZ h) j) r s q) from hM)]; exact vp_in_nI hq (by decide))) ?_
        first | rw [ncq] | rw [ncj]
        refine v_aload_n dX14_dies_77 rfl ?_
        first | refine v_invVE (M_granted g (sI (mD1 (mZ h) j) (38, 4) j 0) hM) dX14_dies_78 cwX14_granted mlX14_364 (ob_32 _) rfl rfl (by decide) (by decide) (Nat.le_of_ble_eq_true rfl) ?_ | refine v_invVE (M_granted g (sI (mEnH (mD1 (mZ h) j) r s q) (38, 4) q 0) hM) dX14_dies_78 cwX14_granted mlX14_364 (ob_32 _) rfl rfl (by decide) (by decide) (Nat.le_of_ble_eq_true rfl) ?_
        refine v_ireturn dX14_dies_81 rfl rfl ?_
        refine ⟨?_, ?_⟩ <;> first | (simp only [mDies, if_neg c10, if_pos c26, if_neg c52]; done) | (simp only [mDies, mDi, if_neg c10, if_pos c26, if_neg c52, ncj]; done) | (simp only [mDies, mDi, if_neg c10, if_pos c26, if_neg c52, ncj, hrv, ncr]; simp only [show vi (mZ h) (38, 11) r = nI s from hsv, ncs, hqv, ncq]; done)
      · refine v_iload_n dX14_dies_55 rfl ?_
        refine v_goto 69 dX14_dies_56 (by decide) ?_
        refine v_istore_n dX14_dies_69 (by decide) ?_
        refine v_aload_n dX14_dies_70 rfl ?_
        refine v_getR (some (38, 4)) fl_X14_48 dX14_dies_71 rfl rfl (Nat.le_of_ble_eq_true rfl) (mh_32_0 hM) (mr_32_0_28 hM) ?_
        refine v_iload_n dX14_dies_74 rfl ?_
        refine v_iconst (0) dX14_dies_75 (by decide) ?_
        refine v_iast dX14_dies_76 rfl (Nat.le_of_ble_eq_true rfl) (mh_38_4 hM) (by first | (rw [ml_38_4 (show SM (mD1 (mZ h) j) from hM)]; exact vp_in_nI hj (by decide)) | (rw [ml_38_4 (show SM (mEnH (mD1 (mZ h) j) r s q) from hM)]; exact vp_in_nI hq (by decide))) ?_
        first | rw [ncq] | rw [ncj]
        refine v_aload_n dX14_dies_77 rfl ?_
        first | refine v_invVE (M_granted g (sI (mD1 (mZ h) j) (38, 4) j 0) hM) dX14_dies_78 cwX14_granted mlX14_364 (ob_32 _) rfl rfl (by decide) (by decide) (Nat.le_of_ble_eq_true rfl) ?_ | refine v_invVE (M_granted g (sI (mEnH (mD1 (mZ h) j) r s q) (38, 4) q 0) hM) dX14_dies_78 cwX14_granted mlX14_364 (ob_32 _) rfl rfl (by decide) (by decide) (Nat.le_of_ble_eq_true rfl) ?_
        refine v_ireturn dX14_dies_81 rfl rfl ?_
        refine ⟨?_, ?_⟩ <;> first | (simp only [mDies, if_neg c10, if_pos c26, if_pos c52]; done) | (simp only [mDies, mDi, if_neg c10, if_pos c26, if_pos c52, ncj]; done) | (simp only [mDies, mDi, if_neg c10, if_pos c26, if_pos c52, ncj, hrv, ncr]; simp only [show vi (mZ h) (38, 11) r = nI s from hsv, ncs, hqv, ncq]; done)
    · refine v_aload_n dX14_dies_29 rfl ?_
      refine v_iconst (5) dX14_dies_30 (by decide) ?_
      refine v_invVE (M_denied g (mZ h) hM) dX14_dies_31 cwX14_denied mlX14_361 (ob_32 _) rfl rfl (by decide) (by decide) (Nat.le_of_ble_eq_true rfl) ?_
      refine v_ireturn dX14_dies_34 rfl rfl ?_
      refine ⟨?_, ?_⟩ <;> first | (simp only [mDies, if_neg c10, if_neg c26]; done) | (simp only [mDies, mDi, if_neg c10, if_neg c26, ncj]; done) | (simp only [mDies, mDi, if_neg c10, if_neg c26, ncj, hrv, ncr]; simp only [show vi (mZ h) (38, 11) r = nI s from hsv, ncs, hqv, ncq]; done)
  · refine v_aload_n dX14_dies_13 rfl ?_
    refine v_iconst (1) dX14_dies_14 (by decide) ?_
    refine v_invVE (M_denied g (mZ h) hM) dX14_dies_15 cwX14_denied mlX14_361 (ob_32 _) rfl rfl (by decide) (by decide) (Nat.le_of_ble_eq_true rfl) ?_
    refine v_ireturn dX14_dies_18 rfl rfl ?_
    refine ⟨?_, ?_⟩ <;> first | (simp only [mDies, if_pos c10]; done) | (simp only [mDies, mDi, if_pos c10, ncj]; done) | (simp only [mDies, mDi, if_pos c10, ncj, hrv, ncr]; simp only [show vi (mZ h) (38, 11) r = nI s from hsv, ncs, hqv, ncq]; done)
