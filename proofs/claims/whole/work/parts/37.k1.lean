def cpH (h : Hp) (f t : Nat) : Hp := sIs (nw h 17 (t - f)) (17, cn h 17) (cpy (vi (nw h 17 (t - f)) (13, 1)) (vi (nw h 17 (t - f)) (17, cn h 17)) f 0 (t - f))
theorem minT {f t : Nat} (hf : f ≤ t) (ht : t ≤ 300) : (if nI (t - f) < nI 300 - nI f then nI (t - f) else nI 300 - nI f) = nI (t - f) := by
  rw [nI_sub (by omega)]
  split
  · rfl
  · rename_i c
    have : ¬ t - f < 300 - f := fun z => c (nI_lt z (by omega))
    congr 1
    omega
set_option maxRecDepth 20000 in
theorem m_chkLen (g : G0) (h : Hp) {f t : Nat} (hf : f ≤ t) (ht : t ≤ 300) : Mx g yJ7_checkLength_df160 wJ7_checkLength_df160 0 [pI (nI f), pI (nI t)] h 0 0 (qE none h) noX := by
  refine Mx.by kfJ7_checkLength_df160 rfl (by decide) (Nat.le_of_ble_eq_true rfl) ?_
  refine v_iload_n dJ7_checkLength_df160_0 rfl ?_
  refine v_iload_n dJ7_checkLength_df160_1 rfl ?_
  refine v_icmp_ge 37 dJ7_checkLength_df160_2 (by decide) (fun _ => ?_) (fun z => absurd (nI_le hf (by omega)) z)
  refine v_return dJ7_checkLength_df160_37 rfl ?_
  exact ⟨rfl, rfl⟩
set_option maxRecDepth 20000 in
theorem m_cpyInt (g : G0) (h : Hp) (hS : SX h) {f t : Nat} (hf : f ≤ t) (ht : t ≤ 300) : Mx g yJ7_copyOfRangeInt_feecc wJ7_copyOfRangeInt_feecc 1 [pR (13, 1), pI (nI f), pI (nI t)] h 1 300 (qE (some (pR (17, cn h 17))) (cpH h f t)) noX := by
  have hS2 : SX (nw h 17 (t - f)) := SX.nw hS (by decide) (by decide) (by decide)
  have ncl : (nI (t - f)).toNatClampNeg = t - f := nI_clamp (by omega)
  have ncf : (nI f).toNatClampNeg = f := nI_clamp (by omega)
  refine Mx.by kfJ7_copyOfRangeInt_feecc rfl (by decide) (Nat.le_of_ble_eq_true rfl) ?_
  refine v_iload_n dJ7_copyOfRangeInt_feecc_0 rfl ?_
  refine v_iload_n dJ7_copyOfRangeInt_feecc_1 rfl ?_
  refine v_invSE (m_chkLen g h hf ht) dJ7_copyOfRangeInt_feecc_2 cwJ7_checkLength_df160 mlJ7_343 rfl rfl (by decide) (by decide) (Nat.le_of_ble_eq_true rfl) ?_
  refine v_iload_n dJ7_copyOfRangeInt_feecc_5 rfl ?_
  refine v_iload_n dJ7_copyOfRangeInt_feecc_6 rfl ?_
  refine v_isub dJ7_copyOfRangeInt_feecc_7 ?_
  rw [nI_sub hf]
  refine v_istore_n dJ7_copyOfRangeInt_feecc_8 (by decide) ?_
  refine v_iload_n dJ7_copyOfRangeInt_feecc_9 rfl ?_
  refine v_newa 17 0 0 dJ7_copyOfRangeInt_feecc_10 rfl ac_0 (by decide) rfl (by decide) (nI_pos (by omega)) (by rw [ncl]; omega) (Nat.le_of_ble_eq_true rfl) (by rw [ncl]; omega) ?_
  rw [ncl]
  refine v_astore dJ7_copyOfRangeInt_feecc_12 (by decide) ?_
  refine v_aload_n dJ7_copyOfRangeInt_feecc_14 rfl ?_
  refine v_iload_n dJ7_copyOfRangeInt_feecc_15 rfl ?_
  refine v_aload dJ7_copyOfRangeInt_feecc_16 rfl ?_
  refine v_iconst (0) dJ7_copyOfRangeInt_feecc_18 (by decide) ?_
  refine v_aload_n dJ7_copyOfRangeInt_feecc_19 rfl ?_
  refine v_alen dJ7_copyOfRangeInt_feecc_20 rfl (by decide) (Nat.le_of_ble_eq_true rfl) (xh_13_1 hS2) ?_
  rw [xl_13_1 hS2]
  refine v_iload_n dJ7_copyOfRangeInt_feecc_21 rfl ?_
  refine v_isub dJ7_copyOfRangeInt_feecc_22 ?_
  refine v_iload_n dJ7_copyOfRangeInt_feecc_23 rfl ?_
  refine v_mmin dJ7_copyOfRangeInt_feecc_24 mlJ7_304 (by decide) (Nat.le_of_ble_eq_true rfl) ?_
  rw [minT hf ht]
  refine v_copyI rfl dJ7_copyOfRangeInt_feecc_27 rfl rfl ⟨(Nat.le_of_ble_eq_true rfl), (Nat.le_of_ble_eq_true rfl)⟩ (xh_13_1 hS2) lt_new (nI_pos (by omega)) (by decide) (nI_pos (by omega)) (by rw [ncl, ncf, xl_13_1 hS2]; omega) (by rw [ncl, cl0, ln_nw, if_pos rfl]; omega) (by decide) (Nat.le_of_ble_eq_true rfl) ?_
  rw [ncl, ncf, cl0]
  refine v_aload dJ7_copyOfRangeInt_feecc_30 rfl ?_
  refine v_areturn dJ7_copyOfRangeInt_feecc_32 rfl (Or.inr ⟨_, rfl⟩) ?_
  exact ⟨rfl, rfl⟩
set_option maxRecDepth 20000 in
theorem m_cpyRange (g : G0) (h : Hp) (hS : SX h) {f t : Nat} (hf : f ≤ t) (ht : t < 300) : Mx g yJ7_copyOfRange_feecc wJ7_copyOfRange_feecc 2 [pR (13, 1), pI (nI f), pI (nI t)] h 1 300 (qE (some (pR (17, cn h 17))) (cpH h f t)) noX := by
  refine Mx.by kfJ7_copyOfRange_feecc rfl (by decide) (Nat.le_of_ble_eq_true rfl) ?_
  refine v_iload_n dJ7_copyOfRange_feecc_0 rfl ?_
  refine v_if_ne 10 dJ7_copyOfRange_feecc_1 (by decide) (fun c1 => ?_) (fun c1 => ?_)
  · refine v_aload_n dJ7_copyOfRange_feecc_10 rfl ?_
    refine v_iload_n dJ7_copyOfRange_feecc_11 rfl ?_
    refine v_iload_n dJ7_copyOfRange_feecc_12 rfl ?_
    refine v_invS 0 0 (m_cpyInt g h hS hf (by omega)) dJ7_copyOfRange_feecc_13 cwJ7_copyOfRangeInt_feecc mlJ7_351 rfl rfl (by decide) (by decide) (Nat.le_of_ble_eq_true rfl) (Nat.le_of_ble_eq_true rfl) (Nat.le_of_ble_eq_true rfl) (fun r h2 q2 => ?_) (fun _ _ q2 => q2.elim)
    obtain ⟨rfl, rfl⟩ := q2
    refine v_areturn dJ7_copyOfRange_feecc_16 rfl (Or.inr ⟨_, rfl⟩) ?_
    exact ⟨rfl, rfl⟩
  · refine v_iload_n dJ7_copyOfRange_feecc_4 rfl ?_
    refine v_aload_n dJ7_copyOfRange_feecc_5 rfl ?_
    refine v_alen dJ7_copyOfRange_feecc_6 rfl (by decide) (Nat.le_of_ble_eq_true rfl) (xh_13_1 hS) ?_
    rw [xl_13_1 hS]
    refine v_icmp_eq 17 dJ7_copyOfRange_feecc_7 (by decide) (fun z => absurd z (fun z => absurd ((nI_eq (by omega) (by omega)).mp z) (by omega))) (fun _ => ?_)
    refine v_aload_n dJ7_copyOfRange_feecc_10 rfl ?_
    refine v_iload_n dJ7_copyOfRange_feecc_11 rfl ?_
    refine v_iload_n dJ7_copyOfRange_feecc_12 rfl ?_
    refine v_invS 0 0 (m_cpyInt g h hS hf (by omega)) dJ7_copyOfRange_feecc_13 cwJ7_copyOfRangeInt_feecc mlJ7_351 rfl rfl (by decide) (by decide) (Nat.le_of_ble_eq_true rfl) (Nat.le_of_ble_eq_true rfl) (Nat.le_of_ble_eq_true rfl) (fun r h2 q2 => ?_) (fun _ _ q2 => q2.elim)
    obtain ⟨rfl, rfl⟩ := q2
    refine v_areturn dJ7_copyOfRange_feecc_16 rfl (Or.inr ⟨_, rfl⟩) ?_
    exact ⟨rfl, rfl⟩
set_option maxRecDepth 20000 in
theorem m_RwhatOf (g : G0) (h : Hp) (hS : SX h) {i c : Nat} (hi : i < c) (hc : c ≤ 12) (e : vi h (2, 0) 5 = nI c) : Mx g yX4_whatOf wX4_whatOf 0 [pR (2, 0), pI (nI i)] h 0 0 (qE (some (pI (vi h (13, 3) i))) h) noX := by
  have ncl : (nI i).toNatClampNeg = i := nI_clamp (by omega)
  refine Mx.by kfX4_whatOf rfl (by decide) (Nat.le_of_ble_eq_true rfl) ?_
  refine v_iload_n dX4_whatOf_0 rfl ?_
  refine v_if_lt 21 dX4_whatOf_1 (by decide) (fun z => absurd z (nI_pos (by omega))) (fun _ => ?_)
  refine v_iload_n dX4_whatOf_4 rfl ?_
  refine v_aload_n dX4_whatOf_5 rfl ?_
  refine v_getI fl_X4_52 dX4_whatOf_6 rfl rfl (Nat.le_of_ble_eq_true rfl) (xh_2_0 hS) ?_
  rw [e]
  refine v_icmp_ge 21 dX4_whatOf_9 (by decide) (fun z => absurd z (nI_ge hi (by omega))) (fun _ => ?_)
  refine v_aload_n dX4_whatOf_12 rfl ?_
  refine v_getR (some (13, 3)) fl_X4_18 dX4_whatOf_13 rfl rfl (Nat.le_of_ble_eq_true rfl) (xh_2_0 hS) (xr_2_0_2 hS) ?_
  refine v_iload_n dX4_whatOf_16 rfl ?_
  refine v_iald dX4_whatOf_17 rfl (Nat.le_of_ble_eq_true rfl) (xh_13_3 hS) (by rw [xl_13_3 hS]; exact vp_in_nI (by omega) (by decide)) ?_
  rw [ncl]
  refine v_goto 22 dX4_whatOf_18 (by decide) ?_
  refine v_ireturn dX4_whatOf_22 rfl rfl ?_
  exact ⟨rfl, rfl⟩
set_option maxRecDepth 20000 in
theorem m_RnumberOf (g : G0) (h : Hp) (hS : SX h) {i c : Nat} (hi : i < c) (hc : c ≤ 12) (e : vi h (2, 0) 5 = nI c) : Mx g yX4_numberOf wX4_numberOf 0 [pR (2, 0), pI (nI i)] h 0 0 (qE (some (pI (vi h (13, 4) i))) h) noX := by
  have ncl : (nI i).toNatClampNeg = i := nI_clamp (by omega)
  refine Mx.by kfX4_numberOf rfl (by decide) (Nat.le_of_ble_eq_true rfl) ?_
  refine v_iload_n dX4_numberOf_0 rfl ?_
  refine v_if_lt 21 dX4_numberOf_1 (by decide) (fun z => absurd z (nI_pos (by omega))) (fun _ => ?_)
  refine v_iload_n dX4_numberOf_4 rfl ?_
  refine v_aload_n dX4_numberOf_5 rfl ?_
  refine v_getI fl_X4_52 dX4_numberOf_6 rfl rfl (Nat.le_of_ble_eq_true rfl) (xh_2_0 hS) ?_
  rw [e]
  refine v_icmp_ge 21 dX4_numberOf_9 (by decide) (fun z => absurd z (nI_ge hi (by omega))) (fun _ => ?_)
  refine v_aload_n dX4_numberOf_12 rfl ?_
  refine v_getR (some (13, 4)) fl_X4_22 dX4_numberOf_13 rfl rfl (Nat.le_of_ble_eq_true rfl) (xh_2_0 hS) (xr_2_0_3 hS) ?_
  refine v_iload_n dX4_numberOf_16 rfl ?_
  refine v_iald dX4_numberOf_17 rfl (Nat.le_of_ble_eq_true rfl) (xh_13_4 hS) (by rw [xl_13_4 hS]; exact vp_in_nI (by omega) (by decide)) ?_
  rw [ncl]
  refine v_goto 22 dX4_numberOf_18 (by decide) ?_
  refine v_ireturn dX4_numberOf_22 rfl rfl ?_
  exact ⟨rfl, rfl⟩
set_option maxRecDepth 20000 in
theorem m_codeOf (g : G0) (h : Hp) (hS : SX h) {i c : Nat} (hi : i < c) (hc : c ≤ 12) (e : vi h (2, 0) 5 = nI c) {f t : Nat} (hf0 : i = 0 → f = 0) (hf1 : ∀ k, i = k + 1 → vi h (13, 5) k = nI f) (ht : vi h (13, 5) i = nI t) (hft : f ≤ t) (ht3 : t < 300) : Mx g yX4_codeOf wX4_codeOf 3 [pR (2, 0), pI (nI i)] h 1 300 (qE (some (pR (17, cn h 17))) (cpH h f t)) noX := by
  have ncl : (nI i).toNatClampNeg = i := nI_clamp (by omega)
  refine Mx.by kfX4_codeOf rfl (by decide) (Nat.le_of_ble_eq_true rfl) ?_
  refine v_iload_n dX4_codeOf_0 rfl ?_
  refine v_if_lt 12 dX4_codeOf_1 (by decide) (fun z => absurd z (nI_pos (by omega))) (fun _ => ?_)
  refine v_iload_n dX4_codeOf_4 rfl ?_
  refine v_aload_n dX4_codeOf_5 rfl ?_
  refine v_getI fl_X4_52 dX4_codeOf_6 rfl rfl (Nat.le_of_ble_eq_true rfl) (xh_2_0 hS) ?_
  rw [e]
  refine v_icmp_lt 16 dX4_codeOf_9 (by decide) (fun _ => ?_) (fun z => absurd (nI_lt hi (by omega)) z)
  refine v_iload_n dX4_codeOf_16 rfl ?_
  refine v_if_ne 24 dX4_codeOf_17 (by decide) (fun c17 => ?_) (fun c17 => ?_)
  · have i0 : i ≠ 0 := fun z => c17 (by rw [z]; decide)
    obtain ⟨k, rfl⟩ : ∃ k, i = k + 1 := ⟨i - 1, by omega⟩
    have nck : (nI k).toNatClampNeg = k := nI_clamp (by omega)
    refine v_aload_n dX4_codeOf_24 rfl ?_
    refine v_getR (some (13, 5)) fl_X4_25 dX4_codeOf_25 rfl rfl (Nat.le_of_ble_eq_true rfl) (xh_2_0 hS) (xr_2_0_4 hS) ?_
    refine v_iload_n dX4_codeOf_28 rfl ?_
    refine v_iconst (1) dX4_codeOf_29 (by decide) ?_
    refine v_isub dX4_codeOf_30 ?_
    rw [nI_pred]
    refine v_iald dX4_codeOf_31 rfl (Nat.le_of_ble_eq_true rfl) (xh_13_5 hS) (by rw [xl_13_5 hS]; exact vp_in_nI (by omega) (by decide)) ?_
    rw [nck, hf1 k rfl]
    refine v_istore_n dX4_codeOf_32 (by decide) ?_
    refine v_aload_n dX4_codeOf_33 rfl ?_
    refine v_getR (some (13, 5)) fl_X4_25 dX4_codeOf_34 rfl rfl (Nat.le_of_ble_eq_true rfl) (xh_2_0 hS) (xr_2_0_4 hS) ?_
    refine v_iload_n dX4_codeOf_37 rfl ?_
    refine v_iald dX4_codeOf_38 rfl (Nat.le_of_ble_eq_true rfl) (xh_13_5 hS) (by rw [xl_13_5 hS]; exact vp_in_nI (by omega) (by decide)) ?_
    rw [ncl, ht]
    refine v_istore_n dX4_codeOf_39 (by decide) ?_
    refine v_iload_n dX4_codeOf_40 rfl ?_
    refine v_if_lt 61 dX4_codeOf_41 (by decide) (fun z => absurd z (nI_pos (by first | omega | decide))) (fun _ => ?_)
    refine v_iload_n dX4_codeOf_44 rfl ?_
    refine v_iload_n dX4_codeOf_45 rfl ?_
    refine v_icmp_gt 61 dX4_codeOf_46 (by decide) (fun z => absurd z (nI_nlt hft (by omega))) (fun _ => ?_)
    refine v_iload_n dX4_codeOf_49 rfl ?_
    refine v_aload_n dX4_codeOf_50 rfl ?_
    refine v_getR (some (3, 0)) fl_X4_12 dX4_codeOf_51 rfl rfl (Nat.le_of_ble_eq_true rfl) (xh_2_0 hS) (xr_2_0_1 hS) ?_
    refine v_getR (some (13, 1)) fl_X4_55 dX4_codeOf_54 rfl rfl (Nat.le_of_ble_eq_true rfl) (xh_3_0 hS) (xr_3_0_0 hS) ?_
    refine v_alen dX4_codeOf_57 rfl (by decide) (Nat.le_of_ble_eq_true rfl) (xh_13_1 hS) ?_
    rw [xl_13_1 hS]
    refine v_icmp_le 65 dX4_codeOf_58 (by decide) (fun _ => ?_) (fun z => absurd (nI_le (by omega) (by omega)) z)
    refine v_aload_n dX4_codeOf_65 rfl ?_
    refine v_getR (some (3, 0)) fl_X4_12 dX4_codeOf_66 rfl rfl (Nat.le_of_ble_eq_true rfl) (xh_2_0 hS) (xr_2_0_1 hS) ?_
    refine v_getR (some (13, 1)) fl_X4_55 dX4_codeOf_69 rfl rfl (Nat.le_of_ble_eq_true rfl) (xh_3_0 hS) (xr_3_0_0 hS) ?_
    refine v_iload_n dX4_codeOf_72 rfl ?_
    refine v_iload_n dX4_codeOf_73 rfl ?_
    refine v_invS 0 0 (m_cpyRange g h hS hft ht3) dX4_codeOf_74 cwJ7_copyOfRange_feecc mlX4_58 rfl rfl (by decide) (by decide) (Nat.le_of_ble_eq_true rfl) (Nat.le_of_ble_eq_true rfl) (Nat.le_of_ble_eq_true rfl) (fun r h2 q2 => ?_) (fun _ _ q2 => q2.elim)
    obtain ⟨rfl, rfl⟩ := q2
    refine v_areturn dX4_codeOf_77 rfl (Or.inr ⟨_, rfl⟩) ?_
    exact ⟨rfl, rfl⟩
  · have ef : f = 0 := hf0 ((nI_eq (by omega) (by omega)).mp (show nI i = nI 0 from c17))
    subst ef
    refine v_iconst (0) dX4_codeOf_20 (by decide) ?_
    refine v_goto 32 dX4_codeOf_21 (by decide) ?_
    refine v_istore_n dX4_codeOf_32 (by decide) ?_
    refine v_aload_n dX4_codeOf_33 rfl ?_
    refine v_getR (some (13, 5)) fl_X4_25 dX4_codeOf_34 rfl rfl (Nat.le_of_ble_eq_true rfl) (xh_2_0 hS) (xr_2_0_4 hS) ?_
    refine v_iload_n dX4_codeOf_37 rfl ?_
    refine v_iald dX4_codeOf_38 rfl (Nat.le_of_ble_eq_true rfl) (xh_13_5 hS) (by rw [xl_13_5 hS]; exact vp_in_nI (by omega) (by decide)) ?_
    rw [ncl, ht]
    refine v_istore_n dX4_codeOf_39 (by decide) ?_
    refine v_iload_n dX4_codeOf_40 rfl ?_
    refine v_if_lt 61 dX4_codeOf_41 (by decide) (fun z => absurd z (nI_pos (by first | omega | decide))) (fun _ => ?_)
    refine v_iload_n dX4_codeOf_44 rfl ?_
    refine v_iload_n dX4_codeOf_45 rfl ?_
    refine v_icmp_gt 61 dX4_codeOf_46 (by decide) (fun z => absurd z (nI_nlt hft (by omega))) (fun _ => ?_)
    refine v_iload_n dX4_codeOf_49 rfl ?_
    refine v_aload_n dX4_codeOf_50 rfl ?_
    refine v_getR (some (3, 0)) fl_X4_12 dX4_codeOf_51 rfl rfl (Nat.le_of_ble_eq_true rfl) (xh_2_0 hS) (xr_2_0_1 hS) ?_
    refine v_getR (some (13, 1)) fl_X4_55 dX4_codeOf_54 rfl rfl (Nat.le_of_ble_eq_true rfl) (xh_3_0 hS) (xr_3_0_0 hS) ?_
    refine v_alen dX4_codeOf_57 rfl (by decide) (Nat.le_of_ble_eq_true rfl) (xh_13_1 hS) ?_
    rw [xl_13_1 hS]
    refine v_icmp_le 65 dX4_codeOf_58 (by decide) (fun _ => ?_) (fun z => absurd (nI_le (by omega) (by omega)) z)
    refine v_aload_n dX4_codeOf_65 rfl ?_
    refine v_getR (some (3, 0)) fl_X4_12 dX4_codeOf_66 rfl rfl (Nat.le_of_ble_eq_true rfl) (xh_2_0 hS) (xr_2_0_1 hS) ?_
    refine v_getR (some (13, 1)) fl_X4_55 dX4_codeOf_69 rfl rfl (Nat.le_of_ble_eq_true rfl) (xh_3_0 hS) (xr_3_0_0 hS) ?_
    refine v_iload_n dX4_codeOf_72 rfl ?_
    refine v_iload_n dX4_codeOf_73 rfl ?_
    refine v_invS 0 0 (m_cpyRange g h hS hft ht3) dX4_codeOf_74 cwJ7_copyOfRange_feecc mlX4_58 rfl rfl (by decide) (by decide) (Nat.le_of_ble_eq_true rfl) (Nat.le_of_ble_eq_true rfl) (Nat.le_of_ble_eq_true rfl) (fun r h2 q2 => ?_) (fun _ _ q2 => q2.elim)
    obtain ⟨rfl, rfl⟩ := q2
    refine v_areturn dX4_codeOf_77 rfl (Or.inr ⟨_, rfl⟩) ?_
    exact ⟨rfl, rfl⟩
