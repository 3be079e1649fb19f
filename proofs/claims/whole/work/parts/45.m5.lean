/-- what the reference's rows point at -/
def MJ (h : Hp) : Prop := MI h ∧ (∀ p, p < 40 → ∃ t, t ≤ 6 ∧ vi h (38, 7) p = nI t) ∧ (∀ r, r < 20 → vi h (38, 11) r = -1 ∨ ∃ s, s < 100 ∧ vi h (38, 11) r = nI s) ∧ (∀ s, s < 100 → ∃ p, p < 40 ∧ vi h (38, 14) s = nI p) ∧ ∀ p, p < 40 → vi h (38, 6) p = -1 ∨ ∃ r, r < 20 ∧ vi h (38, 6) p = nI r
theorem MJz {h : Hp} (i : MJ h) : MJ (mZ h) := ⟨MIz i.1, i.2.1, i.2.2.1, i.2.2.2.1, i.2.2.2.2⟩
theorem nI_ne1 {n : Nat} (h : n < 2 ^ 31) : ¬ nI n = -1 := fun z => nI_pos h (by rw [z]; decide)
def mEnH (h : Hp) (r s p : Nat) : Hp := sI (sI (sI (sI h (38, 16) s (vi h (32, 0) 23)) (38, 11) r (-1)) (38, 6) p (-1)) (38, 4) p 0
set_option maxRecDepth 20000 in
theorem M_ends (g : G0) (h : Hp) (hM : SM h) {r s p : Nat} (hr : r < 20) (hs : s < 100) (hp : p < 40) (er : vi h (38, 11) r = nI s) (es : vi h (38, 14) s = nI p) : Mx g yX14_ends wX14_ends 0 [pR (32, 0), pI (nI r)] h 0 0 (qE (some (pI (nI p))) (mEnH h r s p)) noX := by
  have ncr : (nI r).toNatClampNeg = r := nI_clamp (by omega)
  have ncs : (nI s).toNatClampNeg = s := nI_clamp (by omega)
  have ncp : (nI p).toNatClampNeg = p := nI_clamp (by omega)
  refine Mx.by kfX14_ends rfl (by decide) (Nat.le_of_ble_eq_true rfl) ?_
  refine v_aload_n dX14_ends_0 rfl ?_
  refine v_getR (some (38, 11)) fl_X14_79 dX14_ends_1 rfl rfl (Nat.le_of_ble_eq_true rfl) (mh_32_0 hM) (mr_32_0_41 hM) ?_
  refine v_iload_n dX14_ends_4 rfl ?_
  refine v_iald dX14_ends_5 rfl (Nat.le_of_ble_eq_true rfl) (mh_38_11 hM) (by rw [ml_38_11 hM]; exact vp_in_nI hr (by decide)) ?_
  rw [ncr, er]
  refine v_istore_n dX14_ends_6 (by decide) ?_
  refine v_aload_n dX14_ends_7 rfl ?_
  refine v_getR (some (38, 14)) fl_X14_88 dX14_ends_8 rfl rfl (Nat.le_of_ble_eq_true rfl) (mh_32_0 hM) (mr_32_0_44 hM) ?_
  refine v_iload_n dX14_ends_11 rfl ?_
  refine v_iald dX14_ends_12 rfl (Nat.le_of_ble_eq_true rfl) (mh_38_14 hM) (by rw [ml_38_14 hM]; exact vp_in_nI hs (by decide)) ?_
  rw [ncs, es]
  refine v_istore_n dX14_ends_13 (by decide) ?_
  refine v_aload_n dX14_ends_14 rfl ?_
  refine v_getR (some (38, 16)) fl_X14_94 dX14_ends_15 rfl rfl (Nat.le_of_ble_eq_true rfl) (mh_32_0 hM) (mr_32_0_46 hM) ?_
  refine v_iload_n dX14_ends_18 rfl ?_
  refine v_aload_n dX14_ends_19 rfl ?_
  refine v_getI fl_X14_312 dX14_ends_20 rfl rfl (Nat.le_of_ble_eq_true rfl) (mh_32_0 hM) ?_
  refine v_iast dX14_ends_23 rfl (Nat.le_of_ble_eq_true rfl) (mh_38_16 hM) (by rw [ml_38_16 hM]; exact vp_in_nI hs (by decide)) ?_
  rw [ncs]
  refine v_aload_n dX14_ends_24 rfl ?_
  refine v_getR (some (38, 11)) fl_X14_79 dX14_ends_25 rfl rfl (Nat.le_of_ble_eq_true rfl) (mh_32_0 hM) (mr_32_0_41 hM) ?_
  refine v_iload_n dX14_ends_28 rfl ?_
  refine v_iconst (-1) dX14_ends_29 (by decide) ?_
  refine v_iast dX14_ends_30 rfl (Nat.le_of_ble_eq_true rfl) (mh_38_11 hM) (by rw [ln_sI, ml_38_11 hM]; exact vp_in_nI hr (by decide)) ?_
  rw [ncr]
  refine v_aload_n dX14_ends_31 rfl ?_
  refine v_getR (some (38, 6)) fl_X14_54 dX14_ends_32 rfl rfl (Nat.le_of_ble_eq_true rfl) (mh_32_0 hM) (mr_32_0_30 hM) ?_
  refine v_iload_n dX14_ends_35 rfl ?_
  refine v_iconst (-1) dX14_ends_36 (by decide) ?_
  refine v_iast dX14_ends_37 rfl (Nat.le_of_ble_eq_true rfl) (mh_38_6 hM) (by rw [ln_sI, ln_sI, ml_38_6 hM]; exact vp_in_nI hp (by decide)) ?_
  rw [ncp]
  refine v_aload_n dX14_ends_38 rfl ?_
  refine v_getR (some (38, 4)) fl_X14_48 dX14_ends_39 rfl rfl (Nat.le_of_ble_eq_true rfl) (mh_32_0 hM) (mr_32_0_28 hM) ?_
  refine v_iload_n dX14_ends_42 rfl ?_
  refine v_iconst (0) dX14_ends_43 (by decide) ?_
  refine v_iast dX14_ends_44 rfl (Nat.le_of_ble_eq_true rfl) (mh_38_4 hM) (by rw [ln_sI, ln_sI, ln_sI, ml_38_4 hM]; exact vp_in_nI hp (by decide)) ?_
  rw [ncp]
  refine v_iload_n dX14_ends_45 rfl ?_
  refine v_ireturn dX14_ends_46 rfl rfl ?_
  exact ⟨rfl, rfl⟩
def mLv (h : Hp) (r : Nat) : Int32 × Hp := if vi h (38, 11) r = -1 then (-1, mT h 6) else (vi h (38, 14) (vi h (38, 11) r).toNatClampNeg, mT (mEnH h r (vi h (38, 11) r).toNatClampNeg (vi h (38, 14) (vi h (38, 11) r).toNatClampNeg).toNatClampNeg) 0)
def mLeave (h : Hp) (r : Int32) : Int32 × Hp := if mRb (mZ h) r = 0 then (-1, mT (mZ h) 1) else mLv (mZ h) r.toNatClampNeg
set_option maxRecDepth 20000 in
theorem M_leave (g : G0) (h : Hp) (i : MJ h) {r : Int32} : Mx g yX14_leave wX14_leave 12 [pR (32, 0), pI r] h 0 0 (qE (some (pI (mLeave h r).1)) (mLeave h r).2) noX := by
  have hM : SM (mZ h) := i.1.1
  have i2 := MJz i
  refine Mx.by kfX14_leave rfl (by decide) (Nat.le_of_ble_eq_true rfl) ?_
  refine v_aload_n dX14_leave_0 rfl ?_
  refine v_iconst (0) dX14_leave_1 (by decide) ?_
  refine v_putI fl_X14_112 (fun z => by cases z) dX14_leave_2 rfl rfl (Nat.le_of_ble_eq_true rfl) rfl rfl (mh_32_0 hM) ?_
  change V g _ _ _ _ _ _ _ (mZ h) _ _
  refine v_aload_n dX14_leave_5 rfl ?_
  refine v_iload_n dX14_leave_6 rfl ?_
  refine v_invVE (M_isRoom g (mZ h) hM) dX14_leave_7 cwX14_isRoom mlX14_368 (ob_32 _) rfl rfl (by decide) (by decide) (Nat.le_of_ble_eq_true rfl) ?_
  refine v_if_ne 19 dX14_leave_10 (by decide) (fun c10 => ?_) (fun c10 => ?_)
  · obtain ⟨j, hj, rfl, -⟩ := mRb_in i2.1 c10
    have ncj : (nI j).toNatClampNeg = j := nI_clamp (by omega)
    refine v_aload_n dX14_leave_19 rfl ?_
    refine v_getR (some (38, 11)) fl_X14_79 dX14_leave_20 rfl rfl (Nat.le_of_ble_eq_true rfl) (mh_32_0 hM) (mr_32_0_41 hM) ?_
    refine v_iload_n dX14_leave_23 rfl ?_
    refine v_iald dX14_leave_24 rfl (Nat.le_of_ble_eq_true rfl) (mh_38_11 hM) (by rw [ml_38_11 hM]; exact vp_in_nI hj (by decide)) ?_
    rw [ncj]
    refine v_iconst (-1) dX14_leave_25 (by decide) ?_
    refine v_icmp_ne 36 dX14_leave_26 (by decide) (fun c26 => ?_) (fun c26 => ?_)
    · obtain ⟨s, hs, hsv⟩ : ∃ s, s < 100 ∧ vi (mZ h) (38, 11) j = nI s := (i2.2.2.1 j hj).resolve_left c26
      obtain ⟨p, hp, hpv⟩ := i2.2.2.2.1 s hs
      have ncs : (nI s).toNatClampNeg = s := nI_clamp (by omega)
      have ncp : (nI p).toNatClampNeg = p := nI_clamp (by omega)
      refine v_aload_n dX14_leave_36 rfl ?_
      refine v_aload_n dX14_leave_37 rfl ?_
      refine v_iload_n dX14_leave_38 rfl ?_
      refine v_invVE (M_ends g (mZ h) hM hj (s := s) (p := p) hs hp hsv hpv) dX14_leave_39 cwX14_ends mlX14_374 (ob_32 _) rfl rfl (by decide) (by decide) (Nat.le_of_ble_eq_true rfl) ?_
      refine v_invVE (M_done g (mEnH (mZ h) j s p) hM) dX14_leave_42 cwX14_done mlX14_125 (ob_32 _) rfl rfl (by decide) (by decide) (Nat.le_of_ble_eq_true rfl) ?_
      refine v_ireturn dX14_leave_45 rfl rfl ?_
      refine ⟨?_, ?_⟩ <;> first | (simp only [mLeave, if_neg c10, if_neg c26]; done) | (simp only [mLeave, mLv, if_neg c10, if_neg c26, ncj]; done) | (simp only [mLeave, mLv, if_neg c10, if_neg c26, ncj, hsv, ncs, hpv, ncp]; done) | (simp only [mLeave, if_neg c10, ncj, mLv, if_neg c26]; simp only [hsv, ncs, hpv, ncp]; done)
    · refine v_aload_n dX14_leave_29 rfl ?_
      refine v_bipush (6) dX14_leave_30 (by decide) ?_
      refine v_invVE (M_refused g (mZ h) hM) dX14_leave_32 cwX14_refused mlX14_121 (ob_32 _) rfl rfl (by decide) (by decide) (Nat.le_of_ble_eq_true rfl) ?_
      refine v_ireturn dX14_leave_35 rfl rfl ?_
      refine ⟨?_, ?_⟩ <;> first | (simp only [mLeave, if_neg c10, if_pos c26]; done) | (simp only [mLeave, mLv, if_neg c10, if_pos c26, ncj]; done) | (simp only [mLeave, mLv, if_neg c10, if_pos c26, ncj, hsv, ncs, hpv, ncp]; done) | (simp only [mLeave, if_neg c10, ncj, mLv, if_neg c26]; simp only [hsv, ncs, hpv, ncp]; done)
  · refine v_aload_n dX14_leave_13 rfl ?_
    refine v_iconst (1) dX14_leave_14 (by decide) ?_
    refine v_invVE (M_refused g (mZ h) hM) dX14_leave_15 cwX14_refused mlX14_121 (ob_32 _) rfl rfl (by decide) (by decide) (Nat.le_of_ble_eq_true rfl) ?_
    refine v_ireturn dX14_leave_18 rfl rfl ?_
    refine ⟨?_, ?_⟩ <;> first | (simp only [mLeave, if_pos c10]; done) | (simp only [mLeave, mLv, if_pos c10, ncj]; done) | (simp only [mLeave, mLv, if_pos c10, ncj, hsv, ncs, hpv, ncp]; done) | (simp only [mLeave, if_neg c10, ncj, mLv, if_neg c26]; simp only [hsv, ncs, hpv, ncp]; done)
