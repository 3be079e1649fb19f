def mMe1 (h : Hp) (p t : Nat) (d : Int32) : Hp := sI h (38, 8) (6 * p + t) d
def mMe2 (h : Hp) (p t : Nat) (d v : Int32) : Hp := sI (mMe1 h p t d) (38, 9) (6 * p + t) v
def mMe3 (h : Hp) (p t : Nat) (d v : Int32) : Hp := sI (mMe2 h p t d v) (38, 7) p (nI t + 1)
def mMeA (h : Hp) (p t : Nat) (d v : Int32) : Int32 × Hp := (nI t + 1, mT (mMe3 h p t d v) 0)
def mMeans (h : Hp) (p d v : Int32) : Int32 × Hp := if mPb (mZ h) p = 0 then (-1, mT (mZ h) 1) else if mDy d = 0 then (-1, mT (mZ h) 2) else if mIn v 0 9999 = 0 then (-1, mT (mZ h) 2) else if vi (mZ h) (38, 7) p.toNatClampNeg = 6 then (-1, mT (mZ h) 3) else mMeA (mZ h) p.toNatClampNeg (vi (mZ h) (38, 7) p.toNatClampNeg).toNatClampNeg d v
set_option maxRecDepth 20000 in
theorem M_means (g : G0) (h : Hp) (i : MJ h) {p d v : Int32} : Mx g yX14_means wX14_means 12 [pR (32, 0), pI p, pI d, pI v] h 0 0 (qE (some (pI (mMeans h p d v).1)) (mMeans h p d v).2) noX := by
  have hM : SM (mZ h) := i.1.1
  have i2 := MJz i
  refine Mx.by kfX14_means rfl (by decide) (Nat.le_of_ble_eq_true rfl) ?_
  refine v_aload_n dX14_means_0 rfl ?_
  refine v_iconst (0) dX14_means_1 (by decide) ?_
  refine v_putI fl_X14_112 (fun z => by cases z) dX14_means_2 rfl rfl (Nat.le_of_ble_eq_true rfl) rfl rfl (mh_32_0 hM) ?_
  change V g _ _ _ _ _ _ _ (mZ h) _ _
  refine v_aload_n dX14_means_5 rfl ?_
  refine v_iload_n dX14_means_6 rfl ?_
  refine v_invVE (M_isPerson g (mZ h) hM) dX14_means_7 cwX14_isPerson mlX14_315 (ob_32 _) rfl rfl (by decide) (by decide) (Nat.le_of_ble_eq_true rfl) ?_
  refine v_if_ne 19 dX14_means_10 (by decide) (fun c10 => ?_) (fun c10 => ?_)
  · refine v_iload_n dX14_means_19 rfl ?_
    refine v_invSE (M_isDay g (mZ h)) dX14_means_20 cwX14_isDay mlX14_277 rfl rfl (by decide) (by decide) (Nat.le_of_ble_eq_true rfl) ?_
    refine v_if_eq 37 dX14_means_23 (by decide) (fun c23 => ?_) (fun c23 => ?_)
    · refine v_aload_n dX14_means_37 rfl ?_
      refine v_iconst (2) dX14_means_38 (by decide) ?_
      refine v_invVE (M_refused g (mZ h) hM) dX14_means_39 cwX14_refused mlX14_121 (ob_32 _) rfl rfl (by decide) (by decide) (Nat.le_of_ble_eq_true rfl) ?_
      refine v_ireturn dX14_means_42 rfl rfl ?_
      refine ⟨?_, ?_⟩ <;> first | (simp only [mMeans, if_neg c10, if_pos c23]; done) | (simp only [mMeans, ncj, if_neg c10, if_pos c23]; done) | (simp only [mMeans, ncj, if_neg c10, if_pos c23]; rw [e, nI_clamp (show t < 2 ^ 31 by omega)]; rfl)
    · refine v_iload_n dX14_means_26 rfl ?_
      refine v_iconst (0) dX14_means_27 (by decide) ?_
      refine v_sipush (9999) dX14_means_28 (by decide) ?_
      refine v_invSE (M_in g (mZ h)) dX14_means_31 cwX14_in mlX14_231 rfl rfl (by decide) (by decide) (Nat.le_of_ble_eq_true rfl) ?_
      refine v_if_ne 43 dX14_means_34 (by decide) (fun c34 => ?_) (fun c34 => ?_)
      · obtain ⟨j, hj, rfl, -⟩ := mPb_in i2.1 c10
        have ncj : (nI j).toNatClampNeg = j := nI_clamp (by omega)
        refine v_aload_n dX14_means_43 rfl ?_
        refine v_getR (some (38, 7)) fl_X14_57 dX14_means_44 rfl rfl (Nat.le_of_ble_eq_true rfl) (mh_32_0 hM) (mr_32_0_31 hM) ?_
        refine v_iload_n dX14_means_47 rfl ?_
        refine v_iald dX14_means_48 rfl (Nat.le_of_ble_eq_true rfl) (mh_38_7 hM) (by rw [ml_38_7 hM]; exact vp_in_nI hj (by decide)) ?_
        rw [ncj]
        refine v_bipush (6) dX14_means_49 (by decide) ?_
        refine v_icmp_ne 60 dX14_means_51 (by decide) (fun c51 => ?_) (fun c51 => ?_)
        · obtain ⟨t, ht, e⟩ := i2.2.1 j hj
          have hne : t ≠ 6 := fun z => c51 (by rw [e, z]; decide)
          have ht6 : t < 6 := by omega
          have e6 : (6 : Int32) * nI j + nI t = nI (6 * j + t) := by show nI 6 * nI j + nI t = _; rw [nI_mul, nI_add]
          have nck : (nI (6 * j + t)).toNatClampNeg = 6 * j + t := nI_clamp (by omega)
          have hx : 6 * j + t < 240 := by omega
          have f1 : vi (mMe1 (mZ h) j t d) (38, 7) j = nI t := (vi_sI_ne _ _ _ _ (by decide)).trans e
          have f2 : vi (mMe2 (mZ h) j t d v) (38, 7) j = nI t := (vi_sI_ne _ _ _ _ (by decide)).trans f1
          have f3 : vi (mMe3 (mZ h) j t d v) (38, 7) j = nI t + 1 := vi_sI_eq _ _ _ _
          refine v_aload_n dX14_means_60 rfl ?_
          refine v_getR (some (38, 8)) fl_X14_64 dX14_means_61 rfl rfl (Nat.le_of_ble_eq_true rfl) (mh_32_0 hM) (mr_32_0_33 hM) ?_
          refine v_bipush (6) dX14_means_64 (by decide) ?_
          refine v_iload_n dX14_means_66 rfl ?_
          refine v_imul dX14_means_67 ?_
          refine v_aload_n dX14_means_68 rfl ?_
          refine v_getR (some (38, 7)) fl_X14_57 dX14_means_69 rfl rfl (Nat.le_of_ble_eq_true rfl) (mh_32_0 hM) (mr_32_0_31 hM) ?_
          refine v_iload_n dX14_means_72 rfl ?_
          refine v_iald dX14_means_73 rfl (Nat.le_of_ble_eq_true rfl) (mh_38_7 hM) (by rw [ml_38_7 hM]; exact vp_in_nI hj (by decide)) ?_
          rw [ncj, e]
          refine v_iadd dX14_means_74 ?_
          rw [e6]
          refine v_iload_n dX14_means_75 rfl ?_
          refine v_iast dX14_means_76 rfl (Nat.le_of_ble_eq_true rfl) (mh_38_8 hM) (by rw [ml_38_8 hM]; exact vp_in_nI hx (by decide)) ?_
          rw [nck]
          change V g _ _ _ _ _ _ _ (mMe1 (mZ h) j t d) _ _
          refine v_aload_n dX14_means_77 rfl ?_
          refine v_getR (some (38, 9)) fl_X14_67 dX14_means_78 rfl rfl (Nat.le_of_ble_eq_true rfl) (mh_32_0 hM) (mr_32_0_34 hM) ?_
          refine v_bipush (6) dX14_means_81 (by decide) ?_
          refine v_iload_n dX14_means_83 rfl ?_
          refine v_imul dX14_means_84 ?_
          refine v_aload_n dX14_means_85 rfl ?_
          refine v_getR (some (38, 7)) fl_X14_57 dX14_means_86 rfl rfl (Nat.le_of_ble_eq_true rfl) (mh_32_0 hM) (mr_32_0_31 hM) ?_
          refine v_iload_n dX14_means_89 rfl ?_
          refine v_iald dX14_means_90 rfl (Nat.le_of_ble_eq_true rfl) (mh_38_7 hM) (by rw [ml_38_7 (show SM (mMe1 (mZ h) j t d) from hM)]; exact vp_in_nI hj (by decide)) ?_
          rw [ncj, f1]
          refine v_iadd dX14_means_91 ?_
          rw [e6]
          refine v_iload_n dX14_means_92 rfl ?_
          refine v_iast dX14_means_93 rfl (Nat.le_of_ble_eq_true rfl) (mh_38_9 hM) (by rw [ml_38_9 (show SM (mMe1 (mZ h) j t d) from hM)]; exact vp_in_nI hx (by decide)) ?_
          rw [nck]
          change V g _ _ _ _ _ _ _ (mMe2 (mZ h) j t d v) _ _
          refine v_aload_n dX14_means_94 rfl ?_
          refine v_getR (some (38, 7)) fl_X14_57 dX14_means_95 rfl rfl (Nat.le_of_ble_eq_true rfl) (mh_32_0 hM) (mr_32_0_31 hM) ?_
          refine v_iload_n dX14_means_98 rfl ?_
          refine v_dup2 dX14_means_99 rfl rfl ?_
          refine v_iald dX14_means_100 rfl (Nat.le_of_ble_eq_true rfl) (mh_38_7 hM) (by rw [ml_38_7 (show SM (mMe2 (mZ h) j t d v) from hM)]; exact vp_in_nI hj (by decide)) ?_
          rw [ncj, f2]
          refine v_iconst (1) dX14_means_101 (by decide) ?_
          refine v_iadd dX14_means_102 ?_
          refine v_iast dX14_means_103 rfl (Nat.le_of_ble_eq_true rfl) (mh_38_7 hM) (by rw [ml_38_7 (show SM (mMe2 (mZ h) j t d v) from hM)]; exact vp_in_nI hj (by decide)) ?_
          rw [ncj]
          change V g _ _ _ _ _ _ _ (mMe3 (mZ h) j t d v) _ _
          refine v_aload_n dX14_means_104 rfl ?_
          refine v_aload_n dX14_means_105 rfl ?_
          refine v_getR (some (38, 7)) fl_X14_57 dX14_means_106 rfl rfl (Nat.le_of_ble_eq_true rfl) (mh_32_0 hM) (mr_32_0_31 hM) ?_
          refine v_iload_n dX14_means_109 rfl ?_
          refine v_iald dX14_means_110 rfl (Nat.le_of_ble_eq_true rfl) (mh_38_7 hM) (by rw [ml_38_7 (show SM (mMe3 (mZ h) j t d v) from hM)]; exact vp_in_nI hj (by decide)) ?_
          rw [ncj, f3]
          refine v_invVE (M_done g (mMe3 (mZ h) j t d v) hM) dX14_means_111 cwX14_done mlX14_125 (ob_32 _) rfl rfl (by decide) (by decide) (Nat.le_of_ble_eq_true rfl) ?_
          refine v_ireturn dX14_means_114 rfl rfl ?_
          refine ⟨?_, ?_⟩ <;> first | (simp only [mMeans, if_neg c10, if_neg c23, if_neg c34, if_neg c51]; done) | (simp only [mMeans, ncj, if_neg c10, if_neg c23, if_neg c34, if_neg c51]; done) | (simp only [mMeans, ncj, if_neg c10, if_neg c23, if_neg c34, if_neg c51]; rw [e, nI_clamp (show t < 2 ^ 31 by omega)]; rfl)
        · refine v_aload_n dX14_means_54 rfl ?_
          refine v_iconst (3) dX14_means_55 (by decide) ?_
          refine v_invVE (M_refused g (mZ h) hM) dX14_means_56 cwX14_refused mlX14_121 (ob_32 _) rfl rfl (by decide) (by decide) (Nat.le_of_ble_eq_true rfl) ?_
          refine v_ireturn dX14_means_59 rfl rfl ?_
          refine ⟨?_, ?_⟩ <;> first | (simp only [mMeans, if_neg c10, if_neg c23, if_neg c34, if_pos c51]; done) | (simp only [mMeans, ncj, if_neg c10, if_neg c23, if_neg c34, if_pos c51]; done) | (simp only [mMeans, ncj, if_neg c10, if_neg c23, if_neg c34, if_pos c51]; rw [e, nI_clamp (show t < 2 ^ 31 by omega)]; rfl)
      · refine v_aload_n dX14_means_37 rfl ?_
        refine v_iconst (2) dX14_means_38 (by decide) ?_
        refine v_invVE (M_refused g (mZ h) hM) dX14_means_39 cwX14_refused mlX14_121 (ob_32 _) rfl rfl (by decide) (by decide) (Nat.le_of_ble_eq_true rfl) ?_
        refine v_ireturn dX14_means_42 rfl rfl ?_
        refine ⟨?_, ?_⟩ <;> first | (simp only [mMeans, if_neg c10, if_neg c23, if_pos c34]; done) | (simp only [mMeans, ncj, if_neg c10, if_neg c23, if_pos c34]; done) | (simp only [mMeans, ncj, if_neg c10, if_neg c23, if_pos c34]; rw [e, nI_clamp (show t < 2 ^ 31 by omega)]; rfl)
  · refine v_aload_n dX14_means_13 rfl ?_
    refine v_iconst (1) dX14_means_14 (by decide) ?_
    refine v_invVE (M_refused g (mZ h) hM) dX14_means_15 cwX14_refused mlX14_121 (ob_32 _) rfl rfl (by decide) (by decide) (Nat.le_of_ble_eq_true rfl) ?_
    refine v_ireturn dX14_means_18 rfl rfl ?_
    refine ⟨?_, ?_⟩ <;> first | (simp only [mMeans, if_pos c10]; done) | (simp only [mMeans, ncj, if_pos c10]; done) | (simp only [mMeans, ncj, if_pos c10]; rw [e, nI_clamp (show t < 2 ^ 31 by omega)]; rfl)
