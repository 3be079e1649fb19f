def mP1 (h : Hp) (n : Nat) (b : Int32) : Hp := sI h (38, 0) n b
def mP2 (h : Hp) (n : Nat) (b c : Int32) : Hp := sI (mP1 h n b) (38, 1) n c
def mP3 (h : Hp) (n : Nat) (b c k : Int32) : Hp := sI (mP2 h n b c) (39, 0) n (vp_nar .boolean k)
def mP4 (h : Hp) (n : Nat) (b c k : Int32) : Hp := sI (mP3 h n b c k) (38, 2) n (vi h (32, 0) 23)
def mP5 (h : Hp) (n : Nat) (b c k : Int32) : Hp := sI (mP4 h n b c k) (38, 3) n (-1)
def mP6 (h : Hp) (n : Nat) (b c k : Int32) : Hp := sI (mP5 h n b c k) (38, 6) n (-1)
def mPeN (h : Hp) (n : Nat) (b c k : Int32) : Hp := sI (mP6 h n b c k) (32, 0) 22 (nI n + 1)
theorem mP6_o (h : Hp) (n : Nat) (b c k : Int32) (f : Nat) : vi (mP1 h n b) (32, 0) f = vi h (32, 0) f ∧ vi (mP2 h n b c) (32, 0) f = vi h (32, 0) f ∧ vi (mP3 h n b c k) (32, 0) f = vi h (32, 0) f ∧ vi (mP4 h n b c k) (32, 0) f = vi h (32, 0) f ∧ vi (mP5 h n b c k) (32, 0) f = vi h (32, 0) f ∧ vi (mP6 h n b c k) (32, 0) f = vi h (32, 0) f := by
  have a1 : vi (mP1 h n b) (32, 0) f = vi h (32, 0) f := vi_sI_ne _ _ _ _ (by decide)
  have a2 : vi (mP2 h n b c) (32, 0) f = vi h (32, 0) f := (vi_sI_ne _ _ _ _ (by decide)).trans a1
  have a3 : vi (mP3 h n b c k) (32, 0) f = vi h (32, 0) f := (vi_sI_ne _ _ _ _ (by decide)).trans a2
  have a4 : vi (mP4 h n b c k) (32, 0) f = vi h (32, 0) f := (vi_sI_ne _ _ _ _ (by decide)).trans a3
  have a5 : vi (mP5 h n b c k) (32, 0) f = vi h (32, 0) f := (vi_sI_ne _ _ _ _ (by decide)).trans a4
  exact ⟨a1, a2, a3, a4, a5, (vi_sI_ne _ _ _ _ (by decide)).trans a5⟩
def mPerson (h : Hp) (b c k : Int32) : Int32 × Hp := if mIn b (-40000) (vi (mZ h) (32, 0) 23) = 0 then (-1, mT (mZ h) 2) else if mIn c b (vi (mZ h) (32, 0) 23) = 0 then (-1, mT (mZ h) 2) else if vi (mZ h) (32, 0) 22 = 40 then (-1, mT (mZ h) 3) else (nI (vi (mZ h) (32, 0) 22).toNatClampNeg, mT (mPeN (mZ h) (vi (mZ h) (32, 0) 22).toNatClampNeg b c k) 0)
set_option maxRecDepth 20000 in
theorem M_person (g : G0) (h : Hp) (i : MI h) {b c k : Int32} : Mx g yX14_person wX14_person 12 [pR (32, 0), pI b, pI c, pI k] h 0 0 (qE (some (pI (mPerson h b c k).1)) (mPerson h b c k).2) noX := by
  have hM : SM (mZ h) := i.1
  have i2 := MIz i
  obtain ⟨n, hn, e⟩ := i2.2.1
  have ncl : (nI n).toNatClampNeg = n := nI_clamp (by omega)
  have ncv : (vi (mZ h) (32, 0) 22).toNatClampNeg = n := by rw [e, ncl]
  refine Mx.by kfX14_person rfl (by decide) (Nat.le_of_ble_eq_true rfl) ?_
  refine v_aload_n dX14_person_0 rfl ?_
  refine v_iconst (0) dX14_person_1 (by decide) ?_
  refine v_putI fl_X14_112 (fun z => by cases z) dX14_person_2 rfl rfl (Nat.le_of_ble_eq_true rfl) rfl rfl (mh_32_0 hM) ?_
  change V g _ _ _ _ _ _ _ (mZ h) _ _
  refine v_iload_n dX14_person_5 rfl ?_
  refine v_ldcw (-40000) dX14_person_6 ctX14_311 ?_
  refine v_aload_n dX14_person_9 rfl ?_
  refine v_getI fl_X14_312 dX14_person_10 rfl rfl (Nat.le_of_ble_eq_true rfl) (mh_32_0 hM) ?_
  refine v_invSE (M_in g (mZ h)) dX14_person_13 cwX14_in mlX14_231 rfl rfl (by decide) (by decide) (Nat.le_of_ble_eq_true rfl) ?_
  refine v_if_eq 31 dX14_person_16 (by decide) (fun c16 => ?_) (fun c16 => ?_)
  · refine v_aload_n dX14_person_31 rfl ?_
    refine v_iconst (2) dX14_person_32 (by decide) ?_
    refine v_invVE (M_refused g (mZ h) hM) dX14_person_33 cwX14_refused mlX14_121 (ob_32 _) rfl rfl (by decide) (by decide) (Nat.le_of_ble_eq_true rfl) ?_
    refine v_ireturn dX14_person_36 rfl rfl ?_
    refine ⟨?_, ?_⟩ <;> first | (simp only [mPerson, if_pos c16]; done) | (simp only [mPerson, if_pos c16, ncv]; done)
  · refine v_iload_n dX14_person_19 rfl ?_
    refine v_iload_n dX14_person_20 rfl ?_
    refine v_aload_n dX14_person_21 rfl ?_
    refine v_getI fl_X14_312 dX14_person_22 rfl rfl (Nat.le_of_ble_eq_true rfl) (mh_32_0 hM) ?_
    refine v_invSE (M_in g (mZ h)) dX14_person_25 cwX14_in mlX14_231 rfl rfl (by decide) (by decide) (Nat.le_of_ble_eq_true rfl) ?_
    refine v_if_ne 37 dX14_person_28 (by decide) (fun c28 => ?_) (fun c28 => ?_)
    · refine v_aload_n dX14_person_37 rfl ?_
      refine v_getI fl_X14_308 dX14_person_38 rfl rfl (Nat.le_of_ble_eq_true rfl) (mh_32_0 hM) ?_
      refine v_bipush (40) dX14_person_41 (by decide) ?_
      refine v_icmp_ne 52 dX14_person_43 (by decide) (fun c43 => ?_) (fun c43 => ?_)
      · have hne : n ≠ 40 := fun z => c43 (by rw [e, z]; decide)
        have hn2 : n < 40 := by omega
        obtain ⟨g1, g2, g3, g4, g5, g6⟩ := mP6_o (mZ h) n b c k 22
        have f1 := g1.trans e
        have f2 := g2.trans e
        have f3 := g3.trans e
        have f4 := g4.trans e
        have f5 := g5.trans e
        have f6 := g6.trans e
        have t3 := (mP6_o (mZ h) n b c k 23).2.2.1
        refine v_aload_n dX14_person_52 rfl ?_
        refine v_getR (some (38, 0)) fl_X14_35 dX14_person_53 rfl rfl (Nat.le_of_ble_eq_true rfl) (mh_32_0 hM) (mr_32_0_24 hM) ?_
        refine v_aload_n dX14_person_56 rfl ?_
        refine v_getI fl_X14_308 dX14_person_57 rfl rfl (Nat.le_of_ble_eq_true rfl) (mh_32_0 hM) ?_
        rw [e]
        refine v_iload_n dX14_person_60 rfl ?_
        refine v_iast dX14_person_61 rfl (Nat.le_of_ble_eq_true rfl) (mh_38_0 hM) (by rw [ml_38_0 (show SM (mZ h) from hM)]; exact vp_in_nI hn2 (by decide)) ?_
        rw [ncl]
        change V g _ _ _ _ _ _ _ (mP1 (mZ h) n b) _ _
        refine v_aload_n dX14_person_62 rfl ?_
        refine v_getR (some (38, 1)) fl_X14_39 dX14_person_63 rfl rfl (Nat.le_of_ble_eq_true rfl) (mh_32_0 hM) (mr_32_0_25 hM) ?_
        refine v_aload_n dX14_person_66 rfl ?_
        refine v_getI fl_X14_308 dX14_person_67 rfl rfl (Nat.le_of_ble_eq_true rfl) (mh_32_0 hM) ?_
        rw [f1]
        refine v_iload_n dX14_person_70 rfl ?_
        refine v_iast dX14_person_71 rfl (Nat.le_of_ble_eq_true rfl) (mh_38_1 hM) (by rw [ml_38_1 (show SM (mP1 (mZ h) n b) from hM)]; exact vp_in_nI hn2 (by decide)) ?_
        rw [ncl]
        change V g _ _ _ _ _ _ _ (mP2 (mZ h) n b c) _ _
        refine v_aload_n dX14_person_72 rfl ?_
        refine v_getR (some (39, 0)) fl_X14_60 dX14_person_73 rfl rfl (Nat.le_of_ble_eq_true rfl) (mh_32_0 hM) (mr_32_0_32 hM) ?_
        refine v_aload_n dX14_person_76 rfl ?_
        refine v_getI fl_X14_308 dX14_person_77 rfl rfl (Nat.le_of_ble_eq_true rfl) (mh_32_0 hM) ?_
        rw [f2]
        refine v_iload_n dX14_person_80 rfl ?_
        refine v_zast dX14_person_81 rfl (Nat.le_of_ble_eq_true rfl) (mh_39_0 hM) (by rw [ml_39_0 (show SM (mP2 (mZ h) n b c) from hM)]; exact vp_in_nI hn2 (by decide)) ?_
        rw [ncl]
        change V g _ _ _ _ _ _ _ (mP3 (mZ h) n b c k) _ _
        refine v_aload_n dX14_person_82 rfl ?_
        refine v_getR (some (38, 2)) fl_X14_42 dX14_person_83 rfl rfl (Nat.le_of_ble_eq_true rfl) (mh_32_0 hM) (mr_32_0_26 hM) ?_
        refine v_aload_n dX14_person_86 rfl ?_
        refine v_getI fl_X14_308 dX14_person_87 rfl rfl (Nat.le_of_ble_eq_true rfl) (mh_32_0 hM) ?_
        rw [f3]
        refine v_aload_n dX14_person_90 rfl ?_
        refine v_getI fl_X14_312 dX14_person_91 rfl rfl (Nat.le_of_ble_eq_true rfl) (mh_32_0 hM) ?_
        rw [t3]
        refine v_iast dX14_person_94 rfl (Nat.le_of_ble_eq_true rfl) (mh_38_2 hM) (by rw [ml_38_2 (show SM (mP3 (mZ h) n b c k) from hM)]; exact vp_in_nI hn2 (by decide)) ?_
        rw [ncl]
        change V g _ _ _ _ _ _ _ (mP4 (mZ h) n b c k) _ _
        refine v_aload_n dX14_person_95 rfl ?_
        refine v_getR (some (38, 3)) fl_X14_45 dX14_person_96 rfl rfl (Nat.le_of_ble_eq_true rfl) (mh_32_0 hM) (mr_32_0_27 hM) ?_
        refine v_aload_n dX14_person_99 rfl ?_
        refine v_getI fl_X14_308 dX14_person_100 rfl rfl (Nat.le_of_ble_eq_true rfl) (mh_32_0 hM) ?_
        rw [f4]
        refine v_iconst (-1) dX14_person_103 (by decide) ?_
        refine v_iast dX14_person_104 rfl (Nat.le_of_ble_eq_true rfl) (mh_38_3 hM) (by rw [ml_38_3 (show SM (mP4 (mZ h) n b c k) from hM)]; exact vp_in_nI hn2 (by decide)) ?_
        rw [ncl]
        change V g _ _ _ _ _ _ _ (mP5 (mZ h) n b c k) _ _
        refine v_aload_n dX14_person_105 rfl ?_
        refine v_getR (some (38, 6)) fl_X14_54 dX14_person_106 rfl rfl (Nat.le_of_ble_eq_true rfl) (mh_32_0 hM) (mr_32_0_30 hM) ?_
        refine v_aload_n dX14_person_109 rfl ?_
        refine v_getI fl_X14_308 dX14_person_110 rfl rfl (Nat.le_of_ble_eq_true rfl) (mh_32_0 hM) ?_
        rw [f5]
        refine v_iconst (-1) dX14_person_113 (by decide) ?_
        refine v_iast dX14_person_114 rfl (Nat.le_of_ble_eq_true rfl) (mh_38_6 hM) (by rw [ml_38_6 (show SM (mP5 (mZ h) n b c k) from hM)]; exact vp_in_nI hn2 (by decide)) ?_
        rw [ncl]
        change V g _ _ _ _ _ _ _ (mP6 (mZ h) n b c k) _ _
        refine v_aload_n dX14_person_115 rfl ?_
        refine v_dup dX14_person_116 rfl ?_
        refine v_getI fl_X14_308 dX14_person_117 rfl rfl (Nat.le_of_ble_eq_true rfl) (mh_32_0 hM) ?_
        rw [f6]
        refine v_iconst (1) dX14_person_120 (by decide) ?_
        refine v_iadd dX14_person_121 ?_
        refine v_putI fl_X14_308 (fun z => by cases z) dX14_person_122 rfl rfl (Nat.le_of_ble_eq_true rfl) rfl rfl (mh_32_0 hM) ?_
        change V g _ _ _ _ _ _ _ (mPeN (mZ h) n b c k) _ _
        refine v_aload_n dX14_person_125 rfl ?_
        refine v_aload_n dX14_person_126 rfl ?_
        refine v_getI fl_X14_308 dX14_person_127 rfl rfl (Nat.le_of_ble_eq_true rfl) (mh_32_0 hM) ?_
        rw [show vi (mPeN (mZ h) n b c k) (32, 0) 22 = nI n + 1 from vi_sI_eq _ _ _ _, nI_1]
        refine v_iconst (1) dX14_person_130 (by decide) ?_
        refine v_isub dX14_person_131 ?_
        rw [nI_pred]
        refine v_invVE (M_done g (mPeN (mZ h) n b c k) hM) dX14_person_132 cwX14_done mlX14_125 (ob_32 _) rfl rfl (by decide) (by decide) (Nat.le_of_ble_eq_true rfl) ?_
        refine v_ireturn dX14_person_135 rfl rfl ?_
        refine ⟨?_, ?_⟩ <;> first | (simp only [mPerson, if_neg c16, if_neg c28, if_neg c43]; done) | (simp only [mPerson, if_neg c16, if_neg c28, if_neg c43, ncv]; done)
      · refine v_aload_n dX14_person_46 rfl ?_
        refine v_iconst (3) dX14_person_47 (by decide) ?_
        refine v_invVE (M_refused g (mZ h) hM) dX14_person_48 cwX14_refused mlX14_121 (ob_32 _) rfl rfl (by decide) (by decide) (Nat.le_of_ble_eq_true rfl) ?_
        refine v_ireturn dX14_person_51 rfl rfl ?_
        refine ⟨?_, ?_⟩ <;> first | (simp only [mPerson, if_neg c16, if_neg c28, if_pos c43]; done) | (simp only [mPerson, if_neg c16, if_neg c28, if_pos c43, ncv]; done)
    · refine v_aload_n dX14_person_31 rfl ?_
      refine v_iconst (2) dX14_person_32 (by decide) ?_
      refine v_invVE (M_refused g (mZ h) hM) dX14_person_33 cwX14_refused mlX14_121 (ob_32 _) rfl rfl (by decide) (by decide) (Nat.le_of_ble_eq_true rfl) ?_
      refine v_ireturn dX14_person_36 rfl rfl ?_
      refine ⟨?_, ?_⟩ <;> first | (simp only [mPerson, if_neg c16, if_pos c28]; done) | (simp only [mPerson, if_neg c16, if_pos c28, ncv]; done)
