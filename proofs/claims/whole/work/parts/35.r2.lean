def onN (h : Hp) : Hp := wHo (sI h (2, 0) 10 (vi h (2, 0) 10 + 1)) 10
def onB0 (h : Hp) : Hp := sI (sI h (2, 0) 10 0) (2, 0) 9 (vi h (2, 0) 9 + 1)
def onB (h : Hp) : Hp := wHo (onB0 h) 40
def onC (h : Hp) : Hp := sI (sI (sI h (2, 0) 10 0) (2, 0) 7 (vi h (2, 0) 7 + 1)) (2, 0) 11 (vi h (1, 0) 6)
def rOn (h : Hp) : Int32 × Hp := if vi h (1, 0) 5 = 10 then (if vi (onN h) (2, 0) 10 ≤ 8 then (4, onN h) else rFa (onN h) 4) else if vi h (1, 0) 5 = 40 then (if vi (onB h) (2, 0) 9 ≤ 8 then (4, onB h) else rFa (onB h) 4) else if vi h (1, 0) 5 = 4 then (if vi (onC h) (2, 0) 7 ≤ 20 then (5, onC h) else rFa (onC h) 4) else rNo h
theorem WIsI {h : Hp} (w : WI h) {a : Ad} {k : Nat} {x : Int32} (ha : a ≠ (3, 0)) : WI (sI h a k x) := by
  obtain ⟨⟨n, hn, e⟩, m, hm, f⟩ := w
  exact ⟨⟨n, hn, by rw [vi_sI_ne _ _ _ _ (Ne.symm ha)]; exact e⟩, m, hm, by rw [vi_sI_ne _ _ _ _ (Ne.symm ha)]; exact f⟩
set_option maxRecDepth 20000 in
theorem m_readOne10 (g : G0) (h : Hp) (hS : SX h) (hW : WI h) (hk : vi h (1, 0) 5 = 10) : Mx g yX4_readOne wX4_readOne 2 [pR (2, 0)] h 0 0 (qE (some (pI (rOn h).1)) (rOn h).2) noX := by
  refine Mx.by kfX4_readOne rfl (by decide) (Nat.le_of_ble_eq_true rfl) ?_
  refine v_aload_n dX4_readOne_0 rfl ?_
  refine v_getR (some (1, 0)) fl_X4_28 dX4_readOne_1 rfl rfl (Nat.le_of_ble_eq_true rfl) (xh_2_0 hS) (xr_2_0_0 hS) ?_
  refine v_getI fl_X4_108 dX4_readOne_4 rfl rfl (Nat.le_of_ble_eq_true rfl) (xh_1_0 hS) ?_
  rw [hk]
  refine v_lookup 40 dX4_readOne_7 (by decide) rfl (by decide) ?_
  refine v_aload_n dX4_readOne_40 rfl ?_
  refine v_dup dX4_readOne_41 rfl ?_
  refine v_getI fl_X4_71 dX4_readOne_42 rfl rfl (Nat.le_of_ble_eq_true rfl) (xh_2_0 hS) ?_
  refine v_iconst (1) dX4_readOne_45 (by decide) ?_
  refine v_iadd dX4_readOne_46 ?_
  refine v_putI fl_X4_71 (fun z => by cases z) dX4_readOne_47 rfl rfl (Nat.le_of_ble_eq_true rfl) rfl rfl (xh_2_0 hS) ?_
  refine v_aload_n dX4_readOne_50 rfl ?_
  refine v_getR (some (3, 0)) fl_X4_12 dX4_readOne_51 rfl rfl (Nat.le_of_ble_eq_true rfl) (xh_2_0 hS) (xr_2_0_1 hS) ?_
  refine v_bipush (10) dX4_readOne_54 (by decide) ?_
  refine v_invVE (m_hold g (sI h (2, 0) 10 (vi h (2, 0) 10 + 1)) (SX.sI hS) (WIsI hW (by decide))) dX4_readOne_56 cwX10_hold mlX4_123 (ob_3 _) rfl rfl (by decide) (by decide) (Nat.le_of_ble_eq_true rfl) ?_
  have hS2 : SX (onN h) := SXho (SX.sI hS) _
  change V g _ _ _ _ _ _ _ (onN h) _ _
  refine v_aload_n dX4_readOne_59 rfl ?_
  refine v_getI fl_X4_71 dX4_readOne_60 rfl rfl (Nat.le_of_ble_eq_true rfl) (xh_2_0 hS2) ?_
  refine v_bipush (8) dX4_readOne_63 (by decide) ?_
  refine v_icmp_le 76 dX4_readOne_65 (by decide) (fun c65 => ?_) (fun c65 => ?_)
  · refine v_iconst (4) dX4_readOne_76 (by decide) ?_
    refine v_ireturn dX4_readOne_77 rfl rfl ?_
    exact ⟨by simp only [rOn, if_pos hk, if_pos c65], by simp only [rOn, if_pos hk, if_pos c65]⟩
  · refine v_aload_n dX4_readOne_68 rfl ?_
    refine v_iconst (4) dX4_readOne_69 (by decide) ?_
    refine v_invVE (m_faulty g (onN h) hS2) dX4_readOne_70 cwX4_faulty mlX4_111 (ob_2 _) rfl rfl (by decide) (by decide) (Nat.le_of_ble_eq_true rfl) ?_
    refine v_goto 77 dX4_readOne_73 (by decide) ?_
    refine v_ireturn dX4_readOne_77 rfl rfl ?_
    exact ⟨by simp only [rOn, if_pos hk, if_neg c65], by simp only [rOn, if_pos hk, if_neg c65]⟩
set_option maxRecDepth 20000 in
theorem m_readOne40 (g : G0) (h : Hp) (hS : SX h) (hW : WI h) (hk : vi h (1, 0) 5 = 40) : Mx g yX4_readOne wX4_readOne 2 [pR (2, 0)] h 0 0 (qE (some (pI (rOn h).1)) (rOn h).2) noX := by
  have n10 : ¬ vi h (1, 0) 5 = 10 := by rw [hk]; decide
  refine Mx.by kfX4_readOne rfl (by decide) (Nat.le_of_ble_eq_true rfl) ?_
  refine v_aload_n dX4_readOne_0 rfl ?_
  refine v_getR (some (1, 0)) fl_X4_28 dX4_readOne_1 rfl rfl (Nat.le_of_ble_eq_true rfl) (xh_2_0 hS) (xr_2_0_0 hS) ?_
  refine v_getI fl_X4_108 dX4_readOne_4 rfl rfl (Nat.le_of_ble_eq_true rfl) (xh_1_0 hS) ?_
  rw [hk]
  refine v_lookup 78 dX4_readOne_7 (by decide) rfl (by decide) ?_
  refine v_aload_n dX4_readOne_78 rfl ?_
  refine v_iconst (0) dX4_readOne_79 (by decide) ?_
  refine v_putI fl_X4_71 (fun z => by cases z) dX4_readOne_80 rfl rfl (Nat.le_of_ble_eq_true rfl) rfl rfl (xh_2_0 hS) ?_
  refine v_aload_n dX4_readOne_83 rfl ?_
  refine v_dup dX4_readOne_84 rfl ?_
  refine v_getI fl_X4_68 dX4_readOne_85 rfl rfl (Nat.le_of_ble_eq_true rfl) (xh_2_0 hS) ?_
  rw [vi_sI_nk _ _ _ (by decide)]
  refine v_iconst (1) dX4_readOne_88 (by decide) ?_
  refine v_iadd dX4_readOne_89 ?_
  refine v_putI fl_X4_68 (fun z => by cases z) dX4_readOne_90 rfl rfl (Nat.le_of_ble_eq_true rfl) rfl rfl (xh_2_0 hS) ?_
  change V g _ _ _ _ _ _ _ (onB0 h) _ _
  refine v_aload_n dX4_readOne_93 rfl ?_
  refine v_getR (some (3, 0)) fl_X4_12 dX4_readOne_94 rfl rfl (Nat.le_of_ble_eq_true rfl) (xh_2_0 hS) (xr_2_0_1 hS) ?_
  refine v_bipush (40) dX4_readOne_97 (by decide) ?_
  refine v_invVE (m_hold g (onB0 h) (SX.sI (SX.sI hS)) (WIsI (WIsI hW (by decide)) (by decide))) dX4_readOne_99 cwX10_hold mlX4_123 (ob_3 _) rfl rfl (by decide) (by decide) (Nat.le_of_ble_eq_true rfl) ?_
  have hS2 : SX (onB h) := SXho (SX.sI (SX.sI hS)) _
  change V g _ _ _ _ _ _ _ (onB h) _ _
  refine v_aload_n dX4_readOne_102 rfl ?_
  refine v_getI fl_X4_68 dX4_readOne_103 rfl rfl (Nat.le_of_ble_eq_true rfl) (xh_2_0 hS2) ?_
  refine v_bipush (8) dX4_readOne_106 (by decide) ?_
  refine v_icmp_le 119 dX4_readOne_108 (by decide) (fun c108 => ?_) (fun c108 => ?_)
  · refine v_iconst (4) dX4_readOne_119 (by decide) ?_
    refine v_ireturn dX4_readOne_120 rfl rfl ?_
    exact ⟨by simp only [rOn, if_neg n10, if_pos hk, if_pos c108], by simp only [rOn, if_neg n10, if_pos hk, if_pos c108]⟩
  · refine v_aload_n dX4_readOne_111 rfl ?_
    refine v_iconst (4) dX4_readOne_112 (by decide) ?_
    refine v_invVE (m_faulty g (onB h) hS2) dX4_readOne_113 cwX4_faulty mlX4_111 (ob_2 _) rfl rfl (by decide) (by decide) (Nat.le_of_ble_eq_true rfl) ?_
    refine v_goto 120 dX4_readOne_116 (by decide) ?_
    refine v_ireturn dX4_readOne_120 rfl rfl ?_
    exact ⟨by simp only [rOn, if_neg n10, if_pos hk, if_neg c108], by simp only [rOn, if_neg n10, if_pos hk, if_neg c108]⟩
set_option maxRecDepth 20000 in
theorem m_readOne4 (g : G0) (h : Hp) (hS : SX h) (hW : WI h) (hk : vi h (1, 0) 5 = 4) : Mx g yX4_readOne wX4_readOne 2 [pR (2, 0)] h 0 0 (qE (some (pI (rOn h).1)) (rOn h).2) noX := by
  have n10 : ¬ vi h (1, 0) 5 = 10 := by rw [hk]; decide
  have n40 : ¬ vi h (1, 0) 5 = 40 := by rw [hk]; decide
  refine Mx.by kfX4_readOne rfl (by decide) (Nat.le_of_ble_eq_true rfl) ?_
  refine v_aload_n dX4_readOne_0 rfl ?_
  refine v_getR (some (1, 0)) fl_X4_28 dX4_readOne_1 rfl rfl (Nat.le_of_ble_eq_true rfl) (xh_2_0 hS) (xr_2_0_0 hS) ?_
  refine v_getI fl_X4_108 dX4_readOne_4 rfl rfl (Nat.le_of_ble_eq_true rfl) (xh_1_0 hS) ?_
  rw [hk]
  refine v_lookup 121 dX4_readOne_7 (by decide) rfl (by decide) ?_
  refine v_aload_n dX4_readOne_121 rfl ?_
  refine v_iconst (0) dX4_readOne_122 (by decide) ?_
  refine v_putI fl_X4_71 (fun z => by cases z) dX4_readOne_123 rfl rfl (Nat.le_of_ble_eq_true rfl) rfl rfl (xh_2_0 hS) ?_
  refine v_aload_n dX4_readOne_126 rfl ?_
  refine v_dup dX4_readOne_127 rfl ?_
  refine v_getI fl_X4_65 dX4_readOne_128 rfl rfl (Nat.le_of_ble_eq_true rfl) (xh_2_0 hS) ?_
  rw [vi_sI_nk _ _ _ (by decide)]
  refine v_iconst (1) dX4_readOne_131 (by decide) ?_
  refine v_iadd dX4_readOne_132 ?_
  refine v_putI fl_X4_65 (fun z => by cases z) dX4_readOne_133 rfl rfl (Nat.le_of_ble_eq_true rfl) rfl rfl (xh_2_0 hS) ?_
  refine v_aload_n dX4_readOne_136 rfl ?_
  refine v_aload_n dX4_readOne_137 rfl ?_
  refine v_getR (some (1, 0)) fl_X4_28 dX4_readOne_138 rfl rfl (Nat.le_of_ble_eq_true rfl) (xh_2_0 hS) (xr_2_0_0 hS) ?_
  refine v_getI fl_X4_117 dX4_readOne_141 rfl rfl (Nat.le_of_ble_eq_true rfl) (xh_1_0 hS) ?_
  rw [vi_sI_ne _ _ _ _ (by decide), vi_sI_ne _ _ _ _ (by decide)]
  refine v_putI fl_X4_126 (fun z => by cases z) dX4_readOne_144 rfl rfl (Nat.le_of_ble_eq_true rfl) rfl rfl (xh_2_0 hS) ?_
  change V g _ _ _ _ _ _ _ (onC h) _ _
  refine v_aload_n dX4_readOne_147 rfl ?_
  refine v_getI fl_X4_65 dX4_readOne_148 rfl rfl (Nat.le_of_ble_eq_true rfl) (xh_2_0 hS) ?_
  refine v_bipush (20) dX4_readOne_151 (by decide) ?_
  refine v_icmp_le 164 dX4_readOne_153 (by decide) (fun c153 => ?_) (fun c153 => ?_)
  · refine v_iconst (5) dX4_readOne_164 (by decide) ?_
    refine v_ireturn dX4_readOne_165 rfl rfl ?_
    exact ⟨by simp only [rOn, if_neg n10, if_neg n40, if_pos hk, if_pos c153], by simp only [rOn, if_neg n10, if_neg n40, if_pos hk, if_pos c153]⟩
  · refine v_aload_n dX4_readOne_156 rfl ?_
    refine v_iconst (4) dX4_readOne_157 (by decide) ?_
    refine v_invVE (m_faulty g (onC h) hS) dX4_readOne_158 cwX4_faulty mlX4_111 (ob_2 _) rfl rfl (by decide) (by decide) (Nat.le_of_ble_eq_true rfl) ?_
    refine v_goto 165 dX4_readOne_161 (by decide) ?_
    refine v_ireturn dX4_readOne_165 rfl rfl ?_
    exact ⟨by simp only [rOn, if_neg n10, if_neg n40, if_pos hk, if_neg c153], by simp only [rOn, if_neg n10, if_neg n40, if_pos hk, if_neg c153]⟩
set_option maxRecDepth 20000 in
theorem m_readOneO (g : G0) (h : Hp) (hS : SX h) (hW : WI h) (n10 : ¬ vi h (1, 0) 5 = 10) (n40 : ¬ vi h (1, 0) 5 = 40) (n4 : ¬ vi h (1, 0) 5 = 4) : Mx g yX4_readOne wX4_readOne 2 [pR (2, 0)] h 0 0 (qE (some (pI (rOn h).1)) (rOn h).2) noX := by
  have e10 : ¬ (vi h (1, 0) 5).toInt = 10 := fun z => n10 (Int32.toInt_inj.mp z)
  have e40 : ¬ (vi h (1, 0) 5).toInt = 40 := fun z => n40 (Int32.toInt_inj.mp z)
  have e4 : ¬ (vi h (1, 0) 5).toInt = 4 := fun z => n4 (Int32.toInt_inj.mp z)
  refine Mx.by kfX4_readOne rfl (by decide) (Nat.le_of_ble_eq_true rfl) ?_
  refine v_aload_n dX4_readOne_0 rfl ?_
  refine v_getR (some (1, 0)) fl_X4_28 dX4_readOne_1 rfl rfl (Nat.le_of_ble_eq_true rfl) (xh_2_0 hS) (xr_2_0_0 hS) ?_
  refine v_getI fl_X4_108 dX4_readOne_4 rfl rfl (Nat.le_of_ble_eq_true rfl) (xh_1_0 hS) ?_
  refine v_lookup 166 dX4_readOne_7 (by decide) (off := 159) (by simp [Op.lookupswitch.offset, e10, e40, e4]; try omega) (by decide) ?_
  refine v_aload_n dX4_readOne_166 rfl ?_
  refine v_invVE (m_noName g h hS) dX4_readOne_167 cwX4_noName mlX4_129 (ob_2 _) rfl rfl (by decide) (by decide) (Nat.le_of_ble_eq_true rfl) ?_
  refine v_ireturn dX4_readOne_170 rfl rfl ?_
  exact ⟨by simp only [rOn, if_neg n10, if_neg n40, if_neg n4], by simp only [rOn, if_neg n10, if_neg n40, if_neg n4]⟩
theorem m_readOne (g : G0) (h : Hp) (hS : SX h) (hW : WI h) : Mx g yX4_readOne wX4_readOne 2 [pR (2, 0)] h 0 0 (qE (some (pI (rOn h).1)) (rOn h).2) noX := by
  by_cases n10 : vi h (1, 0) 5 = 10
  · exact m_readOne10 g h hS hW n10
  by_cases n40 : vi h (1, 0) 5 = 40
  · exact m_readOne40 g h hS hW n40
  by_cases n4 : vi h (1, 0) 5 = 4
  · exact m_readOne4 g h hS hW n4
  exact m_readOneO g h hS hW n10 n40 n4
def sgH (h : Hp) : Hp := sI h (2, 0) 12 (vi h (1, 0) 5)
def rSg (h : Hp) : Int32 × Hp := if vi (sgH h) (2, 0) 12 = 60 then (6, sgH h) else if vi (sgH h) (2, 0) 12 = 62 then (6, sgH h) else if vi (sgH h) (2, 0) 12 = 61 then (6, sgH h) else rFa (sgH h) 1
set_option maxRecDepth 20000 in
theorem m_readSign (g : G0) (h : Hp) (hS : SX h)  : Mx g yX4_readSign wX4_readSign 1 [pR (2, 0)] h 0 0 (qE (some (pI (rSg h).1)) (rSg h).2) noX := by
  refine Mx.by kfX4_readSign rfl (by decide) (Nat.le_of_ble_eq_true rfl) ?_
  refine v_aload_n dX4_readSign_0 rfl ?_
  refine v_aload_n dX4_readSign_1 rfl ?_
  refine v_getR (some (1, 0)) fl_X4_28 dX4_readSign_2 rfl rfl (Nat.le_of_ble_eq_true rfl) (xh_2_0 hS) (xr_2_0_0 hS) ?_
  refine v_getI fl_X4_108 dX4_readSign_5 rfl rfl (Nat.le_of_ble_eq_true rfl) (xh_1_0 hS) ?_
  refine v_putI fl_X4_132 (fun z => by cases z) dX4_readSign_8 rfl rfl (Nat.le_of_ble_eq_true rfl) rfl rfl (xh_2_0 hS) ?_
  change V g _ _ _ _ _ _ _ (sgH h) _ _
  refine v_aload_n dX4_readSign_11 rfl ?_
  refine v_getI fl_X4_132 dX4_readSign_12 rfl rfl (Nat.le_of_ble_eq_true rfl) (xh_2_0 hS) ?_
  refine v_bipush (60) dX4_readSign_15 (by decide) ?_
  refine v_icmp_eq 38 dX4_readSign_17 (by decide) (fun c17 => ?_) (fun c17 => ?_)
  · refine v_bipush (6) dX4_readSign_38 (by decide) ?_
    refine v_goto 48 dX4_readSign_40 (by decide) ?_
    refine v_ireturn dX4_readSign_48 rfl rfl ?_
    exact ⟨by simp only [rSg, if_pos c17], by simp only [rSg, if_pos c17]⟩
  · refine v_aload_n dX4_readSign_20 rfl ?_
    refine v_getI fl_X4_132 dX4_readSign_21 rfl rfl (Nat.le_of_ble_eq_true rfl) (xh_2_0 hS) ?_
    refine v_bipush (62) dX4_readSign_24 (by decide) ?_
    refine v_icmp_eq 38 dX4_readSign_26 (by decide) (fun c26 => ?_) (fun c26 => ?_)
    · refine v_bipush (6) dX4_readSign_38 (by decide) ?_
      refine v_goto 48 dX4_readSign_40 (by decide) ?_
      refine v_ireturn dX4_readSign_48 rfl rfl ?_
      exact ⟨by simp only [rSg, if_neg c17, if_pos c26], by simp only [rSg, if_neg c17, if_pos c26]⟩
    · refine v_aload_n dX4_readSign_29 rfl ?_
      refine v_getI fl_X4_132 dX4_readSign_30 rfl rfl (Nat.le_of_ble_eq_true rfl) (xh_2_0 hS) ?_
      refine v_bipush (61) dX4_readSign_33 (by decide) ?_
      refine v_icmp_ne 43 dX4_readSign_35 (by decide) (fun c35 => ?_) (fun c35 => ?_)
      · refine v_aload_n dX4_readSign_43 rfl ?_
        refine v_iconst (1) dX4_readSign_44 (by decide) ?_
        refine v_invVE (m_faulty g (sgH h) hS) dX4_readSign_45 cwX4_faulty mlX4_111 (ob_2 _) rfl rfl (by decide) (by decide) (Nat.le_of_ble_eq_true rfl) ?_
        refine v_ireturn dX4_readSign_48 rfl rfl ?_
        exact ⟨by simp only [rSg, if_neg c17, if_neg c26, if_neg c35], by simp only [rSg, if_neg c17, if_neg c26, if_neg c35]⟩
      · refine v_bipush (6) dX4_readSign_38 (by decide) ?_
        refine v_goto 48 dX4_readSign_40 (by decide) ?_
        refine v_ireturn dX4_readSign_48 rfl rfl ?_
        exact ⟨by simp only [rSg, if_neg c17, if_neg c26, if_pos c35], by simp only [rSg, if_neg c17, if_neg c26, if_pos c35]⟩
def vaH (h : Hp) : Hp := wWr h (xMk (vi h (2, 0) 12) (vi h (2, 0) 11) (vi h (1, 0) 6))
def rVa (h : Hp) : Int32 × Hp := if vi h (1, 0) 5 = 2 then (7, wRel (vaH h) 10) else rFa h 1
set_option maxRecDepth 20000 in
theorem m_readValue (g : G0) (h : Hp) (hS : SX h) (hW : WI h)  : Mx g yX4_readValue wX4_readValue 3 [pR (2, 0)] h 0 0 (qE (some (pI (rVa h).1)) (rVa h).2) noX := by
  refine Mx.by kfX4_readValue rfl (by decide) (Nat.le_of_ble_eq_true rfl) ?_
  refine v_aload_n dX4_readValue_0 rfl ?_
  refine v_getR (some (1, 0)) fl_X4_28 dX4_readValue_1 rfl rfl (Nat.le_of_ble_eq_true rfl) (xh_2_0 hS) (xr_2_0_0 hS) ?_
  refine v_getI fl_X4_108 dX4_readValue_4 rfl rfl (Nat.le_of_ble_eq_true rfl) (xh_1_0 hS) ?_
  refine v_iconst (2) dX4_readValue_7 (by decide) ?_
  refine v_icmp_eq 17 dX4_readValue_8 (by decide) (fun c8 => ?_) (fun c8 => ?_)
  · refine v_aload_n dX4_readValue_17 rfl ?_
    refine v_getR (some (3, 0)) fl_X4_12 dX4_readValue_18 rfl rfl (Nat.le_of_ble_eq_true rfl) (xh_2_0 hS) (xr_2_0_1 hS) ?_
    refine v_aload_n dX4_readValue_21 rfl ?_
    refine v_getI fl_X4_132 dX4_readValue_22 rfl rfl (Nat.le_of_ble_eq_true rfl) (xh_2_0 hS) ?_
    refine v_aload_n dX4_readValue_25 rfl ?_
    refine v_getI fl_X4_126 dX4_readValue_26 rfl rfl (Nat.le_of_ble_eq_true rfl) (xh_2_0 hS) ?_
    refine v_aload_n dX4_readValue_29 rfl ?_
    refine v_getR (some (1, 0)) fl_X4_28 dX4_readValue_30 rfl rfl (Nat.le_of_ble_eq_true rfl) (xh_2_0 hS) (xr_2_0_0 hS) ?_
    refine v_getI fl_X4_117 dX4_readValue_33 rfl rfl (Nat.le_of_ble_eq_true rfl) (xh_1_0 hS) ?_
    refine v_invSE (m_mk g h) dX4_readValue_36 cwX0_step mlX4_135 rfl rfl (by decide) (by decide) (Nat.le_of_ble_eq_true rfl) ?_
    refine v_invVE (m_write g h hS hW) dX4_readValue_39 cwX10_write mlX4_140 (ob_3 _) rfl rfl (by decide) (by decide) (Nat.le_of_ble_eq_true rfl) ?_
    have hS2 : SX (vaH h) := SXwr hS _
    change V g _ _ _ _ _ _ _ (vaH h) _ _
    refine v_aload_n dX4_readValue_42 rfl ?_
    refine v_getR (some (3, 0)) fl_X4_12 dX4_readValue_43 rfl rfl (Nat.le_of_ble_eq_true rfl) (xh_2_0 hS2) (xr_2_0_1 hS2) ?_
    refine v_invVE (m_endOne g (vaH h) hS2 (WIwr hW _)) dX4_readValue_46 cwX10_endOne mlX4_143 (ob_3 _) rfl rfl (by decide) (by decide) (Nat.le_of_ble_eq_true rfl) ?_
    refine v_bipush (7) dX4_readValue_49 (by decide) ?_
    refine v_ireturn dX4_readValue_51 rfl rfl ?_
    exact ⟨by simp only [rVa, if_pos c8], by simp only [rVa, if_pos c8]⟩
  · refine v_aload_n dX4_readValue_11 rfl ?_
    refine v_iconst (1) dX4_readValue_12 (by decide) ?_
    refine v_invVE (m_faulty g h hS) dX4_readValue_13 cwX4_faulty mlX4_111 (ob_2 _) rfl rfl (by decide) (by decide) (Nat.le_of_ble_eq_true rfl) ?_
    refine v_ireturn dX4_readValue_16 rfl rfl ?_
    exact ⟨by simp only [rVa, if_neg c8], by simp only [rVa, if_neg c8]⟩
theorem RIo {h h2 : Hp} (r : RI h) (e : vi h2 (2, 0) 5 = vi h (2, 0) 5) : RI h2 := by obtain ⟨c, hc, f⟩ := r; exact ⟨c, hc, e.trans f⟩
def rBo (h : Hp) : Int32 × Hp := if vi h (1, 0) 5 = 9 then (4, wHo (wRel h 9) (vi h (1, 0) 5)) else if vi h (1, 0) 5 = 8 then (4, wHo (wRel h 9) (vi h (1, 0) 5)) else if vi h (2, 0) 9 = 0 then rBc (wEa h) else if vi h (1, 0) 5 = 41 then (7, wCb (sI h (2, 0) 9 (vi h (2, 0) 9 - 1))) else rFa h 1
set_option maxRecDepth 20000 in
theorem m_readBo (g : G0) (h : Hp) (hS : SX h) (hW : WI h) (hR : RI h)  : Mx g yX4_readBehindOne wX4_readBehindOne 3 [pR (2, 0)] h 0 0 (qE (some (pI (rBo h).1)) (rBo h).2) noX := by
  refine Mx.by kfX4_readBehindOne rfl (by decide) (Nat.le_of_ble_eq_true rfl) ?_
  refine v_aload_n dX4_readBehindOne_0 rfl ?_
  refine v_getR (some (1, 0)) fl_X4_28 dX4_readBehindOne_1 rfl rfl (Nat.le_of_ble_eq_true rfl) (xh_2_0 hS) (xr_2_0_0 hS) ?_
  refine v_getI fl_X4_108 dX4_readBehindOne_4 rfl rfl (Nat.le_of_ble_eq_true rfl) (xh_1_0 hS) ?_
  refine v_bipush (9) dX4_readBehindOne_7 (by decide) ?_
  refine v_icmp_eq 24 dX4_readBehindOne_9 (by decide) (fun c9 => ?_) (fun c9 => ?_)
  · refine v_aload_n dX4_readBehindOne_24 rfl ?_
    refine v_getR (some (3, 0)) fl_X4_12 dX4_readBehindOne_25 rfl rfl (Nat.le_of_ble_eq_true rfl) (xh_2_0 hS) (xr_2_0_1 hS) ?_
    refine v_aload_n dX4_readBehindOne_28 rfl ?_
    refine v_getR (some (1, 0)) fl_X4_28 dX4_readBehindOne_29 rfl rfl (Nat.le_of_ble_eq_true rfl) (xh_2_0 hS) (xr_2_0_0 hS) ?_
    refine v_getI fl_X4_108 dX4_readBehindOne_32 rfl rfl (Nat.le_of_ble_eq_true rfl) (xh_1_0 hS) ?_
    refine v_invVE (m_join g h hS hW) dX4_readBehindOne_35 cwX10_join mlX4_146 (ob_3 _) rfl rfl (by decide) (by decide) (Nat.le_of_ble_eq_true rfl) ?_
    refine v_iconst (4) dX4_readBehindOne_38 (by decide) ?_
    refine v_ireturn dX4_readBehindOne_39 rfl rfl ?_
    exact ⟨by simp only [rBo, if_pos c9], by simp only [rBo, if_pos c9]⟩
  · refine v_aload_n dX4_readBehindOne_12 rfl ?_
    refine v_getR (some (1, 0)) fl_X4_28 dX4_readBehindOne_13 rfl rfl (Nat.le_of_ble_eq_true rfl) (xh_2_0 hS) (xr_2_0_0 hS) ?_
    refine v_getI fl_X4_108 dX4_readBehindOne_16 rfl rfl (Nat.le_of_ble_eq_true rfl) (xh_1_0 hS) ?_
    refine v_bipush (8) dX4_readBehindOne_19 (by decide) ?_
    refine v_icmp_ne 40 dX4_readBehindOne_21 (by decide) (fun c21 => ?_) (fun c21 => ?_)
    · refine v_aload_n dX4_readBehindOne_40 rfl ?_
      refine v_getI fl_X4_68 dX4_readBehindOne_41 rfl rfl (Nat.le_of_ble_eq_true rfl) (xh_2_0 hS) ?_
      refine v_if_ne 59 dX4_readBehindOne_44 (by decide) (fun c44 => ?_) (fun c44 => ?_)
      · refine v_aload_n dX4_readBehindOne_59 rfl ?_
        refine v_getR (some (1, 0)) fl_X4_28 dX4_readBehindOne_60 rfl rfl (Nat.le_of_ble_eq_true rfl) (xh_2_0 hS) (xr_2_0_0 hS) ?_
        refine v_getI fl_X4_108 dX4_readBehindOne_63 rfl rfl (Nat.le_of_ble_eq_true rfl) (xh_1_0 hS) ?_
        refine v_bipush (41) dX4_readBehindOne_66 (by decide) ?_
        refine v_icmp_eq 77 dX4_readBehindOne_68 (by decide) (fun c68 => ?_) (fun c68 => ?_)
        · refine v_aload_n dX4_readBehindOne_77 rfl ?_
          refine v_dup dX4_readBehindOne_78 rfl ?_
          refine v_getI fl_X4_68 dX4_readBehindOne_79 rfl rfl (Nat.le_of_ble_eq_true rfl) (xh_2_0 hS) ?_
          refine v_iconst (1) dX4_readBehindOne_82 (by decide) ?_
          refine v_isub dX4_readBehindOne_83 ?_
          refine v_putI fl_X4_68 (fun z => by cases z) dX4_readBehindOne_84 rfl rfl (Nat.le_of_ble_eq_true rfl) rfl rfl (xh_2_0 hS) ?_
          refine v_aload_n dX4_readBehindOne_87 rfl ?_
          refine v_getR (some (3, 0)) fl_X4_12 dX4_readBehindOne_88 rfl rfl (Nat.le_of_ble_eq_true rfl) (xh_2_0 hS) (xr_2_0_1 hS) ?_
          refine v_invVE (m_closeB g _ (SX.sI hS) (WIsI hW (by decide))) dX4_readBehindOne_91 cwX10_closeBracket mlX4_152 (ob_3 _) rfl rfl (by decide) (by decide) (Nat.le_of_ble_eq_true rfl) ?_
          refine v_bipush (7) dX4_readBehindOne_94 (by decide) ?_
          refine v_ireturn dX4_readBehindOne_96 rfl rfl ?_
          exact ⟨by simp only [rBo, if_neg c9, if_neg c21, if_neg c44, if_pos c68], by simp only [rBo, if_neg c9, if_neg c21, if_neg c44, if_pos c68]⟩
        · refine v_aload_n dX4_readBehindOne_71 rfl ?_
          refine v_iconst (1) dX4_readBehindOne_72 (by decide) ?_
          refine v_invVE (m_faulty g h hS) dX4_readBehindOne_73 cwX4_faulty mlX4_111 (ob_2 _) rfl rfl (by decide) (by decide) (Nat.le_of_ble_eq_true rfl) ?_
          refine v_ireturn dX4_readBehindOne_76 rfl rfl ?_
          exact ⟨by simp only [rBo, if_neg c9, if_neg c21, if_neg c44, if_neg c68], by simp only [rBo, if_neg c9, if_neg c21, if_neg c44, if_neg c68]⟩
      · refine v_aload_n dX4_readBehindOne_47 rfl ?_
        refine v_getR (some (3, 0)) fl_X4_12 dX4_readBehindOne_48 rfl rfl (Nat.le_of_ble_eq_true rfl) (xh_2_0 hS) (xr_2_0_1 hS) ?_
        refine v_invVE (m_endAny g h hS hW) dX4_readBehindOne_51 cwX10_endAny mlX4_149 (ob_3 _) rfl rfl (by decide) (by decide) (Nat.le_of_ble_eq_true rfl) ?_
        refine v_aload_n dX4_readBehindOne_54 rfl ?_
        refine v_invVE (m_readBc g (wEa h) (wEa_ok hS hW).1 (RIo hR (wEa_o h 5 (by decide) (by decide)))) dX4_readBehindOne_55 cwX4_readBehindChange mlX4_81 (ob_2 _) rfl rfl (by decide) (by decide) (Nat.le_of_ble_eq_true rfl) ?_
        refine v_ireturn dX4_readBehindOne_58 rfl rfl ?_
        exact ⟨by simp only [rBo, if_neg c9, if_neg c21, if_pos c44], by simp only [rBo, if_neg c9, if_neg c21, if_pos c44]⟩
    · refine v_aload_n dX4_readBehindOne_24 rfl ?_
      refine v_getR (some (3, 0)) fl_X4_12 dX4_readBehindOne_25 rfl rfl (Nat.le_of_ble_eq_true rfl) (xh_2_0 hS) (xr_2_0_1 hS) ?_
      refine v_aload_n dX4_readBehindOne_28 rfl ?_
      refine v_getR (some (1, 0)) fl_X4_28 dX4_readBehindOne_29 rfl rfl (Nat.le_of_ble_eq_true rfl) (xh_2_0 hS) (xr_2_0_0 hS) ?_
      refine v_getI fl_X4_108 dX4_readBehindOne_32 rfl rfl (Nat.le_of_ble_eq_true rfl) (xh_1_0 hS) ?_
      refine v_invVE (m_join g h hS hW) dX4_readBehindOne_35 cwX10_join mlX4_146 (ob_3 _) rfl rfl (by decide) (by decide) (Nat.le_of_ble_eq_true rfl) ?_
      refine v_iconst (4) dX4_readBehindOne_38 (by decide) ?_
      refine v_ireturn dX4_readBehindOne_39 rfl rfl ?_
      exact ⟨by simp only [rBo, if_neg c9, if_pos c21], by simp only [rBo, if_neg c9, if_pos c21]⟩
def teH (h : Hp) : Hp := sI h (2, 0) 8 (vi h (2, 0) 8 + 1)
def rTe1 (h : Hp) : Int32 × Hp := if vi (teH h) (2, 0) 8 ≤ 4 then (if vi (teH h) (1, 0) 5 = 2 then (9, sI (teH h) (2, 0) 13 (vi (teH h) (1, 0) 6)) else (11, wWr (teH h) (xMk 2 (vi (teH h) (1, 0) 6) 1))) else rFa (teH h) 4
def rTe (h : Hp) : Int32 × Hp := if vi h (1, 0) 5 = 2 then rTe1 h else if vi h (1, 0) 5 = 4 then rTe1 h else rNo h
set_option maxRecDepth 20000 in
theorem m_readTerm (g : G0) (h : Hp) (hS : SX h) (hW : WI h)  : Mx g yX4_readTerm wX4_readTerm 2 [pR (2, 0)] h 0 0 (qE (some (pI (rTe h).1)) (rTe h).2) noX := by
  refine Mx.by kfX4_readTerm rfl (by decide) (Nat.le_of_ble_eq_true rfl) ?_
  refine v_aload_n dX4_readTerm_0 rfl ?_
  refine v_getR (some (1, 0)) fl_X4_28 dX4_readTerm_1 rfl rfl (Nat.le_of_ble_eq_true rfl) (xh_2_0 hS) (xr_2_0_0 hS) ?_
  refine v_getI fl_X4_108 dX4_readTerm_4 rfl rfl (Nat.le_of_ble_eq_true rfl) (xh_1_0 hS) ?_
  refine v_iconst (2) dX4_readTerm_7 (by decide) ?_
  refine v_icmp_eq 27 dX4_readTerm_8 (by decide) (fun c8 => ?_) (fun c8 => ?_)
  · refine v_aload_n dX4_readTerm_27 rfl ?_
    refine v_dup dX4_readTerm_28 rfl ?_
    refine v_getI fl_X4_114 dX4_readTerm_29 rfl rfl (Nat.le_of_ble_eq_true rfl) (xh_2_0 hS) ?_
    refine v_iconst (1) dX4_readTerm_32 (by decide) ?_
    refine v_iadd dX4_readTerm_33 ?_
    refine v_putI fl_X4_114 (fun z => by cases z) dX4_readTerm_34 rfl rfl (Nat.le_of_ble_eq_true rfl) rfl rfl (xh_2_0 hS) ?_
    change V g _ _ _ _ _ _ _ (teH h) _ _
    refine v_aload_n dX4_readTerm_37 rfl ?_
    refine v_getI fl_X4_114 dX4_readTerm_38 rfl rfl (Nat.le_of_ble_eq_true rfl) (xh_2_0 hS) ?_
    refine v_iconst (4) dX4_readTerm_41 (by decide) ?_
    refine v_icmp_le 51 dX4_readTerm_42 (by decide) (fun c42 => ?_) (fun c42 => ?_)
    · refine v_aload_n dX4_readTerm_51 rfl ?_
      refine v_getR (some (1, 0)) fl_X4_28 dX4_readTerm_52 rfl rfl (Nat.le_of_ble_eq_true rfl) (xh_2_0 hS) (xr_2_0_0 hS) ?_
      refine v_getI fl_X4_108 dX4_readTerm_55 rfl rfl (Nat.le_of_ble_eq_true rfl) (xh_1_0 hS) ?_
      refine v_iconst (2) dX4_readTerm_58 (by decide) ?_
      refine v_icmp_ne 76 dX4_readTerm_59 (by decide) (fun c59 => ?_) (fun c59 => ?_)
      · refine v_aload_n dX4_readTerm_76 rfl ?_
        refine v_getR (some (3, 0)) fl_X4_12 dX4_readTerm_77 rfl rfl (Nat.le_of_ble_eq_true rfl) (xh_2_0 hS) (xr_2_0_1 hS) ?_
        refine v_iconst (2) dX4_readTerm_80 (by decide) ?_
        refine v_aload_n dX4_readTerm_81 rfl ?_
        refine v_getR (some (1, 0)) fl_X4_28 dX4_readTerm_82 rfl rfl (Nat.le_of_ble_eq_true rfl) (xh_2_0 hS) (xr_2_0_0 hS) ?_
        refine v_getI fl_X4_117 dX4_readTerm_85 rfl rfl (Nat.le_of_ble_eq_true rfl) (xh_1_0 hS) ?_
        refine v_iconst (1) dX4_readTerm_88 (by decide) ?_
        refine v_invSE (m_mk g _) dX4_readTerm_89 cwX0_step mlX4_135 rfl rfl (by decide) (by decide) (Nat.le_of_ble_eq_true rfl) ?_
        refine v_invVE (m_write g (teH h) hS (WIsI hW (by decide))) dX4_readTerm_92 cwX10_write mlX4_140 (ob_3 _) rfl rfl (by decide) (by decide) (Nat.le_of_ble_eq_true rfl) ?_
        refine v_bipush (11) dX4_readTerm_95 (by decide) ?_
        refine v_ireturn dX4_readTerm_97 rfl rfl ?_
        exact ⟨by simp only [rTe, rTe1, if_pos c8, if_pos c42, if_neg c59], by simp only [rTe, rTe1, if_pos c8, if_pos c42, if_neg c59]⟩
      · refine v_aload_n dX4_readTerm_62 rfl ?_
        refine v_aload_n dX4_readTerm_63 rfl ?_
        refine v_getR (some (1, 0)) fl_X4_28 dX4_readTerm_64 rfl rfl (Nat.le_of_ble_eq_true rfl) (xh_2_0 hS) (xr_2_0_0 hS) ?_
        refine v_getI fl_X4_117 dX4_readTerm_67 rfl rfl (Nat.le_of_ble_eq_true rfl) (xh_1_0 hS) ?_
        refine v_putI fl_X4_155 (fun z => by cases z) dX4_readTerm_70 rfl rfl (Nat.le_of_ble_eq_true rfl) rfl rfl (xh_2_0 hS) ?_
        refine v_bipush (9) dX4_readTerm_73 (by decide) ?_
        refine v_ireturn dX4_readTerm_75 rfl rfl ?_
        exact ⟨by simp only [rTe, rTe1, if_pos c8, if_pos c42, if_pos c59], by simp only [rTe, rTe1, if_pos c8, if_pos c42, if_pos c59]⟩
    · refine v_aload_n dX4_readTerm_45 rfl ?_
      refine v_iconst (4) dX4_readTerm_46 (by decide) ?_
      refine v_invVE (m_faulty g (teH h) hS) dX4_readTerm_47 cwX4_faulty mlX4_111 (ob_2 _) rfl rfl (by decide) (by decide) (Nat.le_of_ble_eq_true rfl) ?_
      refine v_ireturn dX4_readTerm_50 rfl rfl ?_
      exact ⟨by simp only [rTe, rTe1, if_pos c8, if_neg c42], by simp only [rTe, rTe1, if_pos c8, if_neg c42]⟩
  · refine v_aload_n dX4_readTerm_11 rfl ?_
    refine v_getR (some (1, 0)) fl_X4_28 dX4_readTerm_12 rfl rfl (Nat.le_of_ble_eq_true rfl) (xh_2_0 hS) (xr_2_0_0 hS) ?_
    refine v_getI fl_X4_108 dX4_readTerm_15 rfl rfl (Nat.le_of_ble_eq_true rfl) (xh_1_0 hS) ?_
    refine v_iconst (4) dX4_readTerm_18 (by decide) ?_
    refine v_icmp_eq 27 dX4_readTerm_19 (by decide) (fun c19 => ?_) (fun c19 => ?_)
    · refine v_aload_n dX4_readTerm_27 rfl ?_
      refine v_dup dX4_readTerm_28 rfl ?_
      refine v_getI fl_X4_114 dX4_readTerm_29 rfl rfl (Nat.le_of_ble_eq_true rfl) (xh_2_0 hS) ?_
      refine v_iconst (1) dX4_readTerm_32 (by decide) ?_
      refine v_iadd dX4_readTerm_33 ?_
      refine v_putI fl_X4_114 (fun z => by cases z) dX4_readTerm_34 rfl rfl (Nat.le_of_ble_eq_true rfl) rfl rfl (xh_2_0 hS) ?_
      change V g _ _ _ _ _ _ _ (teH h) _ _
      refine v_aload_n dX4_readTerm_37 rfl ?_
      refine v_getI fl_X4_114 dX4_readTerm_38 rfl rfl (Nat.le_of_ble_eq_true rfl) (xh_2_0 hS) ?_
      refine v_iconst (4) dX4_readTerm_41 (by decide) ?_
      refine v_icmp_le 51 dX4_readTerm_42 (by decide) (fun c42 => ?_) (fun c42 => ?_)
      · refine v_aload_n dX4_readTerm_51 rfl ?_
        refine v_getR (some (1, 0)) fl_X4_28 dX4_readTerm_52 rfl rfl (Nat.le_of_ble_eq_true rfl) (xh_2_0 hS) (xr_2_0_0 hS) ?_
        refine v_getI fl_X4_108 dX4_readTerm_55 rfl rfl (Nat.le_of_ble_eq_true rfl) (xh_1_0 hS) ?_
        refine v_iconst (2) dX4_readTerm_58 (by decide) ?_
        refine v_icmp_ne 76 dX4_readTerm_59 (by decide) (fun c59 => ?_) (fun c59 => ?_)
        · refine v_aload_n dX4_readTerm_76 rfl ?_
          refine v_getR (some (3, 0)) fl_X4_12 dX4_readTerm_77 rfl rfl (Nat.le_of_ble_eq_true rfl) (xh_2_0 hS) (xr_2_0_1 hS) ?_
          refine v_iconst (2) dX4_readTerm_80 (by decide) ?_
          refine v_aload_n dX4_readTerm_81 rfl ?_
          refine v_getR (some (1, 0)) fl_X4_28 dX4_readTerm_82 rfl rfl (Nat.le_of_ble_eq_true rfl) (xh_2_0 hS) (xr_2_0_0 hS) ?_
          refine v_getI fl_X4_117 dX4_readTerm_85 rfl rfl (Nat.le_of_ble_eq_true rfl) (xh_1_0 hS) ?_
          refine v_iconst (1) dX4_readTerm_88 (by decide) ?_
          refine v_invSE (m_mk g _) dX4_readTerm_89 cwX0_step mlX4_135 rfl rfl (by decide) (by decide) (Nat.le_of_ble_eq_true rfl) ?_
          refine v_invVE (m_write g (teH h) hS (WIsI hW (by decide))) dX4_readTerm_92 cwX10_write mlX4_140 (ob_3 _) rfl rfl (by decide) (by decide) (Nat.le_of_ble_eq_true rfl) ?_
          refine v_bipush (11) dX4_readTerm_95 (by decide) ?_
          refine v_ireturn dX4_readTerm_97 rfl rfl ?_
          exact ⟨by simp only [rTe, rTe1, if_neg c8, if_pos c19, if_pos c42, if_neg c59], by simp only [rTe, rTe1, if_neg c8, if_pos c19, if_pos c42, if_neg c59]⟩
        · refine v_aload_n dX4_readTerm_62 rfl ?_
          refine v_aload_n dX4_readTerm_63 rfl ?_
          refine v_getR (some (1, 0)) fl_X4_28 dX4_readTerm_64 rfl rfl (Nat.le_of_ble_eq_true rfl) (xh_2_0 hS) (xr_2_0_0 hS) ?_
          refine v_getI fl_X4_117 dX4_readTerm_67 rfl rfl (Nat.le_of_ble_eq_true rfl) (xh_1_0 hS) ?_
          refine v_putI fl_X4_155 (fun z => by cases z) dX4_readTerm_70 rfl rfl (Nat.le_of_ble_eq_true rfl) rfl rfl (xh_2_0 hS) ?_
          refine v_bipush (9) dX4_readTerm_73 (by decide) ?_
          refine v_ireturn dX4_readTerm_75 rfl rfl ?_
          exact ⟨by simp only [rTe, rTe1, if_neg c8, if_pos c19, if_pos c42, if_pos c59], by simp only [rTe, rTe1, if_neg c8, if_pos c19, if_pos c42, if_pos c59]⟩
      · refine v_aload_n dX4_readTerm_45 rfl ?_
        refine v_iconst (4) dX4_readTerm_46 (by decide) ?_
        refine v_invVE (m_faulty g (teH h) hS) dX4_readTerm_47 cwX4_faulty mlX4_111 (ob_2 _) rfl rfl (by decide) (by decide) (Nat.le_of_ble_eq_true rfl) ?_
        refine v_ireturn dX4_readTerm_50 rfl rfl ?_
        exact ⟨by simp only [rTe, rTe1, if_neg c8, if_pos c19, if_neg c42], by simp only [rTe, rTe1, if_neg c8, if_pos c19, if_neg c42]⟩
    · refine v_aload_n dX4_readTerm_22 rfl ?_
      refine v_invVE (m_noName g h hS) dX4_readTerm_23 cwX4_noName mlX4_129 (ob_2 _) rfl rfl (by decide) (by decide) (Nat.le_of_ble_eq_true rfl) ?_
      refine v_ireturn dX4_readTerm_26 rfl rfl ?_
      exact ⟨by simp only [rTe, rTe1, if_neg c8, if_neg c19], by simp only [rTe, rTe1, if_neg c8, if_neg c19]⟩
def rBt (h : Hp) : Int32 × Hp := if vi h (1, 0) 5 = 43 then (8, h) else rBc h
def rBn (h : Hp) : Int32 × Hp := if vi h (1, 0) 5 = 42 then (10, h) else rBt (wWr h (xMk 2 5 (vi h (2, 0) 13)))
def rFc (h : Hp) : Int32 × Hp := if vi h (1, 0) 5 = 4 then (11, wWr h (xMk 2 (vi h (1, 0) 6) (vi h (2, 0) 13))) else rNo h
set_option maxRecDepth 20000 in
theorem m_readBt (g : G0) (h : Hp) (hS : SX h) (hR : RI h)  : Mx g yX4_readBehindTerm wX4_readBehindTerm 2 [pR (2, 0)] h 0 0 (qE (some (pI (rBt h).1)) (rBt h).2) noX := by
  refine Mx.by kfX4_readBehindTerm rfl (by decide) (Nat.le_of_ble_eq_true rfl) ?_
  refine v_aload_n dX4_readBehindTerm_0 rfl ?_
  refine v_getR (some (1, 0)) fl_X4_28 dX4_readBehindTerm_1 rfl rfl (Nat.le_of_ble_eq_true rfl) (xh_2_0 hS) (xr_2_0_0 hS) ?_
  refine v_getI fl_X4_108 dX4_readBehindTerm_4 rfl rfl (Nat.le_of_ble_eq_true rfl) (xh_1_0 hS) ?_
  refine v_bipush (43) dX4_readBehindTerm_7 (by decide) ?_
  refine v_icmp_ne 17 dX4_readBehindTerm_9 (by decide) (fun c9 => ?_) (fun c9 => ?_)
  · refine v_aload_n dX4_readBehindTerm_17 rfl ?_
    refine v_invVE (m_readBc g h hS hR) dX4_readBehindTerm_18 cwX4_readBehindChange mlX4_81 (ob_2 _) rfl rfl (by decide) (by decide) (Nat.le_of_ble_eq_true rfl) ?_
    refine v_ireturn dX4_readBehindTerm_21 rfl rfl ?_
    exact ⟨by simp only [rBt, if_neg c9], by simp only [rBt, if_neg c9]⟩
  · refine v_bipush (8) dX4_readBehindTerm_12 (by decide) ?_
    refine v_goto 21 dX4_readBehindTerm_14 (by decide) ?_
    refine v_ireturn dX4_readBehindTerm_21 rfl rfl ?_
    exact ⟨by simp only [rBt, if_pos c9], by simp only [rBt, if_pos c9]⟩
set_option maxRecDepth 20000 in
theorem m_readBn (g : G0) (h : Hp) (hS : SX h) (hW : WI h) (hR : RI h)  : Mx g yX4_readBehindNumber wX4_readBehindNumber 3 [pR (2, 0)] h 0 0 (qE (some (pI (rBn h).1)) (rBn h).2) noX := by
  refine Mx.by kfX4_readBehindNumber rfl (by decide) (Nat.le_of_ble_eq_true rfl) ?_
  refine v_aload_n dX4_readBehindNumber_0 rfl ?_
  refine v_getR (some (1, 0)) fl_X4_28 dX4_readBehindNumber_1 rfl rfl (Nat.le_of_ble_eq_true rfl) (xh_2_0 hS) (xr_2_0_0 hS) ?_
  refine v_getI fl_X4_108 dX4_readBehindNumber_4 rfl rfl (Nat.le_of_ble_eq_true rfl) (xh_1_0 hS) ?_
  refine v_bipush (42) dX4_readBehindNumber_7 (by decide) ?_
  refine v_icmp_ne 15 dX4_readBehindNumber_9 (by decide) (fun c9 => ?_) (fun c9 => ?_)
  · refine v_aload_n dX4_readBehindNumber_15 rfl ?_
    refine v_getR (some (3, 0)) fl_X4_12 dX4_readBehindNumber_16 rfl rfl (Nat.le_of_ble_eq_true rfl) (xh_2_0 hS) (xr_2_0_1 hS) ?_
    refine v_iconst (2) dX4_readBehindNumber_19 (by decide) ?_
    refine v_iconst (5) dX4_readBehindNumber_20 (by decide) ?_
    refine v_aload_n dX4_readBehindNumber_21 rfl ?_
    refine v_getI fl_X4_155 dX4_readBehindNumber_22 rfl rfl (Nat.le_of_ble_eq_true rfl) (xh_2_0 hS) ?_
    refine v_invSE (m_mk g h) dX4_readBehindNumber_25 cwX0_step mlX4_135 rfl rfl (by decide) (by decide) (Nat.le_of_ble_eq_true rfl) ?_
    refine v_invVE (m_write g h hS hW) dX4_readBehindNumber_28 cwX10_write mlX4_140 (ob_3 _) rfl rfl (by decide) (by decide) (Nat.le_of_ble_eq_true rfl) ?_
    refine v_aload_n dX4_readBehindNumber_31 rfl ?_
    refine v_invVE (m_readBt g _ (SXwr hS _) (RIo hR (wWr_o h _ 5 (by decide) (by decide)))) dX4_readBehindNumber_32 cwX4_readBehindTerm mlX4_105 (ob_2 _) rfl rfl (by decide) (by decide) (Nat.le_of_ble_eq_true rfl) ?_
    refine v_ireturn dX4_readBehindNumber_35 rfl rfl ?_
    exact ⟨by simp only [rBn, if_neg c9], by simp only [rBn, if_neg c9]⟩
  · refine v_bipush (10) dX4_readBehindNumber_12 (by decide) ?_
    refine v_ireturn dX4_readBehindNumber_14 rfl rfl ?_
    exact ⟨by simp only [rBn, if_pos c9], by simp only [rBn, if_pos c9]⟩
set_option maxRecDepth 20000 in
theorem m_readFc (g : G0) (h : Hp) (hS : SX h) (hW : WI h)  : Mx g yX4_readFactor wX4_readFactor 2 [pR (2, 0)] h 0 0 (qE (some (pI (rFc h).1)) (rFc h).2) noX := by
  refine Mx.by kfX4_readFactor rfl (by decide) (Nat.le_of_ble_eq_true rfl) ?_
  refine v_aload_n dX4_readFactor_0 rfl ?_
  refine v_getR (some (1, 0)) fl_X4_28 dX4_readFactor_1 rfl rfl (Nat.le_of_ble_eq_true rfl) (xh_2_0 hS) (xr_2_0_0 hS) ?_
  refine v_getI fl_X4_108 dX4_readFactor_4 rfl rfl (Nat.le_of_ble_eq_true rfl) (xh_1_0 hS) ?_
  refine v_iconst (4) dX4_readFactor_7 (by decide) ?_
  refine v_icmp_eq 16 dX4_readFactor_8 (by decide) (fun c8 => ?_) (fun c8 => ?_)
  · refine v_aload_n dX4_readFactor_16 rfl ?_
    refine v_getR (some (3, 0)) fl_X4_12 dX4_readFactor_17 rfl rfl (Nat.le_of_ble_eq_true rfl) (xh_2_0 hS) (xr_2_0_1 hS) ?_
    refine v_iconst (2) dX4_readFactor_20 (by decide) ?_
    refine v_aload_n dX4_readFactor_21 rfl ?_
    refine v_getR (some (1, 0)) fl_X4_28 dX4_readFactor_22 rfl rfl (Nat.le_of_ble_eq_true rfl) (xh_2_0 hS) (xr_2_0_0 hS) ?_
    refine v_getI fl_X4_117 dX4_readFactor_25 rfl rfl (Nat.le_of_ble_eq_true rfl) (xh_1_0 hS) ?_
    refine v_aload_n dX4_readFactor_28 rfl ?_
    refine v_getI fl_X4_155 dX4_readFactor_29 rfl rfl (Nat.le_of_ble_eq_true rfl) (xh_2_0 hS) ?_
    refine v_invSE (m_mk g h) dX4_readFactor_32 cwX0_step mlX4_135 rfl rfl (by decide) (by decide) (Nat.le_of_ble_eq_true rfl) ?_
    refine v_invVE (m_write g h hS hW) dX4_readFactor_35 cwX10_write mlX4_140 (ob_3 _) rfl rfl (by decide) (by decide) (Nat.le_of_ble_eq_true rfl) ?_
    refine v_bipush (11) dX4_readFactor_38 (by decide) ?_
    refine v_ireturn dX4_readFactor_40 rfl rfl ?_
    exact ⟨by simp only [rFc, if_pos c8], by simp only [rFc, if_pos c8]⟩
  · refine v_aload_n dX4_readFactor_11 rfl ?_
    refine v_invVE (m_noName g h hS) dX4_readFactor_12 cwX4_noName mlX4_129 (ob_2 _) rfl rfl (by decide) (by decide) (Nat.le_of_ble_eq_true rfl) ?_
    refine v_ireturn dX4_readFactor_15 rfl rfl ?_
    exact ⟨by simp only [rFc, if_neg c8], by simp only [rFc, if_neg c8]⟩
def rSt (h : Hp) (s : Nat) : Int32 × Hp := match s with
  | 0 => rCh h
  | 1 => rCn h 4
  | 2 => rCn h 3
  | 3 => rBc h
  | 4 => rOn h
  | 5 => rSg h
  | 6 => rVa h
  | 7 => rBo h
  | 8 => rTe h
  | 9 => rBn h
  | 10 => rFc h
  | 11 => rBt h
  | _ => (12, h)
set_option maxRecDepth 20000 in
theorem m_step0 (g : G0) (h : Hp) (hS : SX h) (hW : WI h) (hR : RI h) : Mx g yX4_step wX4_step 4 [pR (2, 0), pI (nI 0)] h 0 0 (qE (some (pI (rSt h 0).1)) (rSt h 0).2) noX := by
  refine Mx.by kfX4_step rfl (by decide) (Nat.le_of_ble_eq_true rfl) ?_
  refine v_iload_n dX4_step_0 rfl ?_
  refine v_tableIn 64 dX4_step_1 (by decide) (by decide) (by rfl) (by decide) ?_
  refine v_aload_n dX4_step_64 rfl ?_
  refine v_invVE (m_readChange g h hS hR) dX4_step_65 cwX4_readChange mlX4_74 (ob_2 _) rfl rfl (by decide) (by decide) (Nat.le_of_ble_eq_true rfl) ?_
  refine v_ireturn dX4_step_68 rfl rfl ?_
  exact ⟨rfl, rfl⟩
set_option maxRecDepth 20000 in
theorem m_step1 (g : G0) (h : Hp) (hS : SX h) (hW : WI h) (hR : RI h) : Mx g yX4_step wX4_step 4 [pR (2, 0), pI (nI 1)] h 0 0 (qE (some (pI (rSt h 1).1)) (rSt h 1).2) noX := by
  refine Mx.by kfX4_step rfl (by decide) (Nat.le_of_ble_eq_true rfl) ?_
  refine v_iload_n dX4_step_0 rfl ?_
  refine v_tableIn 69 dX4_step_1 (by decide) (by decide) (by rfl) (by decide) ?_
  refine v_aload_n dX4_step_69 rfl ?_
  refine v_iconst (4) dX4_step_70 (by decide) ?_
  refine v_invVE (m_readCn g h hS hR) dX4_step_71 cwX4_readClauseNumber mlX4_78 (ob_2 _) rfl rfl (by decide) (by decide) (Nat.le_of_ble_eq_true rfl) ?_
  refine v_ireturn dX4_step_74 rfl rfl ?_
  exact ⟨rfl, rfl⟩
set_option maxRecDepth 20000 in
theorem m_step2 (g : G0) (h : Hp) (hS : SX h) (hW : WI h) (hR : RI h) : Mx g yX4_step wX4_step 4 [pR (2, 0), pI (nI 2)] h 0 0 (qE (some (pI (rSt h 2).1)) (rSt h 2).2) noX := by
  refine Mx.by kfX4_step rfl (by decide) (Nat.le_of_ble_eq_true rfl) ?_
  refine v_iload_n dX4_step_0 rfl ?_
  refine v_tableIn 75 dX4_step_1 (by decide) (by decide) (by rfl) (by decide) ?_
  refine v_aload_n dX4_step_75 rfl ?_
  refine v_iconst (3) dX4_step_76 (by decide) ?_
  refine v_invVE (m_readCn g h hS hR) dX4_step_77 cwX4_readClauseNumber mlX4_78 (ob_2 _) rfl rfl (by decide) (by decide) (Nat.le_of_ble_eq_true rfl) ?_
  refine v_ireturn dX4_step_80 rfl rfl ?_
  exact ⟨rfl, rfl⟩
set_option maxRecDepth 20000 in
theorem m_step3 (g : G0) (h : Hp) (hS : SX h) (hW : WI h) (hR : RI h) : Mx g yX4_step wX4_step 4 [pR (2, 0), pI (nI 3)] h 0 0 (qE (some (pI (rSt h 3).1)) (rSt h 3).2) noX := by
  refine Mx.by kfX4_step rfl (by decide) (Nat.le_of_ble_eq_true rfl) ?_
  refine v_iload_n dX4_step_0 rfl ?_
  refine v_tableIn 81 dX4_step_1 (by decide) (by decide) (by rfl) (by decide) ?_
  refine v_aload_n dX4_step_81 rfl ?_
  refine v_invVE (m_readBc g h hS hR) dX4_step_82 cwX4_readBehindChange mlX4_81 (ob_2 _) rfl rfl (by decide) (by decide) (Nat.le_of_ble_eq_true rfl) ?_
  refine v_ireturn dX4_step_85 rfl rfl ?_
  exact ⟨rfl, rfl⟩
set_option maxRecDepth 20000 in
theorem m_step4 (g : G0) (h : Hp) (hS : SX h) (hW : WI h) (hR : RI h) : Mx g yX4_step wX4_step 4 [pR (2, 0), pI (nI 4)] h 0 0 (qE (some (pI (rSt h 4).1)) (rSt h 4).2) noX := by
  refine Mx.by kfX4_step rfl (by decide) (Nat.le_of_ble_eq_true rfl) ?_
  refine v_iload_n dX4_step_0 rfl ?_
  refine v_tableIn 86 dX4_step_1 (by decide) (by decide) (by rfl) (by decide) ?_
  refine v_aload_n dX4_step_86 rfl ?_
  refine v_invVE (m_readOne g h hS hW) dX4_step_87 cwX4_readOne mlX4_84 (ob_2 _) rfl rfl (by decide) (by decide) (Nat.le_of_ble_eq_true rfl) ?_
  refine v_ireturn dX4_step_90 rfl rfl ?_
  exact ⟨rfl, rfl⟩
set_option maxRecDepth 20000 in
theorem m_step5 (g : G0) (h : Hp) (hS : SX h) (hW : WI h) (hR : RI h) : Mx g yX4_step wX4_step 4 [pR (2, 0), pI (nI 5)] h 0 0 (qE (some (pI (rSt h 5).1)) (rSt h 5).2) noX := by
  refine Mx.by kfX4_step rfl (by decide) (Nat.le_of_ble_eq_true rfl) ?_
  refine v_iload_n dX4_step_0 rfl ?_
  refine v_tableIn 91 dX4_step_1 (by decide) (by decide) (by rfl) (by decide) ?_
  refine v_aload_n dX4_step_91 rfl ?_
  refine v_invVE (m_readSign g h hS) dX4_step_92 cwX4_readSign mlX4_87 (ob_2 _) rfl rfl (by decide) (by decide) (Nat.le_of_ble_eq_true rfl) ?_
  refine v_ireturn dX4_step_95 rfl rfl ?_
  exact ⟨rfl, rfl⟩
set_option maxRecDepth 20000 in
theorem m_step6 (g : G0) (h : Hp) (hS : SX h) (hW : WI h) (hR : RI h) : Mx g yX4_step wX4_step 4 [pR (2, 0), pI (nI 6)] h 0 0 (qE (some (pI (rSt h 6).1)) (rSt h 6).2) noX := by
  refine Mx.by kfX4_step rfl (by decide) (Nat.le_of_ble_eq_true rfl) ?_
  refine v_iload_n dX4_step_0 rfl ?_
  refine v_tableIn 96 dX4_step_1 (by decide) (by decide) (by rfl) (by decide) ?_
  refine v_aload_n dX4_step_96 rfl ?_
  refine v_invVE (m_readValue g h hS hW) dX4_step_97 cwX4_readValue mlX4_90 (ob_2 _) rfl rfl (by decide) (by decide) (Nat.le_of_ble_eq_true rfl) ?_
  refine v_ireturn dX4_step_100 rfl rfl ?_
  exact ⟨rfl, rfl⟩
set_option maxRecDepth 20000 in
theorem m_step7 (g : G0) (h : Hp) (hS : SX h) (hW : WI h) (hR : RI h) : Mx g yX4_step wX4_step 4 [pR (2, 0), pI (nI 7)] h 0 0 (qE (some (pI (rSt h 7).1)) (rSt h 7).2) noX := by
  refine Mx.by kfX4_step rfl (by decide) (Nat.le_of_ble_eq_true rfl) ?_
  refine v_iload_n dX4_step_0 rfl ?_
  refine v_tableIn 101 dX4_step_1 (by decide) (by decide) (by rfl) (by decide) ?_
  refine v_aload_n dX4_step_101 rfl ?_
  refine v_invVE (m_readBo g h hS hW hR) dX4_step_102 cwX4_readBehindOne mlX4_93 (ob_2 _) rfl rfl (by decide) (by decide) (Nat.le_of_ble_eq_true rfl) ?_
  refine v_ireturn dX4_step_105 rfl rfl ?_
  exact ⟨rfl, rfl⟩
set_option maxRecDepth 20000 in
theorem m_step8 (g : G0) (h : Hp) (hS : SX h) (hW : WI h) (hR : RI h) : Mx g yX4_step wX4_step 4 [pR (2, 0), pI (nI 8)] h 0 0 (qE (some (pI (rSt h 8).1)) (rSt h 8).2) noX := by
  refine Mx.by kfX4_step rfl (by decide) (Nat.le_of_ble_eq_true rfl) ?_
  refine v_iload_n dX4_step_0 rfl ?_
  refine v_tableIn 106 dX4_step_1 (by decide) (by decide) (by rfl) (by decide) ?_
  refine v_aload_n dX4_step_106 rfl ?_
  refine v_invVE (m_readTerm g h hS hW) dX4_step_107 cwX4_readTerm mlX4_96 (ob_2 _) rfl rfl (by decide) (by decide) (Nat.le_of_ble_eq_true rfl) ?_
  refine v_ireturn dX4_step_110 rfl rfl ?_
  exact ⟨rfl, rfl⟩
set_option maxRecDepth 20000 in
theorem m_step9 (g : G0) (h : Hp) (hS : SX h) (hW : WI h) (hR : RI h) : Mx g yX4_step wX4_step 4 [pR (2, 0), pI (nI 9)] h 0 0 (qE (some (pI (rSt h 9).1)) (rSt h 9).2) noX := by
  refine Mx.by kfX4_step rfl (by decide) (Nat.le_of_ble_eq_true rfl) ?_
  refine v_iload_n dX4_step_0 rfl ?_
  refine v_tableIn 111 dX4_step_1 (by decide) (by decide) (by rfl) (by decide) ?_
  refine v_aload_n dX4_step_111 rfl ?_
  refine v_invVE (m_readBn g h hS hW hR) dX4_step_112 cwX4_readBehindNumber mlX4_99 (ob_2 _) rfl rfl (by decide) (by decide) (Nat.le_of_ble_eq_true rfl) ?_
  refine v_ireturn dX4_step_115 rfl rfl ?_
  exact ⟨rfl, rfl⟩
set_option maxRecDepth 20000 in
theorem m_step10 (g : G0) (h : Hp) (hS : SX h) (hW : WI h) (hR : RI h) : Mx g yX4_step wX4_step 4 [pR (2, 0), pI (nI 10)] h 0 0 (qE (some (pI (rSt h 10).1)) (rSt h 10).2) noX := by
  refine Mx.by kfX4_step rfl (by decide) (Nat.le_of_ble_eq_true rfl) ?_
  refine v_iload_n dX4_step_0 rfl ?_
  refine v_tableIn 116 dX4_step_1 (by decide) (by decide) (by rfl) (by decide) ?_
  refine v_aload_n dX4_step_116 rfl ?_
  refine v_invVE (m_readFc g h hS hW) dX4_step_117 cwX4_readFactor mlX4_102 (ob_2 _) rfl rfl (by decide) (by decide) (Nat.le_of_ble_eq_true rfl) ?_
  refine v_ireturn dX4_step_120 rfl rfl ?_
  exact ⟨rfl, rfl⟩
set_option maxRecDepth 20000 in
theorem m_step11 (g : G0) (h : Hp) (hS : SX h) (hW : WI h) (hR : RI h) : Mx g yX4_step wX4_step 4 [pR (2, 0), pI (nI 11)] h 0 0 (qE (some (pI (rSt h 11).1)) (rSt h 11).2) noX := by
  refine Mx.by kfX4_step rfl (by decide) (Nat.le_of_ble_eq_true rfl) ?_
  refine v_iload_n dX4_step_0 rfl ?_
  refine v_tableIn 121 dX4_step_1 (by decide) (by decide) (by rfl) (by decide) ?_
  refine v_aload_n dX4_step_121 rfl ?_
  refine v_invVE (m_readBt g h hS hR) dX4_step_122 cwX4_readBehindTerm mlX4_105 (ob_2 _) rfl rfl (by decide) (by decide) (Nat.le_of_ble_eq_true rfl) ?_
  refine v_ireturn dX4_step_125 rfl rfl ?_
  exact ⟨rfl, rfl⟩
theorem m_step (g : G0) (h : Hp) (hS : SX h) (hW : WI h) (hR : RI h) {k : Nat} (hk : k < 12) : Mx g yX4_step wX4_step 4 [pR (2, 0), pI (nI k)] h 0 0 (qE (some (pI (rSt h k).1)) (rSt h k).2) noX := by
  have : k = 0 ∨ k = 1 ∨ k = 2 ∨ k = 3 ∨ k = 4 ∨ k = 5 ∨ k = 6 ∨ k = 7 ∨ k = 8 ∨ k = 9 ∨ k = 10 ∨ k = 11 := by omega
  rcases this with rfl | rfl | rfl | rfl | rfl | rfl | rfl | rfl | rfl | rfl | rfl | rfl
  · exact m_step0 g h hS hW hR
  · exact m_step1 g h hS hW hR
  · exact m_step2 g h hS hW hR
  · exact m_step3 g h hS hW hR
  · exact m_step4 g h hS hW hR
  · exact m_step5 g h hS hW hR
  · exact m_step6 g h hS hW hR
  · exact m_step7 g h hS hW hR
  · exact m_step8 g h hS hW hR
  · exact m_step9 g h hS hW hR
  · exact m_step10 g h hS hW hR
  · exact m_step11 g h hS hW hR
