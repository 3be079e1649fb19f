def RI (h : Hp) : Prop := ∃ c, c ≤ 12 ∧ vi h (2, 0) 5 = nI c
theorem wWr_o (h : Hp) (x : Int32) {a : Ad} (f : Nat) (h3 : a ≠ (3, 0)) (h1 : a ≠ (13, 1)) : vi (wWr h x) a f = vi h a f := by
  unfold wWr; split
  · rfl
  · rw [vi_sI_ne _ _ _ _ h3, vi_sI_ne _ _ _ _ h1]
theorem wHo_o (h : Hp) (x : Int32) {a : Ad} (f : Nat) (h3 : a ≠ (3, 0)) (h1 : a ≠ (13, 2)) : vi (wHo h x) a f = vi h a f := by
  unfold wHo; split
  · rfl
  · rw [vi_sI_ne _ _ _ _ h3, vi_sI_ne _ _ _ _ h1]
theorem wRe_o (x : Int32) {a : Ad} (f : Nat) (h3 : a ≠ (3, 0)) (h1 : a ≠ (13, 1)) : ∀ (n : Nat) (h : Hp), vi (wRe x n h) a f = vi h a f
  | 0, _ => rfl
  | n + 1, h => by
    rw [wRe]
    split
    · rw [wRe_o x f h3 h1 n, wWr_o _ _ _ h3 h1, vi_sI_ne _ _ _ _ h3]
    · rfl
theorem wRel_o (h : Hp) (x : Int32) {a : Ad} (f : Nat) (h3 : a ≠ (3, 0)) (h1 : a ≠ (13, 1)) : vi (wRel h x) a f = vi h a f := wRe_o x f h3 h1 _ h
theorem wEa_o (h : Hp) {a : Ad} (f : Nat) (h3 : a ≠ (3, 0)) (h1 : a ≠ (13, 1)) : vi (wEa h) a f = vi h a f := by unfold wEa; rw [wRel_o _ _ _ h3 h1, wRel_o _ _ _ h3 h1]
theorem wPop_o (h : Hp) {a : Ad} (f : Nat) (h3 : a ≠ (3, 0)) : vi (wPop h) a f = vi h a f := by
  unfold wPop; split
  · rfl
  · rw [vi_sI_ne _ _ _ _ h3]
theorem wCb_o (h : Hp) {a : Ad} (f : Nat) (h3 : a ≠ (3, 0)) (h1 : a ≠ (13, 1)) : vi (wCb h) a f = vi h a f := by unfold wCb; rw [wRel_o _ _ _ h3 h1, wPop_o _ _ h3, wEa_o _ _ h3 h1]
def XR (h : Hp) : Prop := SX h ∧ WI h ∧ RI h
def rFa (h : Hp) (w : Int32) : Int32 × Hp := (12, sI h (2, 0) 6 w)
def rNo (h : Hp) : Int32 × Hp := rFa h (if vi h (1, 0) 5 = 3 then 2 else 1)
set_option maxRecDepth 20000 in
theorem m_faulty (g : G0) (h : Hp) (hS : SX h) {w : Int32} : Mx g yX4_faulty wX4_faulty 0 [pR (2, 0), pI w] h 0 0 (qE (some (pI (rFa h w).1)) (rFa h w).2) noX := by
  refine Mx.by kfX4_faulty rfl (by decide) (Nat.le_of_ble_eq_true rfl) ?_
  refine v_aload_n dX4_faulty_0 rfl ?_
  refine v_iload_n dX4_faulty_1 rfl ?_
  refine v_putI fl_X4_48 (fun z => by cases z) dX4_faulty_2 rfl rfl (Nat.le_of_ble_eq_true rfl) rfl rfl (xh_2_0 hS) ?_
  refine v_bipush (12) dX4_faulty_5 (by decide) ?_
  refine v_ireturn dX4_faulty_7 rfl rfl ?_
  exact ⟨rfl, rfl⟩
set_option maxRecDepth 20000 in
theorem m_noName (g : G0) (h : Hp) (hS : SX h)  : Mx g yX4_noName wX4_noName 1 [pR (2, 0)] h 0 0 (qE (some (pI (rNo h).1)) (rNo h).2) noX := by
  refine Mx.by kfX4_noName rfl (by decide) (Nat.le_of_ble_eq_true rfl) ?_
  refine v_aload_n dX4_noName_0 rfl ?_
  refine v_aload_n dX4_noName_1 rfl ?_
  refine v_getR (some (1, 0)) fl_X4_28 dX4_noName_2 rfl rfl (Nat.le_of_ble_eq_true rfl) (xh_2_0 hS) (xr_2_0_0 hS) ?_
  refine v_getI fl_X4_108 dX4_noName_5 rfl rfl (Nat.le_of_ble_eq_true rfl) (xh_1_0 hS) ?_
  refine v_iconst (3) dX4_noName_8 (by decide) ?_
  refine v_icmp_ne 16 dX4_noName_9 (by decide) (fun c9 => ?_) (fun c9 => ?_)
  · refine v_iconst (1) dX4_noName_16 (by decide) ?_
    refine v_invVE (m_faulty g h hS) dX4_noName_17 cwX4_faulty mlX4_111 (ob_2 _) rfl rfl (by decide) (by decide) (Nat.le_of_ble_eq_true rfl) ?_
    refine v_ireturn dX4_noName_20 rfl rfl ?_
    exact ⟨by simp only [rNo, if_neg c9], by simp only [rNo, if_neg c9]⟩
  · refine v_iconst (2) dX4_noName_12 (by decide) ?_
    refine v_goto 17 dX4_noName_13 (by decide) ?_
    refine v_invVE (m_faulty g h hS) dX4_noName_17 cwX4_faulty mlX4_111 (ob_2 _) rfl rfl (by decide) (by decide) (Nat.le_of_ble_eq_true rfl) ?_
    refine v_ireturn dX4_noName_20 rfl rfl ?_
    exact ⟨by simp only [rNo, if_pos c9], by simp only [rNo, if_pos c9]⟩
def chH (h : Hp) : Hp := sI (sI (sI (sI h (13, 3) (vi h (2, 0) 5).toNatClampNeg (vi h (1, 0) 5)) (13, 4) (vi h (2, 0) 5).toNatClampNeg 0) (2, 0) 5 (vi h (2, 0) 5 + 1)) (2, 0) 8 0
def rCh1 (h : Hp) : Int32 × Hp := if vi h (2, 0) 5 < 12 then (if vi h (1, 0) 5 = 7 then (8, chH h) else if vi h (1, 0) 5 = 5 then (1, chH h) else (2, chH h)) else rFa h 4
def rCh (h : Hp) : Int32 × Hp := if vi h (1, 0) 5 = 5 then rCh1 h else if vi h (1, 0) 5 = 6 then rCh1 h else if vi h (1, 0) 5 = 7 then rCh1 h else rFa h 1
set_option maxRecDepth 20000 in
theorem m_readChange (g : G0) (h : Hp) (hS : SX h) (hR : RI h)  : Mx g yX4_readChange wX4_readChange 1 [pR (2, 0)] h 0 0 (qE (some (pI (rCh h).1)) (rCh h).2) noX := by
  refine Mx.by kfX4_readChange rfl (by decide) (Nat.le_of_ble_eq_true rfl) ?_
  refine v_aload_n dX4_readChange_0 rfl ?_
  refine v_getR (some (1, 0)) fl_X4_28 dX4_readChange_1 rfl rfl (Nat.le_of_ble_eq_true rfl) (xh_2_0 hS) (xr_2_0_0 hS) ?_
  refine v_getI fl_X4_108 dX4_readChange_4 rfl rfl (Nat.le_of_ble_eq_true rfl) (xh_1_0 hS) ?_
  refine v_istore_n dX4_readChange_7 (by decide) ?_
  refine v_iload_n dX4_readChange_8 rfl ?_
  refine v_iconst (5) dX4_readChange_9 (by decide) ?_
  refine v_icmp_eq 31 dX4_readChange_10 (by decide) (fun c10 => ?_) (fun c10 => ?_)
  · refine v_aload_n dX4_readChange_31 rfl ?_
    refine v_getI fl_X4_52 dX4_readChange_32 rfl rfl (Nat.le_of_ble_eq_true rfl) (xh_2_0 hS) ?_
    refine v_bipush (12) dX4_readChange_35 (by decide) ?_
    refine v_icmp_lt 46 dX4_readChange_37 (by decide) (fun c37 => ?_) (fun c37 => ?_)
    · obtain ⟨c, hc, e⟩ := hR
      have ncl : (nI c).toNatClampNeg = c := nI_clamp (by omega)
      have hc12 : c < 12 := by rw [e] at c37; exact (nI_ltI (by omega) (by decide)).mp c37
      have e1 : vi (sI h (13, 3) c (vi h (1, 0) 5)) (2, 0) 5 = nI c := by rw [vi_sI_ne _ _ _ _ (by decide)]; exact e
      have e2 : vi (sI (sI h (13, 3) c (vi h (1, 0) 5)) (13, 4) c 0) (2, 0) 5 = nI c := by rw [vi_sI_ne _ _ _ _ (by decide)]; exact e1
      have eH : chH h = sI (sI (sI (sI h (13, 3) c (vi h (1, 0) 5)) (13, 4) c 0) (2, 0) 5 (nI c + 1)) (2, 0) 8 0 := by rw [chH, e, ncl]
      refine v_aload_n dX4_readChange_46 rfl ?_
      refine v_getR (some (13, 3)) fl_X4_18 dX4_readChange_47 rfl rfl (Nat.le_of_ble_eq_true rfl) (xh_2_0 hS) (xr_2_0_2 hS) ?_
      refine v_aload_n dX4_readChange_50 rfl ?_
      refine v_getI fl_X4_52 dX4_readChange_51 rfl rfl (Nat.le_of_ble_eq_true rfl) (xh_2_0 hS) ?_
      rw [e]
      refine v_iload_n dX4_readChange_54 rfl ?_
      refine v_iast dX4_readChange_55 rfl (Nat.le_of_ble_eq_true rfl) (xh_13_3 hS) (by rw [xl_13_3 hS]; exact vp_in_nI hc12 (by decide)) ?_
      rw [ncl]
      refine v_aload_n dX4_readChange_56 rfl ?_
      refine v_getR (some (13, 4)) fl_X4_22 dX4_readChange_57 rfl rfl (Nat.le_of_ble_eq_true rfl) (xh_2_0 hS) (xr_2_0_3 hS) ?_
      refine v_aload_n dX4_readChange_60 rfl ?_
      refine v_getI fl_X4_52 dX4_readChange_61 rfl rfl (Nat.le_of_ble_eq_true rfl) (xh_2_0 hS) ?_
      rw [e1]
      refine v_iconst (0) dX4_readChange_64 (by decide) ?_
      refine v_iast dX4_readChange_65 rfl (Nat.le_of_ble_eq_true rfl) (xh_13_4 hS) (by rw [ln_sI, xl_13_4 hS]; exact vp_in_nI hc12 (by decide)) ?_
      rw [ncl]
      refine v_aload_n dX4_readChange_66 rfl ?_
      refine v_dup dX4_readChange_67 rfl ?_
      refine v_getI fl_X4_52 dX4_readChange_68 rfl rfl (Nat.le_of_ble_eq_true rfl) (xh_2_0 hS) ?_
      rw [e2]
      refine v_iconst (1) dX4_readChange_71 (by decide) ?_
      refine v_iadd dX4_readChange_72 ?_
      refine v_putI fl_X4_52 (fun z => by cases z) dX4_readChange_73 rfl rfl (Nat.le_of_ble_eq_true rfl) rfl rfl (xh_2_0 hS) ?_
      refine v_aload_n dX4_readChange_76 rfl ?_
      refine v_iconst (0) dX4_readChange_77 (by decide) ?_
      refine v_putI fl_X4_114 (fun z => by cases z) dX4_readChange_78 rfl rfl (Nat.le_of_ble_eq_true rfl) rfl rfl (xh_2_0 hS) ?_
      rw [← eH]
      refine v_iload_n dX4_readChange_81 rfl ?_
      refine v_bipush (7) dX4_readChange_82 (by decide) ?_
      refine v_icmp_ne 90 dX4_readChange_84 (by decide) (fun c84 => ?_) (fun c84 => ?_)
      · refine v_iload_n dX4_readChange_90 rfl ?_
        refine v_iconst (5) dX4_readChange_91 (by decide) ?_
        refine v_icmp_ne 99 dX4_readChange_92 (by decide) (fun c92 => ?_) (fun c92 => ?_)
        · refine v_iconst (2) dX4_readChange_99 (by decide) ?_
          refine v_ireturn dX4_readChange_100 rfl rfl ?_
          first | exact absurd c10 c92 | exact absurd c92 c10 | exact absurd c22 c84 | (refine ⟨?_, ?_⟩ <;> (simp only [rCh, rCh1, if_pos c10, if_pos c37, if_neg c84, if_neg c92]; done))
        · refine v_iconst (1) dX4_readChange_95 (by decide) ?_
          refine v_goto 100 dX4_readChange_96 (by decide) ?_
          refine v_ireturn dX4_readChange_100 rfl rfl ?_
          first | exact absurd c10 c92 | exact absurd c92 c10 | exact absurd c22 c84 | (refine ⟨?_, ?_⟩ <;> (simp only [rCh, rCh1, if_pos c10, if_pos c37, if_neg c84, if_pos c92]; done))
      · refine v_bipush (8) dX4_readChange_87 (by decide) ?_
        refine v_ireturn dX4_readChange_89 rfl rfl ?_
        first | exact absurd c10 c92 | exact absurd c92 c10 | exact absurd c22 c84 | (refine ⟨?_, ?_⟩ <;> (simp only [rCh, rCh1, if_pos c10, if_pos c37, if_pos c84]; done))
    · refine v_aload_n dX4_readChange_40 rfl ?_
      refine v_iconst (4) dX4_readChange_41 (by decide) ?_
      refine v_invVE (m_faulty g h hS) dX4_readChange_42 cwX4_faulty mlX4_111 (ob_2 _) rfl rfl (by decide) (by decide) (Nat.le_of_ble_eq_true rfl) ?_
      refine v_ireturn dX4_readChange_45 rfl rfl ?_
      first | exact absurd c10 c92 | exact absurd c92 c10 | exact absurd c22 c84 | (refine ⟨?_, ?_⟩ <;> (simp only [rCh, rCh1, if_pos c10, if_neg c37]; done))
  · refine v_iload_n dX4_readChange_13 rfl ?_
    refine v_bipush (6) dX4_readChange_14 (by decide) ?_
    refine v_icmp_eq 31 dX4_readChange_16 (by decide) (fun c16 => ?_) (fun c16 => ?_)
    · refine v_aload_n dX4_readChange_31 rfl ?_
      refine v_getI fl_X4_52 dX4_readChange_32 rfl rfl (Nat.le_of_ble_eq_true rfl) (xh_2_0 hS) ?_
      refine v_bipush (12) dX4_readChange_35 (by decide) ?_
      refine v_icmp_lt 46 dX4_readChange_37 (by decide) (fun c37 => ?_) (fun c37 => ?_)
      · obtain ⟨c, hc, e⟩ := hR
        have ncl : (nI c).toNatClampNeg = c := nI_clamp (by omega)
        have hc12 : c < 12 := by rw [e] at c37; exact (nI_ltI (by omega) (by decide)).mp c37
        have e1 : vi (sI h (13, 3) c (vi h (1, 0) 5)) (2, 0) 5 = nI c := by rw [vi_sI_ne _ _ _ _ (by decide)]; exact e
        have e2 : vi (sI (sI h (13, 3) c (vi h (1, 0) 5)) (13, 4) c 0) (2, 0) 5 = nI c := by rw [vi_sI_ne _ _ _ _ (by decide)]; exact e1
        have eH : chH h = sI (sI (sI (sI h (13, 3) c (vi h (1, 0) 5)) (13, 4) c 0) (2, 0) 5 (nI c + 1)) (2, 0) 8 0 := by rw [chH, e, ncl]
        refine v_aload_n dX4_readChange_46 rfl ?_
        refine v_getR (some (13, 3)) fl_X4_18 dX4_readChange_47 rfl rfl (Nat.le_of_ble_eq_true rfl) (xh_2_0 hS) (xr_2_0_2 hS) ?_
        refine v_aload_n dX4_readChange_50 rfl ?_
        refine v_getI fl_X4_52 dX4_readChange_51 rfl rfl (Nat.le_of_ble_eq_true rfl) (xh_2_0 hS) ?_
        rw [e]
        refine v_iload_n dX4_readChange_54 rfl ?_
        refine v_iast dX4_readChange_55 rfl (Nat.le_of_ble_eq_true rfl) (xh_13_3 hS) (by rw [xl_13_3 hS]; exact vp_in_nI hc12 (by decide)) ?_
        rw [ncl]
        refine v_aload_n dX4_readChange_56 rfl ?_
        refine v_getR (some (13, 4)) fl_X4_22 dX4_readChange_57 rfl rfl (Nat.le_of_ble_eq_true rfl) (xh_2_0 hS) (xr_2_0_3 hS) ?_
        refine v_aload_n dX4_readChange_60 rfl ?_
        refine v_getI fl_X4_52 dX4_readChange_61 rfl rfl (Nat.le_of_ble_eq_true rfl) (xh_2_0 hS) ?_
        rw [e1]
        refine v_iconst (0) dX4_readChange_64 (by decide) ?_
        refine v_iast dX4_readChange_65 rfl (Nat.le_of_ble_eq_true rfl) (xh_13_4 hS) (by rw [ln_sI, xl_13_4 hS]; exact vp_in_nI hc12 (by decide)) ?_
        rw [ncl]
        refine v_aload_n dX4_readChange_66 rfl ?_
        refine v_dup dX4_readChange_67 rfl ?_
        refine v_getI fl_X4_52 dX4_readChange_68 rfl rfl (Nat.le_of_ble_eq_true rfl) (xh_2_0 hS) ?_
        rw [e2]
        refine v_iconst (1) dX4_readChange_71 (by decide) ?_
        refine v_iadd dX4_readChange_72 ?_
        refine v_putI fl_X4_52 (fun z => by cases z) dX4_readChange_73 rfl rfl (Nat.le_of_ble_eq_true rfl) rfl rfl (xh_2_0 hS) ?_
        refine v_aload_n dX4_readChange_76 rfl ?_
        refine v_iconst (0) dX4_readChange_77 (by decide) ?_
        refine v_putI fl_X4_114 (fun z => by cases z) dX4_readChange_78 rfl rfl (Nat.le_of_ble_eq_true rfl) rfl rfl (xh_2_0 hS) ?_
        rw [← eH]
        refine v_iload_n dX4_readChange_81 rfl ?_
        refine v_bipush (7) dX4_readChange_82 (by decide) ?_
        refine v_icmp_ne 90 dX4_readChange_84 (by decide) (fun c84 => ?_) (fun c84 => ?_)
        · refine v_iload_n dX4_readChange_90 rfl ?_
          refine v_iconst (5) dX4_readChange_91 (by decide) ?_
          refine v_icmp_ne 99 dX4_readChange_92 (by decide) (fun c92 => ?_) (fun c92 => ?_)
          · refine v_iconst (2) dX4_readChange_99 (by decide) ?_
            refine v_ireturn dX4_readChange_100 rfl rfl ?_
            first | exact absurd c10 c92 | exact absurd c92 c10 | exact absurd c22 c84 | (refine ⟨?_, ?_⟩ <;> (simp only [rCh, rCh1, if_neg c10, if_pos c16, if_pos c37, if_neg c84, if_neg c92]; done))
          · refine v_iconst (1) dX4_readChange_95 (by decide) ?_
            refine v_goto 100 dX4_readChange_96 (by decide) ?_
            refine v_ireturn dX4_readChange_100 rfl rfl ?_
            first | exact absurd c10 c92 | exact absurd c92 c10 | exact absurd c22 c84 | (refine ⟨?_, ?_⟩ <;> (simp only [rCh, rCh1, if_neg c10, if_pos c16, if_pos c37, if_neg c84, if_pos c92]; done))
        · refine v_bipush (8) dX4_readChange_87 (by decide) ?_
          refine v_ireturn dX4_readChange_89 rfl rfl ?_
          first | exact absurd c10 c92 | exact absurd c92 c10 | exact absurd c22 c84 | (refine ⟨?_, ?_⟩ <;> (simp only [rCh, rCh1, if_neg c10, if_pos c16, if_pos c37, if_pos c84]; done))
      · refine v_aload_n dX4_readChange_40 rfl ?_
        refine v_iconst (4) dX4_readChange_41 (by decide) ?_
        refine v_invVE (m_faulty g h hS) dX4_readChange_42 cwX4_faulty mlX4_111 (ob_2 _) rfl rfl (by decide) (by decide) (Nat.le_of_ble_eq_true rfl) ?_
        refine v_ireturn dX4_readChange_45 rfl rfl ?_
        first | exact absurd c10 c92 | exact absurd c92 c10 | exact absurd c22 c84 | (refine ⟨?_, ?_⟩ <;> (simp only [rCh, rCh1, if_neg c10, if_pos c16, if_neg c37]; done))
    · refine v_iload_n dX4_readChange_19 rfl ?_
      refine v_bipush (7) dX4_readChange_20 (by decide) ?_
      refine v_icmp_eq 31 dX4_readChange_22 (by decide) (fun c22 => ?_) (fun c22 => ?_)
      · refine v_aload_n dX4_readChange_31 rfl ?_
        refine v_getI fl_X4_52 dX4_readChange_32 rfl rfl (Nat.le_of_ble_eq_true rfl) (xh_2_0 hS) ?_
        refine v_bipush (12) dX4_readChange_35 (by decide) ?_
        refine v_icmp_lt 46 dX4_readChange_37 (by decide) (fun c37 => ?_) (fun c37 => ?_)
        · obtain ⟨c, hc, e⟩ := hR
          have ncl : (nI c).toNatClampNeg = c := nI_clamp (by omega)
          have hc12 : c < 12 := by rw [e] at c37; exact (nI_ltI (by omega) (by decide)).mp c37
          have e1 : vi (sI h (13, 3) c (vi h (1, 0) 5)) (2, 0) 5 = nI c := by rw [vi_sI_ne _ _ _ _ (by decide)]; exact e
          have e2 : vi (sI (sI h (13, 3) c (vi h (1, 0) 5)) (13, 4) c 0) (2, 0) 5 = nI c := by rw [vi_sI_ne _ _ _ _ (by decide)]; exact e1
          have eH : chH h = sI (sI (sI (sI h (13, 3) c (vi h (1, 0) 5)) (13, 4) c 0) (2, 0) 5 (nI c + 1)) (2, 0) 8 0 := by rw [chH, e, ncl]
          refine v_aload_n dX4_readChange_46 rfl ?_
          refine v_getR (some (13, 3)) fl_X4_18 dX4_readChange_47 rfl rfl (Nat.le_of_ble_eq_true rfl) (xh_2_0 hS) (xr_2_0_2 hS) ?_
          refine v_aload_n dX4_readChange_50 rfl ?_
          refine v_getI fl_X4_52 dX4_readChange_51 rfl rfl (Nat.le_of_ble_eq_true rfl) (xh_2_0 hS) ?_
          rw [e]
          refine v_iload_n dX4_readChange_54 rfl ?_
          refine v_iast dX4_readChange_55 rfl (Nat.le_of_ble_eq_true rfl) (xh_13_3 hS) (by rw [xl_13_3 hS]; exact vp_in_nI hc12 (by decide)) ?_
          rw [ncl]
          refine v_aload_n dX4_readChange_56 rfl ?_
          refine v_getR (some (13, 4)) fl_X4_22 dX4_readChange_57 rfl rfl (Nat.le_of_ble_eq_true rfl) (xh_2_0 hS) (xr_2_0_3 hS) ?_
          refine v_aload_n dX4_readChange_60 rfl ?_
          refine v_getI fl_X4_52 dX4_readChange_61 rfl rfl (Nat.le_of_ble_eq_true rfl) (xh_2_0 hS) ?_
          rw [e1]
          refine v_iconst (0) dX4_readChange_64 (by decide) ?_
          refine v_iast dX4_readChange_65 rfl (Nat.le_of_ble_eq_true rfl) (xh_13_4 hS) (by rw [ln_sI, xl_13_4 hS]; exact vp_in_nI hc12 (by decide)) ?_
          rw [ncl]
          refine v_aload_n dX4_readChange_66 rfl ?_
          refine v_dup dX4_readChange_67 rfl ?_
          refine v_getI fl_X4_52 dX4_readChange_68 rfl rfl (Nat.le_of_ble_eq_true rfl) (xh_2_0 hS) ?_
          rw [e2]
          refine v_iconst (1) dX4_readChange_71 (by decide) ?_
          refine v_iadd dX4_readChange_72 ?_
          refine v_putI fl_X4_52 (fun z => by cases z) dX4_readChange_73 rfl rfl (Nat.le_of_ble_eq_true rfl) rfl rfl (xh_2_0 hS) ?_
          refine v_aload_n dX4_readChange_76 rfl ?_
          refine v_iconst (0) dX4_readChange_77 (by decide) ?_
          refine v_putI fl_X4_114 (fun z => by cases z) dX4_readChange_78 rfl rfl (Nat.le_of_ble_eq_true rfl) rfl rfl (xh_2_0 hS) ?_
          rw [← eH]
          refine v_iload_n dX4_readChange_81 rfl ?_
          refine v_bipush (7) dX4_readChange_82 (by decide) ?_
          refine v_icmp_ne 90 dX4_readChange_84 (by decide) (fun c84 => ?_) (fun c84 => ?_)
          · refine v_iload_n dX4_readChange_90 rfl ?_
            refine v_iconst (5) dX4_readChange_91 (by decide) ?_
            refine v_icmp_ne 99 dX4_readChange_92 (by decide) (fun c92 => ?_) (fun c92 => ?_)
            · refine v_iconst (2) dX4_readChange_99 (by decide) ?_
              refine v_ireturn dX4_readChange_100 rfl rfl ?_
              first | exact absurd c10 c92 | exact absurd c92 c10 | exact absurd c22 c84 | (refine ⟨?_, ?_⟩ <;> (simp only [rCh, rCh1, if_neg c10, if_neg c16, if_pos c22, if_pos c37, if_neg c84, if_neg c92]; done))
            · refine v_iconst (1) dX4_readChange_95 (by decide) ?_
              refine v_goto 100 dX4_readChange_96 (by decide) ?_
              refine v_ireturn dX4_readChange_100 rfl rfl ?_
              first | exact absurd c10 c92 | exact absurd c92 c10 | exact absurd c22 c84 | (refine ⟨?_, ?_⟩ <;> (simp only [rCh, rCh1, if_neg c10, if_neg c16, if_pos c22, if_pos c37, if_neg c84, if_pos c92]; done))
          · refine v_bipush (8) dX4_readChange_87 (by decide) ?_
            refine v_ireturn dX4_readChange_89 rfl rfl ?_
            first | exact absurd c10 c92 | exact absurd c92 c10 | exact absurd c22 c84 | (refine ⟨?_, ?_⟩ <;> (simp only [rCh, rCh1, if_neg c10, if_neg c16, if_pos c22, if_pos c37, if_pos c84]; done))
        · refine v_aload_n dX4_readChange_40 rfl ?_
          refine v_iconst (4) dX4_readChange_41 (by decide) ?_
          refine v_invVE (m_faulty g h hS) dX4_readChange_42 cwX4_faulty mlX4_111 (ob_2 _) rfl rfl (by decide) (by decide) (Nat.le_of_ble_eq_true rfl) ?_
          refine v_ireturn dX4_readChange_45 rfl rfl ?_
          first | exact absurd c10 c92 | exact absurd c92 c10 | exact absurd c22 c84 | (refine ⟨?_, ?_⟩ <;> (simp only [rCh, rCh1, if_neg c10, if_neg c16, if_pos c22, if_neg c37]; done))
      · refine v_aload_n dX4_readChange_25 rfl ?_
        refine v_iconst (1) dX4_readChange_26 (by decide) ?_
        refine v_invVE (m_faulty g h hS) dX4_readChange_27 cwX4_faulty mlX4_111 (ob_2 _) rfl rfl (by decide) (by decide) (Nat.le_of_ble_eq_true rfl) ?_
        refine v_ireturn dX4_readChange_30 rfl rfl ?_
        first | exact absurd c10 c92 | exact absurd c92 c10 | exact absurd c22 c84 | (refine ⟨?_, ?_⟩ <;> (simp only [rCh, rCh1, if_neg c10, if_neg c16, if_neg c22]; done))
def cnH (h : Hp) : Hp := if vi h (2, 0) 5 ≤ 0 then h else sI h (13, 4) (vi h (2, 0) 5 - 1).toNatClampNeg (vi h (1, 0) 6)
def rCn (h : Hp) (t : Int32) : Int32 × Hp := if vi h (1, 0) 5 = 2 then (if vi h (1, 0) 6 < 1 then rFa h 3 else if vi h (1, 0) 6 ≤ 12 then (t, cnH h) else rFa h 3) else rFa h 1
def bcH (h : Hp) : Hp := if vi h (2, 0) 5 ≤ 0 then h else sI h (13, 5) (vi h (2, 0) 5 - 1).toNatClampNeg (vi h (3, 0) 2)
def rBc1 (h : Hp) : Int32 × Hp := if vi (bcH h) (1, 0) 5 = 0 then (12, bcH h) else (0, bcH h)
def rBc (h : Hp) : Int32 × Hp := if vi h (1, 0) 5 = 59 then rBc1 h else if vi h (1, 0) 5 = 0 then rBc1 h else rFa h 1
theorem SXbc {h : Hp} (s : SX h) : SX (bcH h) := by unfold bcH; split; exact s; exact SX.sI s
theorem SXcn {h : Hp} (s : SX h) : SX (cnH h) := by unfold cnH; split; exact s; exact SX.sI s
theorem prdI {h : Hp} (hR : RI h) (c : ¬ vi h (2, 0) 5 ≤ 0) : ∃ m, m < 12 ∧ vi h (2, 0) 5 = nI (m + 1) := by
  obtain ⟨n, hn, e⟩ := hR
  rw [e] at c
  cases n with
  | zero => exact absurd (show nI 0 ≤ 0 by decide) c
  | succ m => exact ⟨m, by omega, e⟩
set_option maxRecDepth 20000 in
theorem m_readCn (g : G0) (h : Hp) (hS : SX h) (hR : RI h) {t : Int32} : Mx g yX4_readClauseNumber wX4_readClauseNumber 1 [pR (2, 0), pI t] h 0 0 (qE (some (pI (rCn h t).1)) (rCn h t).2) noX := by
  refine Mx.by kfX4_readClauseNumber rfl (by decide) (Nat.le_of_ble_eq_true rfl) ?_
  refine v_aload_n dX4_readClauseNumber_0 rfl ?_
  refine v_getR (some (1, 0)) fl_X4_28 dX4_readClauseNumber_1 rfl rfl (Nat.le_of_ble_eq_true rfl) (xh_2_0 hS) (xr_2_0_0 hS) ?_
  refine v_getI fl_X4_108 dX4_readClauseNumber_4 rfl rfl (Nat.le_of_ble_eq_true rfl) (xh_1_0 hS) ?_
  refine v_iconst (2) dX4_readClauseNumber_7 (by decide) ?_
  refine v_icmp_eq 17 dX4_readClauseNumber_8 (by decide) (fun c8 => ?_) (fun c8 => ?_)
  · refine v_aload_n dX4_readClauseNumber_17 rfl ?_
    refine v_getR (some (1, 0)) fl_X4_28 dX4_readClauseNumber_18 rfl rfl (Nat.le_of_ble_eq_true rfl) (xh_2_0 hS) (xr_2_0_0 hS) ?_
    refine v_getI fl_X4_117 dX4_readClauseNumber_21 rfl rfl (Nat.le_of_ble_eq_true rfl) (xh_1_0 hS) ?_
    refine v_iconst (1) dX4_readClauseNumber_24 (by decide) ?_
    refine v_icmp_lt 40 dX4_readClauseNumber_25 (by decide) (fun c25 => ?_) (fun c25 => ?_)
    · refine v_aload_n dX4_readClauseNumber_40 rfl ?_
      refine v_iconst (3) dX4_readClauseNumber_41 (by decide) ?_
      refine v_invVE (m_faulty g h hS) dX4_readClauseNumber_42 cwX4_faulty mlX4_111 (ob_2 _) rfl rfl (by decide) (by decide) (Nat.le_of_ble_eq_true rfl) ?_
      refine v_ireturn dX4_readClauseNumber_45 rfl rfl ?_
      first | (refine ⟨?_, ?_⟩ <;> (simp only [rCn, if_pos c8, if_pos c25]; done)) | (refine ⟨?_, ?_⟩ <;> (simp only [rCn, eH, if_pos c8, if_pos c25]; done))
    · refine v_aload_n dX4_readClauseNumber_28 rfl ?_
      refine v_getR (some (1, 0)) fl_X4_28 dX4_readClauseNumber_29 rfl rfl (Nat.le_of_ble_eq_true rfl) (xh_2_0 hS) (xr_2_0_0 hS) ?_
      refine v_getI fl_X4_117 dX4_readClauseNumber_32 rfl rfl (Nat.le_of_ble_eq_true rfl) (xh_1_0 hS) ?_
      refine v_bipush (12) dX4_readClauseNumber_35 (by decide) ?_
      refine v_icmp_le 46 dX4_readClauseNumber_37 (by decide) (fun c37 => ?_) (fun c37 => ?_)
      · refine v_aload_n dX4_readClauseNumber_46 rfl ?_
        refine v_getI fl_X4_52 dX4_readClauseNumber_47 rfl rfl (Nat.le_of_ble_eq_true rfl) (xh_2_0 hS) ?_
        refine v_if_le 71 dX4_readClauseNumber_50 (by decide) (fun c50 => ?_) (fun c50 => ?_)
        · first | (have eH : cnH h = sI h (13, 4) m (vi h (1, 0) 6) := (by rw [cnH, if_neg c50, e, nI_pred, ncl]); rw [← eH]) | (have eH : cnH h = h := (by rw [cnH, if_pos c50]))
          refine v_iload_n dX4_readClauseNumber_71 rfl ?_
          refine v_ireturn dX4_readClauseNumber_72 rfl rfl ?_
          first | (refine ⟨?_, ?_⟩ <;> (simp only [rCn, if_pos c8, if_neg c25, if_pos c37, if_pos c50]; done)) | (refine ⟨?_, ?_⟩ <;> (simp only [rCn, eH, if_pos c8, if_neg c25, if_pos c37, if_pos c50]; done))
        · obtain ⟨m, hm, e⟩ := prdI hR c50
          have ncl : (nI m).toNatClampNeg = m := nI_clamp (by omega)
          refine v_aload_n dX4_readClauseNumber_53 rfl ?_
          refine v_getR (some (13, 4)) fl_X4_22 dX4_readClauseNumber_54 rfl rfl (Nat.le_of_ble_eq_true rfl) (xh_2_0 hS) (xr_2_0_3 hS) ?_
          refine v_aload_n dX4_readClauseNumber_57 rfl ?_
          refine v_getI fl_X4_52 dX4_readClauseNumber_58 rfl rfl (Nat.le_of_ble_eq_true rfl) (xh_2_0 hS) ?_
          rw [e]
          refine v_iconst (1) dX4_readClauseNumber_61 (by decide) ?_
          refine v_isub dX4_readClauseNumber_62 ?_
          rw [nI_pred]
          refine v_aload_n dX4_readClauseNumber_63 rfl ?_
          refine v_getR (some (1, 0)) fl_X4_28 dX4_readClauseNumber_64 rfl rfl (Nat.le_of_ble_eq_true rfl) (xh_2_0 hS) (xr_2_0_0 hS) ?_
          refine v_getI fl_X4_117 dX4_readClauseNumber_67 rfl rfl (Nat.le_of_ble_eq_true rfl) (xh_1_0 hS) ?_
          refine v_iast dX4_readClauseNumber_70 rfl (Nat.le_of_ble_eq_true rfl) (xh_13_4 hS) (by rw [xl_13_4 hS]; exact vp_in_nI hm (by decide)) ?_
          rw [ncl]
          first | (have eH : cnH h = sI h (13, 4) m (vi h (1, 0) 6) := (by rw [cnH, if_neg c50, e, nI_pred, ncl]); rw [← eH]) | (have eH : cnH h = h := (by rw [cnH, if_pos c50]))
          refine v_iload_n dX4_readClauseNumber_71 rfl ?_
          refine v_ireturn dX4_readClauseNumber_72 rfl rfl ?_
          first | (refine ⟨?_, ?_⟩ <;> (simp only [rCn, if_pos c8, if_neg c25, if_pos c37, if_neg c50]; done)) | (refine ⟨?_, ?_⟩ <;> (simp only [rCn, eH, if_pos c8, if_neg c25, if_pos c37, if_neg c50]; done))
      · refine v_aload_n dX4_readClauseNumber_40 rfl ?_
        refine v_iconst (3) dX4_readClauseNumber_41 (by decide) ?_
        refine v_invVE (m_faulty g h hS) dX4_readClauseNumber_42 cwX4_faulty mlX4_111 (ob_2 _) rfl rfl (by decide) (by decide) (Nat.le_of_ble_eq_true rfl) ?_
        refine v_ireturn dX4_readClauseNumber_45 rfl rfl ?_
        first | (refine ⟨?_, ?_⟩ <;> (simp only [rCn, if_pos c8, if_neg c25, if_neg c37]; done)) | (refine ⟨?_, ?_⟩ <;> (simp only [rCn, eH, if_pos c8, if_neg c25, if_neg c37]; done))
  · refine v_aload_n dX4_readClauseNumber_11 rfl ?_
    refine v_iconst (1) dX4_readClauseNumber_12 (by decide) ?_
    refine v_invVE (m_faulty g h hS) dX4_readClauseNumber_13 cwX4_faulty mlX4_111 (ob_2 _) rfl rfl (by decide) (by decide) (Nat.le_of_ble_eq_true rfl) ?_
    refine v_ireturn dX4_readClauseNumber_16 rfl rfl ?_
    first | (refine ⟨?_, ?_⟩ <;> (simp only [rCn, if_neg c8]; done)) | (refine ⟨?_, ?_⟩ <;> (simp only [rCn, eH, if_neg c8]; done))
set_option maxRecDepth 20000 in
theorem m_readBc (g : G0) (h : Hp) (hS : SX h) (hR : RI h)  : Mx g yX4_readBehindChange wX4_readBehindChange 1 [pR (2, 0)] h 0 0 (qE (some (pI (rBc h).1)) (rBc h).2) noX := by
  refine Mx.by kfX4_readBehindChange rfl (by decide) (Nat.le_of_ble_eq_true rfl) ?_
  refine v_aload_n dX4_readBehindChange_0 rfl ?_
  refine v_getR (some (1, 0)) fl_X4_28 dX4_readBehindChange_1 rfl rfl (Nat.le_of_ble_eq_true rfl) (xh_2_0 hS) (xr_2_0_0 hS) ?_
  refine v_getI fl_X4_108 dX4_readBehindChange_4 rfl rfl (Nat.le_of_ble_eq_true rfl) (xh_1_0 hS) ?_
  refine v_bipush (59) dX4_readBehindChange_7 (by decide) ?_
  refine v_icmp_eq 28 dX4_readBehindChange_9 (by decide) (fun c9 => ?_) (fun c9 => ?_)
  · refine v_aload_n dX4_readBehindChange_28 rfl ?_
    refine v_getI fl_X4_52 dX4_readBehindChange_29 rfl rfl (Nat.le_of_ble_eq_true rfl) (xh_2_0 hS) ?_
    refine v_if_le 53 dX4_readBehindChange_32 (by decide) (fun c32 => ?_) (fun c32 => ?_)
    · first | (have eH : bcH h = sI h (13, 5) m (vi h (3, 0) 2) := (by rw [bcH, if_neg c32, e, nI_pred, ncl]); have hS3 : SX (bcH h) := SXbc hS; rw [← eH]) | (have eH : bcH h = h := (by rw [bcH, if_pos c32]); have hS3 := hS)
      refine v_aload_n dX4_readBehindChange_53 rfl ?_
      refine v_getR (some (1, 0)) fl_X4_28 dX4_readBehindChange_54 rfl rfl (Nat.le_of_ble_eq_true rfl) (xh_2_0 hS3) (xr_2_0_0 hS3) ?_
      refine v_getI fl_X4_108 dX4_readBehindChange_57 rfl rfl (Nat.le_of_ble_eq_true rfl) (xh_1_0 hS3) ?_
      refine v_if_ne 68 dX4_readBehindChange_60 (by decide) (fun c60 => ?_) (fun c60 => ?_)
      · refine v_iconst (0) dX4_readBehindChange_68 (by decide) ?_
        refine v_ireturn dX4_readBehindChange_69 rfl rfl ?_
        first | exact absurd c19 c60 | (refine ⟨?_, ?_⟩ <;> (simp only [rBc, rBc1, if_pos c9, if_pos c32, if_neg c60]; done)) | (refine ⟨?_, ?_⟩ <;> (simp only [rBc, rBc1, eH, if_pos c9, if_pos c32, if_neg c60]; done))
      · refine v_bipush (12) dX4_readBehindChange_63 (by decide) ?_
        refine v_goto 69 dX4_readBehindChange_65 (by decide) ?_
        refine v_ireturn dX4_readBehindChange_69 rfl rfl ?_
        first | exact absurd c19 c60 | (refine ⟨?_, ?_⟩ <;> (simp only [rBc, rBc1, if_pos c9, if_pos c32, if_pos c60]; done)) | (refine ⟨?_, ?_⟩ <;> (simp only [rBc, rBc1, eH, if_pos c9, if_pos c32, if_pos c60]; done))
    · obtain ⟨m, hm, e⟩ := prdI hR c32
      have ncl : (nI m).toNatClampNeg = m := nI_clamp (by omega)
      refine v_aload_n dX4_readBehindChange_35 rfl ?_
      refine v_getR (some (13, 5)) fl_X4_25 dX4_readBehindChange_36 rfl rfl (Nat.le_of_ble_eq_true rfl) (xh_2_0 hS) (xr_2_0_4 hS) ?_
      refine v_aload_n dX4_readBehindChange_39 rfl ?_
      refine v_getI fl_X4_52 dX4_readBehindChange_40 rfl rfl (Nat.le_of_ble_eq_true rfl) (xh_2_0 hS) ?_
      rw [e]
      refine v_iconst (1) dX4_readBehindChange_43 (by decide) ?_
      refine v_isub dX4_readBehindChange_44 ?_
      rw [nI_pred]
      refine v_aload_n dX4_readBehindChange_45 rfl ?_
      refine v_getR (some (3, 0)) fl_X4_12 dX4_readBehindChange_46 rfl rfl (Nat.le_of_ble_eq_true rfl) (xh_2_0 hS) (xr_2_0_1 hS) ?_
      refine v_getI fl_X4_120 dX4_readBehindChange_49 rfl rfl (Nat.le_of_ble_eq_true rfl) (xh_3_0 hS) ?_
      refine v_iast dX4_readBehindChange_52 rfl (Nat.le_of_ble_eq_true rfl) (xh_13_5 hS) (by rw [xl_13_5 hS]; exact vp_in_nI hm (by decide)) ?_
      rw [ncl]
      first | (have eH : bcH h = sI h (13, 5) m (vi h (3, 0) 2) := (by rw [bcH, if_neg c32, e, nI_pred, ncl]); have hS3 : SX (bcH h) := SXbc hS; rw [← eH]) | (have eH : bcH h = h := (by rw [bcH, if_pos c32]); have hS3 := hS)
      refine v_aload_n dX4_readBehindChange_53 rfl ?_
      refine v_getR (some (1, 0)) fl_X4_28 dX4_readBehindChange_54 rfl rfl (Nat.le_of_ble_eq_true rfl) (xh_2_0 hS3) (xr_2_0_0 hS3) ?_
      refine v_getI fl_X4_108 dX4_readBehindChange_57 rfl rfl (Nat.le_of_ble_eq_true rfl) (xh_1_0 hS3) ?_
      refine v_if_ne 68 dX4_readBehindChange_60 (by decide) (fun c60 => ?_) (fun c60 => ?_)
      · refine v_iconst (0) dX4_readBehindChange_68 (by decide) ?_
        refine v_ireturn dX4_readBehindChange_69 rfl rfl ?_
        first | exact absurd c19 c60 | (refine ⟨?_, ?_⟩ <;> (simp only [rBc, rBc1, if_pos c9, if_neg c32, if_neg c60]; done)) | (refine ⟨?_, ?_⟩ <;> (simp only [rBc, rBc1, eH, if_pos c9, if_neg c32, if_neg c60]; done))
      · refine v_bipush (12) dX4_readBehindChange_63 (by decide) ?_
        refine v_goto 69 dX4_readBehindChange_65 (by decide) ?_
        refine v_ireturn dX4_readBehindChange_69 rfl rfl ?_
        first | exact absurd c19 c60 | (refine ⟨?_, ?_⟩ <;> (simp only [rBc, rBc1, if_pos c9, if_neg c32, if_pos c60]; done)) | (refine ⟨?_, ?_⟩ <;> (simp only [rBc, rBc1, eH, if_pos c9, if_neg c32, if_pos c60]; done))
  · refine v_aload_n dX4_readBehindChange_12 rfl ?_
    refine v_getR (some (1, 0)) fl_X4_28 dX4_readBehindChange_13 rfl rfl (Nat.le_of_ble_eq_true rfl) (xh_2_0 hS) (xr_2_0_0 hS) ?_
    refine v_getI fl_X4_108 dX4_readBehindChange_16 rfl rfl (Nat.le_of_ble_eq_true rfl) (xh_1_0 hS) ?_
    refine v_if_eq 28 dX4_readBehindChange_19 (by decide) (fun c19 => ?_) (fun c19 => ?_)
    · refine v_aload_n dX4_readBehindChange_28 rfl ?_
      refine v_getI fl_X4_52 dX4_readBehindChange_29 rfl rfl (Nat.le_of_ble_eq_true rfl) (xh_2_0 hS) ?_
      refine v_if_le 53 dX4_readBehindChange_32 (by decide) (fun c32 => ?_) (fun c32 => ?_)
      · first | (have eH : bcH h = sI h (13, 5) m (vi h (3, 0) 2) := (by rw [bcH, if_neg c32, e, nI_pred, ncl]); have hS3 : SX (bcH h) := SXbc hS; rw [← eH]) | (have eH : bcH h = h := (by rw [bcH, if_pos c32]); have hS3 := hS)
        refine v_aload_n dX4_readBehindChange_53 rfl ?_
        refine v_getR (some (1, 0)) fl_X4_28 dX4_readBehindChange_54 rfl rfl (Nat.le_of_ble_eq_true rfl) (xh_2_0 hS3) (xr_2_0_0 hS3) ?_
        refine v_getI fl_X4_108 dX4_readBehindChange_57 rfl rfl (Nat.le_of_ble_eq_true rfl) (xh_1_0 hS3) ?_
        refine v_if_ne 68 dX4_readBehindChange_60 (by decide) (fun c60 => ?_) (fun c60 => ?_)
        · refine v_iconst (0) dX4_readBehindChange_68 (by decide) ?_
          refine v_ireturn dX4_readBehindChange_69 rfl rfl ?_
          first | exact absurd c19 c60 | (refine ⟨?_, ?_⟩ <;> (simp only [rBc, rBc1, if_neg c9, if_pos c19, if_pos c32, if_neg c60]; done)) | (refine ⟨?_, ?_⟩ <;> (simp only [rBc, rBc1, eH, if_neg c9, if_pos c19, if_pos c32, if_neg c60]; done))
        · refine v_bipush (12) dX4_readBehindChange_63 (by decide) ?_
          refine v_goto 69 dX4_readBehindChange_65 (by decide) ?_
          refine v_ireturn dX4_readBehindChange_69 rfl rfl ?_
          first | exact absurd c19 c60 | (refine ⟨?_, ?_⟩ <;> (simp only [rBc, rBc1, if_neg c9, if_pos c19, if_pos c32, if_pos c60]; done)) | (refine ⟨?_, ?_⟩ <;> (simp only [rBc, rBc1, eH, if_neg c9, if_pos c19, if_pos c32, if_pos c60]; done))
      · obtain ⟨m, hm, e⟩ := prdI hR c32
        have ncl : (nI m).toNatClampNeg = m := nI_clamp (by omega)
        refine v_aload_n dX4_readBehindChange_35 rfl ?_
        refine v_getR (some (13, 5)) fl_X4_25 dX4_readBehindChange_36 rfl rfl (Nat.le_of_ble_eq_true rfl) (xh_2_0 hS) (xr_2_0_4 hS) ?_
        refine v_aload_n dX4_readBehindChange_39 rfl ?_
        refine v_getI fl_X4_52 dX4_readBehindChange_40 rfl rfl (Nat.le_of_ble_eq_true rfl) (xh_2_0 hS) ?_
        rw [e]
        refine v_iconst (1) dX4_readBehindChange_43 (by decide) ?_
        refine v_isub dX4_readBehindChange_44 ?_
        rw [nI_pred]
        refine v_aload_n dX4_readBehindChange_45 rfl ?_
        refine v_getR (some (3, 0)) fl_X4_12 dX4_readBehindChange_46 rfl rfl (Nat.le_of_ble_eq_true rfl) (xh_2_0 hS) (xr_2_0_1 hS) ?_
        refine v_getI fl_X4_120 dX4_readBehindChange_49 rfl rfl (Nat.le_of_ble_eq_true rfl) (xh_3_0 hS) ?_
        refine v_iast dX4_readBehindChange_52 rfl (Nat.le_of_ble_eq_true rfl) (xh_13_5 hS) (by rw [xl_13_5 hS]; exact vp_in_nI hm (by decide)) ?_
        rw [ncl]
        first | (have eH : bcH h = sI h (13, 5) m (vi h (3, 0) 2) := (by rw [bcH, if_neg c32, e, nI_pred, ncl]); have hS3 : SX (bcH h) := SXbc hS; rw [← eH]) | (have eH : bcH h = h := (by rw [bcH, if_pos c32]); have hS3 := hS)
        refine v_aload_n dX4_readBehindChange_53 rfl ?_
        refine v_getR (some (1, 0)) fl_X4_28 dX4_readBehindChange_54 rfl rfl (Nat.le_of_ble_eq_true rfl) (xh_2_0 hS3) (xr_2_0_0 hS3) ?_
        refine v_getI fl_X4_108 dX4_readBehindChange_57 rfl rfl (Nat.le_of_ble_eq_true rfl) (xh_1_0 hS3) ?_
        refine v_if_ne 68 dX4_readBehindChange_60 (by decide) (fun c60 => ?_) (fun c60 => ?_)
        · refine v_iconst (0) dX4_readBehindChange_68 (by decide) ?_
          refine v_ireturn dX4_readBehindChange_69 rfl rfl ?_
          first | exact absurd c19 c60 | (refine ⟨?_, ?_⟩ <;> (simp only [rBc, rBc1, if_neg c9, if_pos c19, if_neg c32, if_neg c60]; done)) | (refine ⟨?_, ?_⟩ <;> (simp only [rBc, rBc1, eH, if_neg c9, if_pos c19, if_neg c32, if_neg c60]; done))
        · refine v_bipush (12) dX4_readBehindChange_63 (by decide) ?_
          refine v_goto 69 dX4_readBehindChange_65 (by decide) ?_
          refine v_ireturn dX4_readBehindChange_69 rfl rfl ?_
          first | exact absurd c19 c60 | (refine ⟨?_, ?_⟩ <;> (simp only [rBc, rBc1, if_neg c9, if_pos c19, if_neg c32, if_pos c60]; done)) | (refine ⟨?_, ?_⟩ <;> (simp only [rBc, rBc1, eH, if_neg c9, if_pos c19, if_neg c32, if_pos c60]; done))
    · refine v_aload_n dX4_readBehindChange_22 rfl ?_
      refine v_iconst (1) dX4_readBehindChange_23 (by decide) ?_
      refine v_invVE (m_faulty g h hS) dX4_readBehindChange_24 cwX4_faulty mlX4_111 (ob_2 _) rfl rfl (by decide) (by decide) (Nat.le_of_ble_eq_true rfl) ?_
      refine v_ireturn dX4_readBehindChange_27 rfl rfl ?_
      first | exact absurd c19 c60 | (refine ⟨?_, ?_⟩ <;> (simp only [rBc, rBc1, if_neg c9, if_neg c19]; done)) | (refine ⟨?_, ?_⟩ <;> (simp only [rBc, rBc1, eH, if_neg c9, if_neg c19]; done))
