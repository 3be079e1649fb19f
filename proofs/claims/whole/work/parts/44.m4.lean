def mEm (h : Hp) : Nat → Nat → Int32 → Int32
  | 0, _, s => s
  | j + 1, k, s => mEm h j (k + 1) (if vi h (38, 11) k = -1 then s + 1 else s + 0)
def mCnt (h : Hp) (k : Nat) : Int32 := match k with
  | 0 => vi h (32, 0) 4
  | 1 => vi h (32, 0) 5
  | 2 => vi h (32, 0) 22
  | 3 => vi h (32, 0) 36
  | 4 => mEm h (vi h (32, 0) 36).toNatClampNeg 0 0
  | 5 => vi h (32, 0) 38
  | 6 => vi h (32, 0) 39
  | 7 => vi h (32, 0) 23
  | 8 => vi h (32, 0) 50
  | 9 => vi h (32, 0) 51
  | 10 => vi h (32, 0) 48
  | 11 => vi h (32, 0) 10
  | _ => -1
def mCount (h : Hp) (k : Int32) : Int32 × Hp := (if k < 0 then -1 else mCnt (mZ h) k.toNatClampNeg, mZ h)
set_option maxRecDepth 20000 in
theorem M_count_loop (g : G0) (h : Hp) (hM : SM h) {n : Nat} (hn : n ≤ 20) (e : vi h (32, 0) 36 = nI n) : ∀ (j k : Nat) (s x : Int32), k + j = n → x = nI k → V g kfX14_count 12 0 0 92 [(0, pR (32, 0)), (2, pI s), (3, pI x)] [] h (qE (some (pI (mEm h j k s))) h) (fun _ _ a h' => noX a h') := by
  intro j
  induction j with
  | zero =>
    intro k s x hij hx
    subst hx
    refine v_iload_n dX14_count_92 rfl ?_
    refine v_aload_n dX14_count_93 rfl ?_
    refine v_getI fl_X14_355 dX14_count_94 rfl rfl (Nat.le_of_ble_eq_true rfl) (mh_32_0 hM) ?_
    rw [e]
    refine v_icmp_ge 124 dX14_count_97 (by decide) (fun _ => ?_) (fun z => absurd (nI_le (by omega) (by omega)) z)
    refine v_iload_n dX14_count_124 rfl ?_
    refine v_ireturn dX14_count_125 rfl rfl ?_
    exact ⟨rfl, rfl⟩
  | succ j ih =>
    intro k s x hij hx
    subst hx
    have ncl : (nI k).toNatClampNeg = k := nI_clamp (by omega)
    refine v_iload_n dX14_count_92 rfl ?_
    refine v_aload_n dX14_count_93 rfl ?_
    refine v_getI fl_X14_355 dX14_count_94 rfl rfl (Nat.le_of_ble_eq_true rfl) (mh_32_0 hM) ?_
    rw [e]
    refine v_icmp_ge 124 dX14_count_97 (by decide) (fun z => absurd z (nI_ge (by omega) (by omega))) (fun _ => ?_)
    refine v_iload_n dX14_count_100 rfl ?_
    refine v_aload_n dX14_count_101 rfl ?_
    refine v_getR (some (38, 11)) fl_X14_79 dX14_count_102 rfl rfl (Nat.le_of_ble_eq_true rfl) (mh_32_0 hM) (mr_32_0_41 hM) ?_
    refine v_iload_n dX14_count_105 rfl ?_
    refine v_iald dX14_count_106 rfl (Nat.le_of_ble_eq_true rfl) (mh_38_11 hM) (by rw [ml_38_11 hM]; exact vp_in_nI (by omega) (by decide)) ?_
    rw [ncl]
    refine v_iconst (-1) dX14_count_107 (by decide) ?_
    refine v_icmp_ne 115 dX14_count_108 (by decide) (fun c108 => ?_) (fun c108 => ?_)
    · refine v_iconst (0) dX14_count_115 (by decide) ?_
      refine v_iadd dX14_count_116 ?_
      refine v_istore_n dX14_count_117 (by decide) ?_
      refine v_iinc _ dX14_count_118 rfl rfl (by decide) ?_
      refine v_goto 92 dX14_count_121 (by decide) ?_
      rw [mEm, if_neg c108]
      first | (refine v_loc [(0, pR (32, 0)), (2, pI (s + 1)), (3, pI (nI k + 1))] rfl ?_; exact ih (k + 1) _ _ (by omega) (nI_1 k)) | (refine v_loc [(0, pR (32, 0)), (2, pI (s + 0)), (3, pI (nI k + 1))] rfl ?_; exact ih (k + 1) _ _ (by omega) (nI_1 k))
    · refine v_iconst (1) dX14_count_111 (by decide) ?_
      refine v_goto 116 dX14_count_112 (by decide) ?_
      refine v_iadd dX14_count_116 ?_
      refine v_istore_n dX14_count_117 (by decide) ?_
      refine v_iinc _ dX14_count_118 rfl rfl (by decide) ?_
      refine v_goto 92 dX14_count_121 (by decide) ?_
      rw [mEm, if_pos c108]
      first | (refine v_loc [(0, pR (32, 0)), (2, pI (s + 1)), (3, pI (nI k + 1))] rfl ?_; exact ih (k + 1) _ _ (by omega) (nI_1 k)) | (refine v_loc [(0, pR (32, 0)), (2, pI (s + 0)), (3, pI (nI k + 1))] rfl ?_; exact ih (k + 1) _ _ (by omega) (nI_1 k))
set_option maxRecDepth 20000 in
theorem M_count0 (g : G0) (h : Hp) (i : MI h)  : Mx g yX14_count wX14_count 12 [pR (32, 0), pI (nI 0)] h 0 0 (qE (some (pI (mCnt (mZ h) 0))) (mZ h)) noX := by
  have hM : SM (mZ h) := i.1
  obtain ⟨n, hn, e⟩ := (MIz i).2.2.1
  refine Mx.by kfX14_count rfl (by decide) (Nat.le_of_ble_eq_true rfl) ?_
  refine v_aload_n dX14_count_0 rfl ?_
  refine v_iconst (0) dX14_count_1 (by decide) ?_
  refine v_putI fl_X14_112 (fun z => by cases z) dX14_count_2 rfl rfl (Nat.le_of_ble_eq_true rfl) rfl rfl (mh_32_0 hM) ?_
  change V g _ _ _ _ _ _ _ (mZ h) _ _
  refine v_iload_n dX14_count_5 rfl ?_
  refine v_tableIn 68 dX14_count_6 (by decide) (by decide) (by rfl) (by decide) ?_
  refine v_aload_n dX14_count_68 rfl ?_
  refine v_getI fl_X14_118 dX14_count_69 rfl rfl (Nat.le_of_ble_eq_true rfl) (mh_32_0 hM) ?_
  refine v_ireturn dX14_count_72 rfl rfl ?_
  exact ⟨rfl, rfl⟩
set_option maxRecDepth 20000 in
theorem M_count1 (g : G0) (h : Hp) (i : MI h)  : Mx g yX14_count wX14_count 12 [pR (32, 0), pI (nI 1)] h 0 0 (qE (some (pI (mCnt (mZ h) 1))) (mZ h)) noX := by
  have hM : SM (mZ h) := i.1
  obtain ⟨n, hn, e⟩ := (MIz i).2.2.1
  refine Mx.by kfX14_count rfl (by decide) (Nat.le_of_ble_eq_true rfl) ?_
  refine v_aload_n dX14_count_0 rfl ?_
  refine v_iconst (0) dX14_count_1 (by decide) ?_
  refine v_putI fl_X14_112 (fun z => by cases z) dX14_count_2 rfl rfl (Nat.le_of_ble_eq_true rfl) rfl rfl (mh_32_0 hM) ?_
  change V g _ _ _ _ _ _ _ (mZ h) _ _
  refine v_iload_n dX14_count_5 rfl ?_
  refine v_tableIn 73 dX14_count_6 (by decide) (by decide) (by rfl) (by decide) ?_
  refine v_aload_n dX14_count_73 rfl ?_
  refine v_getI fl_X14_283 dX14_count_74 rfl rfl (Nat.le_of_ble_eq_true rfl) (mh_32_0 hM) ?_
  refine v_ireturn dX14_count_77 rfl rfl ?_
  exact ⟨rfl, rfl⟩
set_option maxRecDepth 20000 in
theorem M_count2 (g : G0) (h : Hp) (i : MI h)  : Mx g yX14_count wX14_count 12 [pR (32, 0), pI (nI 2)] h 0 0 (qE (some (pI (mCnt (mZ h) 2))) (mZ h)) noX := by
  have hM : SM (mZ h) := i.1
  obtain ⟨n, hn, e⟩ := (MIz i).2.2.1
  refine Mx.by kfX14_count rfl (by decide) (Nat.le_of_ble_eq_true rfl) ?_
  refine v_aload_n dX14_count_0 rfl ?_
  refine v_iconst (0) dX14_count_1 (by decide) ?_
  refine v_putI fl_X14_112 (fun z => by cases z) dX14_count_2 rfl rfl (Nat.le_of_ble_eq_true rfl) rfl rfl (mh_32_0 hM) ?_
  change V g _ _ _ _ _ _ _ (mZ h) _ _
  refine v_iload_n dX14_count_5 rfl ?_
  refine v_tableIn 78 dX14_count_6 (by decide) (by decide) (by rfl) (by decide) ?_
  refine v_aload_n dX14_count_78 rfl ?_
  refine v_getI fl_X14_308 dX14_count_79 rfl rfl (Nat.le_of_ble_eq_true rfl) (mh_32_0 hM) ?_
  refine v_ireturn dX14_count_82 rfl rfl ?_
  exact ⟨rfl, rfl⟩
set_option maxRecDepth 20000 in
theorem M_count3 (g : G0) (h : Hp) (i : MI h)  : Mx g yX14_count wX14_count 12 [pR (32, 0), pI (nI 3)] h 0 0 (qE (some (pI (mCnt (mZ h) 3))) (mZ h)) noX := by
  have hM : SM (mZ h) := i.1
  obtain ⟨n, hn, e⟩ := (MIz i).2.2.1
  refine Mx.by kfX14_count rfl (by decide) (Nat.le_of_ble_eq_true rfl) ?_
  refine v_aload_n dX14_count_0 rfl ?_
  refine v_iconst (0) dX14_count_1 (by decide) ?_
  refine v_putI fl_X14_112 (fun z => by cases z) dX14_count_2 rfl rfl (Nat.le_of_ble_eq_true rfl) rfl rfl (mh_32_0 hM) ?_
  change V g _ _ _ _ _ _ _ (mZ h) _ _
  refine v_iload_n dX14_count_5 rfl ?_
  refine v_tableIn 83 dX14_count_6 (by decide) (by decide) (by rfl) (by decide) ?_
  refine v_aload_n dX14_count_83 rfl ?_
  refine v_getI fl_X14_355 dX14_count_84 rfl rfl (Nat.le_of_ble_eq_true rfl) (mh_32_0 hM) ?_
  refine v_ireturn dX14_count_87 rfl rfl ?_
  exact ⟨rfl, rfl⟩
set_option maxRecDepth 20000 in
theorem M_count4 (g : G0) (h : Hp) (i : MI h)  : Mx g yX14_count wX14_count 12 [pR (32, 0), pI (nI 4)] h 0 0 (qE (some (pI (mCnt (mZ h) 4))) (mZ h)) noX := by
  have hM : SM (mZ h) := i.1
  obtain ⟨n, hn, e⟩ := (MIz i).2.2.1
  refine Mx.by kfX14_count rfl (by decide) (Nat.le_of_ble_eq_true rfl) ?_
  refine v_aload_n dX14_count_0 rfl ?_
  refine v_iconst (0) dX14_count_1 (by decide) ?_
  refine v_putI fl_X14_112 (fun z => by cases z) dX14_count_2 rfl rfl (Nat.le_of_ble_eq_true rfl) rfl rfl (mh_32_0 hM) ?_
  change V g _ _ _ _ _ _ _ (mZ h) _ _
  refine v_iload_n dX14_count_5 rfl ?_
  refine v_tableIn 88 dX14_count_6 (by decide) (by decide) (by rfl) (by decide) ?_
  refine v_iconst (0) dX14_count_88 (by decide) ?_
  refine v_istore_n dX14_count_89 (by decide) ?_
  refine v_iconst (0) dX14_count_90 (by decide) ?_
  refine v_istore_n dX14_count_91 (by decide) ?_
  have ec : mCnt (mZ h) 4 = mEm (mZ h) n 0 0 := by show mEm (mZ h) _ 0 0 = _; rw [e, nI_clamp (by omega)]
  rw [ec]
  refine v_loc [(0, pR (32, 0)), (2, pI 0), (3, pI 0)] rfl ?_
  exact M_count_loop g (mZ h) hM hn e n 0 0 0 (by omega) rfl
set_option maxRecDepth 20000 in
theorem M_count5 (g : G0) (h : Hp) (i : MI h)  : Mx g yX14_count wX14_count 12 [pR (32, 0), pI (nI 5)] h 0 0 (qE (some (pI (mCnt (mZ h) 5))) (mZ h)) noX := by
  have hM : SM (mZ h) := i.1
  obtain ⟨n, hn, e⟩ := (MIz i).2.2.1
  refine Mx.by kfX14_count rfl (by decide) (Nat.le_of_ble_eq_true rfl) ?_
  refine v_aload_n dX14_count_0 rfl ?_
  refine v_iconst (0) dX14_count_1 (by decide) ?_
  refine v_putI fl_X14_112 (fun z => by cases z) dX14_count_2 rfl rfl (Nat.le_of_ble_eq_true rfl) rfl rfl (mh_32_0 hM) ?_
  change V g _ _ _ _ _ _ _ (mZ h) _ _
  refine v_iload_n dX14_count_5 rfl ?_
  refine v_tableIn 126 dX14_count_6 (by decide) (by decide) (by rfl) (by decide) ?_
  refine v_aload_n dX14_count_126 rfl ?_
  refine v_getI fl_X14_358 dX14_count_127 rfl rfl (Nat.le_of_ble_eq_true rfl) (mh_32_0 hM) ?_
  refine v_ireturn dX14_count_130 rfl rfl ?_
  exact ⟨rfl, rfl⟩
set_option maxRecDepth 20000 in
theorem M_count6 (g : G0) (h : Hp) (i : MI h)  : Mx g yX14_count wX14_count 12 [pR (32, 0), pI (nI 6)] h 0 0 (qE (some (pI (mCnt (mZ h) 6))) (mZ h)) noX := by
  have hM : SM (mZ h) := i.1
  obtain ⟨n, hn, e⟩ := (MIz i).2.2.1
  refine Mx.by kfX14_count rfl (by decide) (Nat.le_of_ble_eq_true rfl) ?_
  refine v_aload_n dX14_count_0 rfl ?_
  refine v_iconst (0) dX14_count_1 (by decide) ?_
  refine v_putI fl_X14_112 (fun z => by cases z) dX14_count_2 rfl rfl (Nat.le_of_ble_eq_true rfl) rfl rfl (mh_32_0 hM) ?_
  change V g _ _ _ _ _ _ _ (mZ h) _ _
  refine v_iload_n dX14_count_5 rfl ?_
  refine v_tableIn 131 dX14_count_6 (by decide) (by decide) (by rfl) (by decide) ?_
  refine v_aload_n dX14_count_131 rfl ?_
  refine v_getI fl_X14_73 dX14_count_132 rfl rfl (Nat.le_of_ble_eq_true rfl) (mh_32_0 hM) ?_
  refine v_ireturn dX14_count_135 rfl rfl ?_
  exact ⟨rfl, rfl⟩
set_option maxRecDepth 20000 in
theorem M_count7 (g : G0) (h : Hp) (i : MI h)  : Mx g yX14_count wX14_count 12 [pR (32, 0), pI (nI 7)] h 0 0 (qE (some (pI (mCnt (mZ h) 7))) (mZ h)) noX := by
  have hM : SM (mZ h) := i.1
  obtain ⟨n, hn, e⟩ := (MIz i).2.2.1
  refine Mx.by kfX14_count rfl (by decide) (Nat.le_of_ble_eq_true rfl) ?_
  refine v_aload_n dX14_count_0 rfl ?_
  refine v_iconst (0) dX14_count_1 (by decide) ?_
  refine v_putI fl_X14_112 (fun z => by cases z) dX14_count_2 rfl rfl (Nat.le_of_ble_eq_true rfl) rfl rfl (mh_32_0 hM) ?_
  change V g _ _ _ _ _ _ _ (mZ h) _ _
  refine v_iload_n dX14_count_5 rfl ?_
  refine v_tableIn 136 dX14_count_6 (by decide) (by decide) (by rfl) (by decide) ?_
  refine v_aload_n dX14_count_136 rfl ?_
  refine v_getI fl_X14_312 dX14_count_137 rfl rfl (Nat.le_of_ble_eq_true rfl) (mh_32_0 hM) ?_
  refine v_ireturn dX14_count_140 rfl rfl ?_
  exact ⟨rfl, rfl⟩
set_option maxRecDepth 20000 in
theorem M_count8 (g : G0) (h : Hp) (i : MI h)  : Mx g yX14_count wX14_count 12 [pR (32, 0), pI (nI 8)] h 0 0 (qE (some (pI (mCnt (mZ h) 8))) (mZ h)) noX := by
  have hM : SM (mZ h) := i.1
  obtain ⟨n, hn, e⟩ := (MIz i).2.2.1
  refine Mx.by kfX14_count rfl (by decide) (Nat.le_of_ble_eq_true rfl) ?_
  refine v_aload_n dX14_count_0 rfl ?_
  refine v_iconst (0) dX14_count_1 (by decide) ?_
  refine v_putI fl_X14_112 (fun z => by cases z) dX14_count_2 rfl rfl (Nat.le_of_ble_eq_true rfl) rfl rfl (mh_32_0 hM) ?_
  change V g _ _ _ _ _ _ _ (mZ h) _ _
  refine v_iload_n dX14_count_5 rfl ?_
  refine v_tableIn 141 dX14_count_6 (by decide) (by decide) (by rfl) (by decide) ?_
  refine v_aload_n dX14_count_141 rfl ?_
  refine v_getI fl_X14_381 dX14_count_142 rfl rfl (Nat.le_of_ble_eq_true rfl) (mh_32_0 hM) ?_
  refine v_ireturn dX14_count_145 rfl rfl ?_
  exact ⟨rfl, rfl⟩
set_option maxRecDepth 20000 in
theorem M_count9 (g : G0) (h : Hp) (i : MI h)  : Mx g yX14_count wX14_count 12 [pR (32, 0), pI (nI 9)] h 0 0 (qE (some (pI (mCnt (mZ h) 9))) (mZ h)) noX := by
  have hM : SM (mZ h) := i.1
  obtain ⟨n, hn, e⟩ := (MIz i).2.2.1
  refine Mx.by kfX14_count rfl (by decide) (Nat.le_of_ble_eq_true rfl) ?_
  refine v_aload_n dX14_count_0 rfl ?_
  refine v_iconst (0) dX14_count_1 (by decide) ?_
  refine v_putI fl_X14_112 (fun z => by cases z) dX14_count_2 rfl rfl (Nat.le_of_ble_eq_true rfl) rfl rfl (mh_32_0 hM) ?_
  change V g _ _ _ _ _ _ _ (mZ h) _ _
  refine v_iload_n dX14_count_5 rfl ?_
  refine v_tableIn 146 dX14_count_6 (by decide) (by decide) (by rfl) (by decide) ?_
  refine v_aload_n dX14_count_146 rfl ?_
  refine v_getI fl_X14_389 dX14_count_147 rfl rfl (Nat.le_of_ble_eq_true rfl) (mh_32_0 hM) ?_
  refine v_ireturn dX14_count_150 rfl rfl ?_
  exact ⟨rfl, rfl⟩
set_option maxRecDepth 20000 in
theorem M_count10 (g : G0) (h : Hp) (i : MI h)  : Mx g yX14_count wX14_count 12 [pR (32, 0), pI (nI 10)] h 0 0 (qE (some (pI (mCnt (mZ h) 10))) (mZ h)) noX := by
  have hM : SM (mZ h) := i.1
  obtain ⟨n, hn, e⟩ := (MIz i).2.2.1
  refine Mx.by kfX14_count rfl (by decide) (Nat.le_of_ble_eq_true rfl) ?_
  refine v_aload_n dX14_count_0 rfl ?_
  refine v_iconst (0) dX14_count_1 (by decide) ?_
  refine v_putI fl_X14_112 (fun z => by cases z) dX14_count_2 rfl rfl (Nat.le_of_ble_eq_true rfl) rfl rfl (mh_32_0 hM) ?_
  change V g _ _ _ _ _ _ _ (mZ h) _ _
  refine v_iload_n dX14_count_5 rfl ?_
  refine v_tableIn 151 dX14_count_6 (by decide) (by decide) (by rfl) (by decide) ?_
  refine v_aload_n dX14_count_151 rfl ?_
  refine v_getI fl_X14_377 dX14_count_152 rfl rfl (Nat.le_of_ble_eq_true rfl) (mh_32_0 hM) ?_
  refine v_ireturn dX14_count_155 rfl rfl ?_
  exact ⟨rfl, rfl⟩
set_option maxRecDepth 20000 in
theorem M_count11 (g : G0) (h : Hp) (i : MI h)  : Mx g yX14_count wX14_count 12 [pR (32, 0), pI (nI 11)] h 0 0 (qE (some (pI (mCnt (mZ h) 11))) (mZ h)) noX := by
  have hM : SM (mZ h) := i.1
  obtain ⟨n, hn, e⟩ := (MIz i).2.2.1
  refine Mx.by kfX14_count rfl (by decide) (Nat.le_of_ble_eq_true rfl) ?_
  refine v_aload_n dX14_count_0 rfl ?_
  refine v_iconst (0) dX14_count_1 (by decide) ?_
  refine v_putI fl_X14_112 (fun z => by cases z) dX14_count_2 rfl rfl (Nat.le_of_ble_eq_true rfl) rfl rfl (mh_32_0 hM) ?_
  change V g _ _ _ _ _ _ _ (mZ h) _ _
  refine v_iload_n dX14_count_5 rfl ?_
  refine v_tableIn 156 dX14_count_6 (by decide) (by decide) (by rfl) (by decide) ?_
  refine v_aload_n dX14_count_156 rfl ?_
  refine v_getI fl_X14_270 dX14_count_157 rfl rfl (Nat.le_of_ble_eq_true rfl) (mh_32_0 hM) ?_
  refine v_ireturn dX14_count_160 rfl rfl ?_
  exact ⟨rfl, rfl⟩
set_option maxRecDepth 20000 in
theorem M_countO (g : G0) (h : Hp) (i : MI h) {k : Int32} (ko : k.toInt < 0 ∨ 11 < k.toInt) : Mx g yX14_count wX14_count 12 [pR (32, 0), pI k] h 0 0 (qE (some (pI (-1))) (mZ h)) noX := by
  have hM : SM (mZ h) := i.1
  refine Mx.by kfX14_count rfl (by decide) (Nat.le_of_ble_eq_true rfl) ?_
  refine v_aload_n dX14_count_0 rfl ?_
  refine v_iconst (0) dX14_count_1 (by decide) ?_
  refine v_putI fl_X14_112 (fun z => by cases z) dX14_count_2 rfl rfl (Nat.le_of_ble_eq_true rfl) rfl rfl (mh_32_0 hM) ?_
  change V g _ _ _ _ _ _ _ (mZ h) _ _
  refine v_iload_n dX14_count_5 rfl ?_
  refine v_tableOut 161 dX14_count_6 ko (by decide) ?_
  refine v_iconst (-1) dX14_count_161 (by decide) ?_
  refine v_ireturn dX14_count_162 rfl rfl ?_
  exact ⟨rfl, rfl⟩
theorem M_count (g : G0) (h : Hp) (i : MI h) {k : Int32} : Mx g yX14_count wX14_count 12 [pR (32, 0), pI k] h 0 0 (qE (some (pI (mCount h k).1)) (mCount h k).2) noX := by
  by_cases c : k < 0
  · have e : mCount h k = (-1, mZ h) := by simp only [mCount, if_pos c]
    rw [e]
    exact M_countO g h i (Or.inl (Int32.lt_iff_toInt_lt.mp c))
  · obtain ⟨j, hj, rfl⟩ := nI_of c
    have e : mCount h (nI j) = (mCnt (mZ h) j, mZ h) := by simp only [mCount, if_neg c, nI_clamp hj]
    rw [e]
    by_cases l : 11 < j
    · have e2 : mCnt (mZ h) j = -1 := by
        obtain ⟨t, rfl⟩ : ∃ t, j = t + 12 := ⟨j - 12, by omega⟩
        rfl
      rw [e2]
      exact M_countO g h i (Or.inr (by rw [nI_toInt hj]; omega))
    · have : j = 0 ∨ j = 1 ∨ j = 2 ∨ j = 3 ∨ j = 4 ∨ j = 5 ∨ j = 6 ∨ j = 7 ∨ j = 8 ∨ j = 9 ∨ j = 10 ∨ j = 11 := by omega
      rcases this with rfl | rfl | rfl | rfl | rfl | rfl | rfl | rfl | rfl | rfl | rfl | rfl
      · exact M_count0 g h i
      · exact M_count1 g h i
      · exact M_count2 g h i
      · exact M_count3 g h i
      · exact M_count4 g h i
      · exact M_count5 g h i
      · exact M_count6 g h i
      · exact M_count7 g h i
      · exact M_count8 g h i
      · exact M_count9 g h i
      · exact M_count10 g h i
      · exact M_count11 g h i
def mHd (h : Hp) (r d : Int32) : Nat → Nat → Int32 → Int32
  | 0, _, w => w
  | j + 1, k, w => if vi h (38, 13) k = r then (if d < vi h (38, 15) k then mHd h r d j (k + 1) w else if vi h (38, 16) k = -1 then mHd h r d j (k + 1) (vi h (38, 14) k) else if vi h (38, 16) k ≤ d then mHd h r d j (k + 1) w else mHd h r d j (k + 1) (vi h (38, 14) k)) else mHd h r d j (k + 1) w
def mHad (h : Hp) (r d : Int32) : Int32 × Hp := if mRb (mZ h) r = 0 then (-1, mZ h) else if d < 0 then (-1, mZ h) else if d < vi (mZ h) (32, 0) 23 then (mHd (mZ h) r d (vi (mZ h) (32, 0) 37).toNatClampNeg 0 (-2), mZ h) else (-1, mZ h)
set_option maxRecDepth 20000 in
theorem M_had_loop (g : G0) (h : Hp) (hM : SM h) {n : Nat} (hn : n ≤ 100) (e : vi h (32, 0) 37 = nI n) {r d : Int32} : ∀ (j k : Nat) (w x : Int32), k + j = n → x = nI k → V g kfX14_had 12 0 0 33 [(0, pR (32, 0)), (1, pI r), (2, pI d), (3, pI w), (4, pI x)] [] h (qE (some (pI (mHd h r d j k w))) h) (fun _ _ a h' => noX a h') := by
  intro j
  induction j with
  | zero =>
    intro k w x hij hx
    subst hx
    refine v_iload dX14_had_33 rfl ?_
    refine v_aload_n dX14_had_35 rfl ?_
    refine v_getI fl_X14_371 dX14_had_36 rfl rfl (Nat.le_of_ble_eq_true rfl) (mh_32_0 hM) ?_
    rw [e]
    refine v_icmp_ge 100 dX14_had_39 (by decide) (fun _ => ?_) (fun z => absurd (nI_le (by omega) (by omega)) z)
    refine v_iload_n dX14_had_100 rfl ?_
    refine v_ireturn dX14_had_101 rfl rfl ?_
    exact ⟨rfl, rfl⟩
  | succ j ih =>
    intro k w x hij hx
    subst hx
    have ncl : (nI k).toNatClampNeg = k := nI_clamp (by omega)
    refine v_iload dX14_had_33 rfl ?_
    refine v_aload_n dX14_had_35 rfl ?_
    refine v_getI fl_X14_371 dX14_had_36 rfl rfl (Nat.le_of_ble_eq_true rfl) (mh_32_0 hM) ?_
    rw [e]
    refine v_icmp_ge 100 dX14_had_39 (by decide) (fun z => absurd z (nI_ge (by omega) (by omega))) (fun _ => ?_)
    refine v_aload_n dX14_had_42 rfl ?_
    refine v_getR (some (38, 13)) fl_X14_85 dX14_had_43 rfl rfl (Nat.le_of_ble_eq_true rfl) (mh_32_0 hM) (mr_32_0_43 hM) ?_
    refine v_iload dX14_had_46 rfl ?_
    refine v_iald dX14_had_48 rfl (Nat.le_of_ble_eq_true rfl) (mh_38_13 hM) (by rw [ml_38_13 hM]; exact vp_in_nI (by omega) (by decide)) ?_
    rw [ncl]
    refine v_iload_n dX14_had_49 rfl ?_
    refine v_icmp_ne 94 dX14_had_50 (by decide) (fun c50 => ?_) (fun c50 => ?_)
    · refine v_iinc _ dX14_had_94 rfl rfl (by decide) ?_
      refine v_goto 33 dX14_had_97 (by decide) ?_
      rw [mHd, if_neg c50]
      first | (refine v_loc [(0, pR (32, 0)), (1, pI r), (2, pI d), (3, pI w), (4, pI (nI k + 1))] rfl ?_; exact ih (k + 1) _ _ (by omega) (nI_1 k)) | (refine v_loc [(0, pR (32, 0)), (1, pI r), (2, pI d), (3, pI (vi h (38, 14) k)), (4, pI (nI k + 1))] rfl ?_; exact ih (k + 1) _ _ (by omega) (nI_1 k))
    · refine v_aload_n dX14_had_53 rfl ?_
      refine v_getR (some (38, 15)) fl_X14_91 dX14_had_54 rfl rfl (Nat.le_of_ble_eq_true rfl) (mh_32_0 hM) (mr_32_0_45 hM) ?_
      refine v_iload dX14_had_57 rfl ?_
      refine v_iald dX14_had_59 rfl (Nat.le_of_ble_eq_true rfl) (mh_38_15 hM) (by rw [ml_38_15 hM]; exact vp_in_nI (by omega) (by decide)) ?_
      rw [ncl]
      refine v_iload_n dX14_had_60 rfl ?_
      refine v_icmp_gt 94 dX14_had_61 (by decide) (fun c61 => ?_) (fun c61 => ?_)
      · refine v_iinc _ dX14_had_94 rfl rfl (by decide) ?_
        refine v_goto 33 dX14_had_97 (by decide) ?_
        rw [mHd, if_pos c50, if_pos c61]
        first | (refine v_loc [(0, pR (32, 0)), (1, pI r), (2, pI d), (3, pI w), (4, pI (nI k + 1))] rfl ?_; exact ih (k + 1) _ _ (by omega) (nI_1 k)) | (refine v_loc [(0, pR (32, 0)), (1, pI r), (2, pI d), (3, pI (vi h (38, 14) k)), (4, pI (nI k + 1))] rfl ?_; exact ih (k + 1) _ _ (by omega) (nI_1 k))
      · refine v_aload_n dX14_had_64 rfl ?_
        refine v_getR (some (38, 16)) fl_X14_94 dX14_had_65 rfl rfl (Nat.le_of_ble_eq_true rfl) (mh_32_0 hM) (mr_32_0_46 hM) ?_
        refine v_iload dX14_had_68 rfl ?_
        refine v_iald dX14_had_70 rfl (Nat.le_of_ble_eq_true rfl) (mh_38_16 hM) (by rw [ml_38_16 hM]; exact vp_in_nI (by omega) (by decide)) ?_
        rw [ncl]
        refine v_iconst (-1) dX14_had_71 (by decide) ?_
        refine v_icmp_eq 86 dX14_had_72 (by decide) (fun c72 => ?_) (fun c72 => ?_)
        · refine v_aload_n dX14_had_86 rfl ?_
          refine v_getR (some (38, 14)) fl_X14_88 dX14_had_87 rfl rfl (Nat.le_of_ble_eq_true rfl) (mh_32_0 hM) (mr_32_0_44 hM) ?_
          refine v_iload dX14_had_90 rfl ?_
          refine v_iald dX14_had_92 rfl (Nat.le_of_ble_eq_true rfl) (mh_38_14 hM) (by rw [ml_38_14 hM]; exact vp_in_nI (by omega) (by decide)) ?_
          rw [ncl]
          refine v_istore_n dX14_had_93 (by decide) ?_
          refine v_iinc _ dX14_had_94 rfl rfl (by decide) ?_
          refine v_goto 33 dX14_had_97 (by decide) ?_
          rw [mHd, if_pos c50, if_neg c61, if_pos c72]
          first | (refine v_loc [(0, pR (32, 0)), (1, pI r), (2, pI d), (3, pI w), (4, pI (nI k + 1))] rfl ?_; exact ih (k + 1) _ _ (by omega) (nI_1 k)) | (refine v_loc [(0, pR (32, 0)), (1, pI r), (2, pI d), (3, pI (vi h (38, 14) k)), (4, pI (nI k + 1))] rfl ?_; exact ih (k + 1) _ _ (by omega) (nI_1 k))
        · refine v_aload_n dX14_had_75 rfl ?_
          refine v_getR (some (38, 16)) fl_X14_94 dX14_had_76 rfl rfl (Nat.le_of_ble_eq_true rfl) (mh_32_0 hM) (mr_32_0_46 hM) ?_
          refine v_iload dX14_had_79 rfl ?_
          refine v_iald dX14_had_81 rfl (Nat.le_of_ble_eq_true rfl) (mh_38_16 hM) (by rw [ml_38_16 hM]; exact vp_in_nI (by omega) (by decide)) ?_
          rw [ncl]
          refine v_iload_n dX14_had_82 rfl ?_
          refine v_icmp_le 94 dX14_had_83 (by decide) (fun c83 => ?_) (fun c83 => ?_)
          · refine v_iinc _ dX14_had_94 rfl rfl (by decide) ?_
            refine v_goto 33 dX14_had_97 (by decide) ?_
            rw [mHd, if_pos c50, if_neg c61, if_neg c72, if_pos c83]
            first | (refine v_loc [(0, pR (32, 0)), (1, pI r), (2, pI d), (3, pI w), (4, pI (nI k + 1))] rfl ?_; exact ih (k + 1) _ _ (by omega) (nI_1 k)) | (refine v_loc [(0, pR (32, 0)), (1, pI r), (2, pI d), (3, pI (vi h (38, 14) k)), (4, pI (nI k + 1))] rfl ?_; exact ih (k + 1) _ _ (by omega) (nI_1 k))
          · refine v_aload_n dX14_had_86 rfl ?_
            refine v_getR (some (38, 14)) fl_X14_88 dX14_had_87 rfl rfl (Nat.le_of_ble_eq_true rfl) (mh_32_0 hM) (mr_32_0_44 hM) ?_
            refine v_iload dX14_had_90 rfl ?_
            refine v_iald dX14_had_92 rfl (Nat.le_of_ble_eq_true rfl) (mh_38_14 hM) (by rw [ml_38_14 hM]; exact vp_in_nI (by omega) (by decide)) ?_
            rw [ncl]
            refine v_istore_n dX14_had_93 (by decide) ?_
            refine v_iinc _ dX14_had_94 rfl rfl (by decide) ?_
            refine v_goto 33 dX14_had_97 (by decide) ?_
            rw [mHd, if_pos c50, if_neg c61, if_neg c72, if_neg c83]
            first | (refine v_loc [(0, pR (32, 0)), (1, pI r), (2, pI d), (3, pI w), (4, pI (nI k + 1))] rfl ?_; exact ih (k + 1) _ _ (by omega) (nI_1 k)) | (refine v_loc [(0, pR (32, 0)), (1, pI r), (2, pI d), (3, pI (vi h (38, 14) k)), (4, pI (nI k + 1))] rfl ?_; exact ih (k + 1) _ _ (by omega) (nI_1 k))
set_option maxRecDepth 20000 in
theorem M_had (g : G0) (h : Hp) (i : MI h) {r d : Int32} : Mx g yX14_had wX14_had 12 [pR (32, 0), pI r, pI d] h 0 0 (qE (some (pI (mHad h r d).1)) (mHad h r d).2) noX := by
  have hM : SM (mZ h) := i.1
  have i2 := MIz i
  obtain ⟨n, hn, e⟩ := i2.2.2.2.1
  refine Mx.by kfX14_had rfl (by decide) (Nat.le_of_ble_eq_true rfl) ?_
  refine v_aload_n dX14_had_0 rfl ?_
  refine v_iconst (0) dX14_had_1 (by decide) ?_
  refine v_putI fl_X14_112 (fun z => by cases z) dX14_had_2 rfl rfl (Nat.le_of_ble_eq_true rfl) rfl rfl (mh_32_0 hM) ?_
  change V g _ _ _ _ _ _ _ (mZ h) _ _
  refine v_aload_n dX14_had_5 rfl ?_
  refine v_iload_n dX14_had_6 rfl ?_
  refine v_invVE (M_isRoom g (mZ h) hM) dX14_had_7 cwX14_isRoom mlX14_368 (ob_32 _) rfl rfl (by decide) (by decide) (Nat.le_of_ble_eq_true rfl) ?_
  refine v_if_eq 25 dX14_had_10 (by decide) (fun c10 => ?_) (fun c10 => ?_)
  · refine v_iconst (-1) dX14_had_25 (by decide) ?_
    refine v_ireturn dX14_had_26 rfl rfl ?_
    exact ⟨by simp only [mHad, if_pos c10], by simp only [mHad, if_pos c10]⟩
  · refine v_iload_n dX14_had_13 rfl ?_
    refine v_if_lt 25 dX14_had_14 (by decide) (fun c14 => ?_) (fun c14 => ?_)
    · refine v_iconst (-1) dX14_had_25 (by decide) ?_
      refine v_ireturn dX14_had_26 rfl rfl ?_
      exact ⟨by simp only [mHad, if_neg c10, if_pos c14], by simp only [mHad, if_neg c10, if_pos c14]⟩
    · refine v_iload_n dX14_had_17 rfl ?_
      refine v_aload_n dX14_had_18 rfl ?_
      refine v_getI fl_X14_312 dX14_had_19 rfl rfl (Nat.le_of_ble_eq_true rfl) (mh_32_0 hM) ?_
      refine v_icmp_lt 27 dX14_had_22 (by decide) (fun c22 => ?_) (fun c22 => ?_)
      · refine v_bipush (-2) dX14_had_27 (by decide) ?_
        refine v_istore_n dX14_had_29 (by decide) ?_
        refine v_iconst (0) dX14_had_30 (by decide) ?_
        refine v_istore dX14_had_31 (by decide) ?_
        have ee : mHad h r d = (mHd (mZ h) r d n 0 (-2), mZ h) := by simp only [mHad, if_neg c10, if_neg c14, if_pos c22, e, nI_clamp (show n < 2 ^ 31 by omega)]
        rw [ee]
        refine v_loc [(0, pR (32, 0)), (1, pI r), (2, pI d), (3, pI (-2)), (4, pI 0)] rfl ?_
        exact M_had_loop g (mZ h) hM hn e n 0 (-2) 0 (by omega) rfl
      · refine v_iconst (-1) dX14_had_25 (by decide) ?_
        refine v_ireturn dX14_had_26 rfl rfl ?_
        exact ⟨by simp only [mHad, if_neg c10, if_neg c14, if_neg c22], by simp only [mHad, if_neg c10, if_neg c14, if_neg c22]⟩
