def byt (x s : Int32) : Int32 := ((x.toUInt32 >>> (s.toUInt32 &&& Int32.toUInt32 31)).toInt32) &&& 255
def ap1 (h : Hp) (L : Nat) (x s : Int32) : Hp := sI (sI h (13, 0) L (byt x s)) (1, 0) 1 (nI (L + 1))
theorem ap1_l (h : Hp) (L : Nat) (x s : Int32) : vi (ap1 h L x s) (1, 0) 1 = nI (L + 1) := vi_sI_eq _ _ _ _
theorem SXap1 {h : Hp} (hS : SX h) (L : Nat) (x s : Int32) : SX (ap1 h L x s) := SX.sI (SX.sI hS)
def apH (h : Hp) (L : Nat) (x : Int32) : Hp := ap1 (ap1 (ap1 (ap1 h L x 24) (L + 1) x 16) (L + 2) x 8) (L + 3) x 0
theorem apH_l (h : Hp) (L : Nat) (x : Int32) : vi (apH h L x) (1, 0) 1 = nI (L + 4) := ap1_l _ _ _ _
theorem SXap {h : Hp} (hS : SX h) (L : Nat) (x : Int32) : SX (apH h L x) := SXap1 (SXap1 (SXap1 (SXap1 hS _ _ _) _ _ _) _ _ _) _ _ _
set_option maxRecDepth 20000 in
theorem ap_step (g : G0) (h : Hp) (hS : SX h) {L : Nat} {x s : Int32} (e : vi h (1, 0) 1 = nI L) (hL : L < 300) (hs : ¬ s < 0) {Q : Option PV → Hp → Prop} {E : EP} (K : V g kfX8_append 0 0 0 3 [(0, pR (1, 0)), (1, pI x), (2, pI (s + Int32.ofInt (-8)))] [] (ap1 h L x s) Q E) : V g kfX8_append 0 0 0 3 [(0, pR (1, 0)), (1, pI x), (2, pI s)] [] h Q E := by
  have ncl : (nI L).toNatClampNeg = L := nI_clamp (by omega)
  have e1 : ∀ y, vi (sI h (13, 0) L y) (1, 0) 1 = nI L := fun y => by rw [vi_sI_ne _ _ _ _ (by decide)]; exact e
  refine v_iload_n dX8_append_3 rfl ?_
  refine v_if_lt 51 dX8_append_4 (by decide) (fun z => absurd z hs) (fun _ => ?_)
  refine v_aload_n dX8_append_7 rfl ?_
  refine v_getI fl_X8_15 dX8_append_8 rfl rfl (Nat.le_of_ble_eq_true rfl) (xh_1_0 hS) ?_
  refine v_aload_n dX8_append_11 rfl ?_
  refine v_getR (some (13, 0)) fl_X8_9 dX8_append_12 rfl rfl (Nat.le_of_ble_eq_true rfl) (xh_1_0 hS) (xr_1_0_0 hS) ?_
  refine v_alen dX8_append_15 rfl (by decide) (Nat.le_of_ble_eq_true rfl) (xh_13_0 hS) ?_
  rw [e, xl_13_0 hS]
  refine v_icmp_ge 51 dX8_append_16 (by decide) (fun z => absurd z (nI_ge hL (by omega))) (fun _ => ?_)
  refine v_aload_n dX8_append_19 rfl ?_
  refine v_getR (some (13, 0)) fl_X8_9 dX8_append_20 rfl rfl (Nat.le_of_ble_eq_true rfl) (xh_1_0 hS) (xr_1_0_0 hS) ?_
  refine v_aload_n dX8_append_23 rfl ?_
  refine v_getI fl_X8_15 dX8_append_24 rfl rfl (Nat.le_of_ble_eq_true rfl) (xh_1_0 hS) ?_
  rw [e]
  refine v_iload_n dX8_append_27 rfl ?_
  refine v_iload_n dX8_append_28 rfl ?_
  refine v_iushr dX8_append_29 ?_
  refine v_sipush (255) dX8_append_30 (by decide) ?_
  refine v_iand dX8_append_33 ?_
  refine v_iast dX8_append_34 rfl (Nat.le_of_ble_eq_true rfl) (xh_13_0 hS) (by rw [xl_13_0 hS]; exact vp_in_nI hL (by decide)) ?_
  rw [ncl]
  refine v_aload_n dX8_append_35 rfl ?_
  refine v_dup dX8_append_36 rfl ?_
  refine v_getI fl_X8_15 dX8_append_37 rfl rfl (Nat.le_of_ble_eq_true rfl) (xh_1_0 hS) ?_
  rw [e1]
  refine v_iconst (1) dX8_append_40 (by decide) ?_
  refine v_iadd dX8_append_41 ?_
  rw [nI_1]
  refine v_putI fl_X8_15 (fun z => by cases z) dX8_append_42 rfl rfl (Nat.le_of_ble_eq_true rfl) rfl rfl (xh_1_0 hS) ?_
  change V g _ _ _ _ _ _ _ (ap1 h L x s) _ _
  refine v_iinc _ dX8_append_45 rfl rfl (by decide) ?_
  refine v_goto 3 dX8_append_48 (by decide) ?_
  refine v_loc [(0, pR (1, 0)), (1, pI x), (2, pI (s + Int32.ofInt (-8)))] rfl ?_
  exact K
set_option maxRecDepth 20000 in
theorem m_append (g : G0) (h : Hp) (hS : SX h) {L : Nat} {x : Int32} (e : vi h (1, 0) 1 = nI L) (hL : L + 4 ≤ 300) : Mx g yX8_append wX8_append 0 [pR (1, 0), pI x] h 0 0 (qE none (apH h L x)) noX := by
  refine Mx.by kfX8_append rfl (by decide) (Nat.le_of_ble_eq_true rfl) ?_
  refine v_bipush (24) dX8_append_0 (by decide) ?_
  refine v_istore_n dX8_append_2 (by decide) ?_
  refine v_loc [(0, pR (1, 0)), (1, pI x), (2, pI 24)] rfl ?_
  refine ap_step g h hS e (by omega) (by decide) ?_
  rw [show (24 : Int32) + Int32.ofInt (-8) = 16 by decide]
  refine ap_step g _ (SXap1 hS _ _ _) (ap1_l _ _ _ _) (by omega) (by decide) ?_
  rw [show (16 : Int32) + Int32.ofInt (-8) = 8 by decide]
  refine ap_step g _ (SXap1 (SXap1 hS _ _ _) _ _ _) (ap1_l _ _ _ _) (by omega) (by decide) ?_
  rw [show (8 : Int32) + Int32.ofInt (-8) = 0 by decide]
  refine ap_step g _ (SXap1 (SXap1 (SXap1 hS _ _ _) _ _ _) _ _ _) (ap1_l _ _ _ _) (by omega) (by decide) ?_
  rw [show (0 : Int32) + Int32.ofInt (-8) = -8 by decide]
  change V g _ _ _ _ _ _ _ (apH h L x) _ _
  refine v_iload_n dX8_append_3 rfl ?_
  refine v_if_lt 51 dX8_append_4 (by decide) (fun _ => ?_) (fun z => absurd (by decide) z)
  refine v_return dX8_append_51 rfl ?_
  exact ⟨rfl, rfl⟩
def feH (h : Hp) (L : Nat) (a b c d e : Int32) : Hp := apH (apH (apH (apH (apH h L a) (L + 4) b) (L + 8) c) (L + 12) d) (L + 16) e
theorem SXfe {h : Hp} (hS : SX h) (L : Nat) (a b c d e : Int32) : SX (feH h L a b c d e) := SXap (SXap (SXap (SXap (SXap hS _ _) _ _) _ _) _ _) _ _
def xFeed (h : Hp) (a b c d e : Int32) : Int32 × Hp := if vi h (1, 0) 1 + 20 ≤ 300 then (nI ((vi h (1, 0) 1).toNatClampNeg + 20), feH h (vi h (1, 0) 1).toNatClampNeg a b c d e) else (-1, h)
set_option maxRecDepth 20000 in
theorem m_feed (g : G0) (h : Hp) (hS : SX h) {L : Nat} (e1 : vi h (1, 0) 1 = nI L) (hL : L ≤ 300) {a b c d e : Int32} : Mx g yX11_feed wX11_feed 8 [pR (0, 0), pI a, pI b, pI c, pI d, pI e] h 0 0 (qE (some (pI (xFeed h a b c d e).1)) (xFeed h a b c d e).2) noX := by
  have ncl : (vi h (1, 0) 1).toNatClampNeg = L := by rw [e1, nI_clamp (by omega)]
  refine Mx.by kfX11_feed rfl (by decide) (Nat.le_of_ble_eq_true rfl) ?_
  refine v_aload_n dX11_feed_0 rfl ?_
  refine v_getR (some (1, 0)) fl_X11_12 dX11_feed_1 rfl rfl (Nat.le_of_ble_eq_true rfl) (xh_0_0 hS) (xr_0_0_0 hS) ?_
  refine v_getI fl_X11_81 dX11_feed_4 rfl rfl (Nat.le_of_ble_eq_true rfl) (xh_1_0 hS) ?_
  refine v_bipush (20) dX11_feed_7 (by decide) ?_
  refine v_iadd dX11_feed_9 ?_
  refine v_sipush (300) dX11_feed_10 (by decide) ?_
  refine v_icmp_le 18 dX11_feed_13 (by decide) (fun c13 => ?_) (fun c13 => ?_)
  · have c13a := c13
    rw [e1] at c13a
    have hL2 : L + 20 ≤ 300 := by
      have z : nI (L + 20) ≤ nI 300 := by rw [← nI_add]; exact c13a
      exact (nI_leI (by omega) (by omega)).mp z
    refine v_aload_n dX11_feed_18 rfl ?_
    refine v_getR (some (1, 0)) fl_X11_12 dX11_feed_19 rfl rfl (Nat.le_of_ble_eq_true rfl) (xh_0_0 hS) (xr_0_0_0 hS) ?_
    refine v_iload_n dX11_feed_22 rfl ?_
    refine v_invVE (m_append g _ hS e1 (by omega)) dX11_feed_23 cwX8_append mlX11_84 (ob_1 _) rfl rfl (by decide) (by decide) (Nat.le_of_ble_eq_true rfl) ?_
    refine v_aload_n dX11_feed_26 rfl ?_
    refine v_getR (some (1, 0)) fl_X11_12 dX11_feed_27 rfl rfl (Nat.le_of_ble_eq_true rfl) (xh_0_0 (SXap hS _ _)) (xr_0_0_0 (SXap hS _ _)) ?_
    refine v_iload_n dX11_feed_30 rfl ?_
    refine v_invVE (m_append g _ (SXap hS _ _) (apH_l _ _ _) (by omega)) dX11_feed_31 cwX8_append mlX11_84 (ob_1 _) rfl rfl (by decide) (by decide) (Nat.le_of_ble_eq_true rfl) ?_
    refine v_aload_n dX11_feed_34 rfl ?_
    refine v_getR (some (1, 0)) fl_X11_12 dX11_feed_35 rfl rfl (Nat.le_of_ble_eq_true rfl) (xh_0_0 (SXap (SXap hS _ _) _ _)) (xr_0_0_0 (SXap (SXap hS _ _) _ _)) ?_
    refine v_iload_n dX11_feed_38 rfl ?_
    refine v_invVE (m_append g _ (SXap (SXap hS _ _) _ _) (apH_l _ _ _) (by omega)) dX11_feed_39 cwX8_append mlX11_84 (ob_1 _) rfl rfl (by decide) (by decide) (Nat.le_of_ble_eq_true rfl) ?_
    refine v_aload_n dX11_feed_42 rfl ?_
    refine v_getR (some (1, 0)) fl_X11_12 dX11_feed_43 rfl rfl (Nat.le_of_ble_eq_true rfl) (xh_0_0 (SXap (SXap (SXap hS _ _) _ _) _ _)) (xr_0_0_0 (SXap (SXap (SXap hS _ _) _ _) _ _)) ?_
    refine v_iload dX11_feed_46 rfl ?_
    refine v_invVE (m_append g _ (SXap (SXap (SXap hS _ _) _ _) _ _) (apH_l _ _ _) (by omega)) dX11_feed_48 cwX8_append mlX11_84 (ob_1 _) rfl rfl (by decide) (by decide) (Nat.le_of_ble_eq_true rfl) ?_
    refine v_aload_n dX11_feed_51 rfl ?_
    refine v_getR (some (1, 0)) fl_X11_12 dX11_feed_52 rfl rfl (Nat.le_of_ble_eq_true rfl) (xh_0_0 (SXap (SXap (SXap (SXap hS _ _) _ _) _ _) _ _)) (xr_0_0_0 (SXap (SXap (SXap (SXap hS _ _) _ _) _ _) _ _)) ?_
    refine v_iload dX11_feed_55 rfl ?_
    refine v_invVE (m_append g _ (SXap (SXap (SXap (SXap hS _ _) _ _) _ _) _ _) (apH_l _ _ _) (by omega)) dX11_feed_57 cwX8_append mlX11_84 (ob_1 _) rfl rfl (by decide) (by decide) (Nat.le_of_ble_eq_true rfl) ?_
    change V g _ _ _ _ _ _ _ (feH h L a b c d e) _ _
    refine v_aload_n dX11_feed_60 rfl ?_
    refine v_getR (some (1, 0)) fl_X11_12 dX11_feed_61 rfl rfl (Nat.le_of_ble_eq_true rfl) (xh_0_0 (SXfe hS L a b c d e)) (xr_0_0_0 (SXfe hS L a b c d e)) ?_
    refine v_getI fl_X11_81 dX11_feed_64 rfl rfl (Nat.le_of_ble_eq_true rfl) (xh_1_0 (SXfe hS L a b c d e)) ?_
    rw [show vi (feH h L a b c d e) (1, 0) 1 = nI (L + 20) from apH_l _ _ _]
    refine v_ireturn dX11_feed_67 rfl rfl ?_
    first | (refine ⟨?_, ?_⟩ <;> (simp only [xFeed, if_pos c13]; done)) | (refine ⟨?_, ?_⟩ <;> (simp only [xFeed, if_pos c13, ncl]; done))
  · refine v_iconst (-1) dX11_feed_16 (by decide) ?_
    refine v_ireturn dX11_feed_17 rfl rfl ?_
    first | (refine ⟨?_, ?_⟩ <;> (simp only [xFeed, if_neg c13]; done)) | (refine ⟨?_, ?_⟩ <;> (simp only [xFeed, if_neg c13, ncl]; done))
