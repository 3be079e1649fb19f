/-- the writer's two lengths -/
def WI (h : Hp) : Prop := (∃ n, n ≤ 300 ∧ vi h (3, 0) 2 = nI n) ∧ ∃ n, n ≤ 300 ∧ vi h (3, 0) 3 = nI n
def wWr (h : Hp) (x : Int32) : Hp := if nI 300 ≤ vi h (3, 0) 2 then h else sI (sI h (13, 1) (vi h (3, 0) 2).toNatClampNeg x) (3, 0) 2 (vi h (3, 0) 2 + 1)
def wHo (h : Hp) (x : Int32) : Hp := if nI 300 ≤ vi h (3, 0) 3 then h else sI (sI h (13, 2) (vi h (3, 0) 3).toNatClampNeg x) (3, 0) 3 (vi h (3, 0) 3 + 1)
theorem vi_sI_ne (h : Hp) {a b : Ad} (k : Nat) (x : Int32) (j : Nat) (hb : b ≠ a) : vi (sI h a k x) b j = vi h b j := by rw [vi_sI, if_neg (fun z => hb z.1)]
theorem vi_sI_nk (h : Hp) (a : Ad) {b : Ad} {k j : Nat} (x : Int32) (hj : j ≠ k) : vi (sI h a k x) b j = vi h b j := by rw [vi_sI, if_neg (fun z => hj z.2)]
theorem vi_sI_eq (h : Hp) (a : Ad) (k : Nat) (x : Int32) : vi (sI h a k x) a k = x := by rw [vi_sI, if_pos ⟨rfl, rfl⟩]
theorem SXwr {h : Hp} (s : SX h) (x : Int32) : SX (wWr h x) := by unfold wWr; split; exact s; exact SX.sI (SX.sI s)
theorem SXho {h : Hp} (s : SX h) (x : Int32) : SX (wHo h x) := by unfold wHo; split; exact s; exact SX.sI (SX.sI s)
theorem WIwr {h : Hp} (w : WI h) (x : Int32) : WI (wWr h x) := by
  obtain ⟨⟨n, hn, e⟩, m, hm, f⟩ := w
  unfold wWr
  rw [e]
  split
  · exact ⟨⟨n, hn, e⟩, m, hm, f⟩
  · rename_i c
    have : n < 300 := by
      have := Int32.not_le.mp c
      exact (nI_ltI (by omega) (by omega)).mp this
    exact ⟨⟨n + 1, by omega, by rw [vi_sI_eq, nI_1]⟩, m, hm, by rw [vi_sI_nk _ _ _ (by decide), vi_sI_ne _ _ _ _ (by decide)]; exact f⟩
theorem WIho {h : Hp} (w : WI h) (x : Int32) : WI (wHo h x) := by
  obtain ⟨⟨n, hn, e⟩, m, hm, f⟩ := w
  unfold wHo
  rw [f]
  split
  · exact ⟨⟨n, hn, e⟩, m, hm, f⟩
  · rename_i c
    have : m < 300 := by
      have := Int32.not_le.mp c
      exact (nI_ltI (by omega) (by omega)).mp this
    exact ⟨⟨n, hn, by rw [vi_sI_nk _ _ _ (by decide), vi_sI_ne _ _ _ _ (by decide)]; exact e⟩, m + 1, by omega, by rw [vi_sI_eq, nI_1]⟩
set_option maxRecDepth 20000 in
theorem m_write (g : G0) (h : Hp) (hS : SX h) (w : WI h) {x : Int32} : Mx g yX10_write wX10_write 0 [pR (3, 0), pI x] h 0 0 (qE none (wWr h x)) noX := by
  obtain ⟨n, hn, e⟩ := w.1
  have e1 : vi (sI h (13, 1) n x) (3, 0) 2 = nI n := by rw [vi_sI_ne _ _ _ _ (by decide)]; exact e
  refine Mx.by kfX10_write rfl (by decide) (Nat.le_of_ble_eq_true rfl) ?_
  refine v_aload_n dX10_write_0 rfl ?_
  refine v_getI fl_X10_18 dX10_write_1 rfl rfl (Nat.le_of_ble_eq_true rfl) (xh_3_0 hS) ?_
  refine v_aload_n dX10_write_4 rfl ?_
  refine v_getR (some (13, 1)) fl_X10_9 dX10_write_5 rfl rfl (Nat.le_of_ble_eq_true rfl) (xh_3_0 hS) (xr_3_0_0 hS) ?_
  refine v_alen dX10_write_8 rfl (by decide) (Nat.le_of_ble_eq_true rfl) (xh_13_1 hS) ?_
  rw [e, xl_13_1 hS]
  refine v_icmp_ge 32 dX10_write_9 (by decide) (fun c9 => ?_) (fun c9 => ?_)
  · refine v_return dX10_write_32 rfl ?_
    first | (refine ⟨rfl, ?_⟩; rw [wWr, e, if_pos c9]; done) | (refine ⟨rfl, ?_⟩; rw [wWr, e, if_neg c9, ncl]; done)
  · refine v_aload_n dX10_write_12 rfl ?_
    refine v_getR (some (13, 1)) fl_X10_9 dX10_write_13 rfl rfl (Nat.le_of_ble_eq_true rfl) (xh_3_0 hS) (xr_3_0_0 hS) ?_
    refine v_aload_n dX10_write_16 rfl ?_
    refine v_getI fl_X10_18 dX10_write_17 rfl rfl (Nat.le_of_ble_eq_true rfl) (xh_3_0 hS) ?_
    rw [e]
    have ncl : (nI n).toNatClampNeg = n := nI_clamp (by omega)
    have hn3 : n < 300 := (nI_ltI (by omega) (by omega)).mp (Int32.not_le.mp c9)
    refine v_iload_n dX10_write_20 rfl ?_
    refine v_iast dX10_write_21 rfl (Nat.le_of_ble_eq_true rfl) (xh_13_1 hS) (by rw [xl_13_1 hS]; exact vp_in_nI hn3 (by decide)) ?_
    rw [ncl]
    refine v_aload_n dX10_write_22 rfl ?_
    refine v_dup dX10_write_23 rfl ?_
    refine v_getI fl_X10_18 dX10_write_24 rfl rfl (Nat.le_of_ble_eq_true rfl) (xh_3_0 hS) ?_
    rw [e1]
    refine v_iconst (1) dX10_write_27 (by decide) ?_
    refine v_iadd dX10_write_28 ?_
    refine v_putI fl_X10_18 (fun z => by cases z) dX10_write_29 rfl rfl (Nat.le_of_ble_eq_true rfl) rfl rfl (xh_3_0 hS) ?_
    refine v_return dX10_write_32 rfl ?_
    first | (refine ⟨rfl, ?_⟩; rw [wWr, e, if_pos c9]; done) | (refine ⟨rfl, ?_⟩; rw [wWr, e, if_neg c9, ncl]; done)
set_option maxRecDepth 20000 in
theorem m_hold (g : G0) (h : Hp) (hS : SX h) (w : WI h) {x : Int32} : Mx g yX10_hold wX10_hold 0 [pR (3, 0), pI x] h 0 0 (qE none (wHo h x)) noX := by
  obtain ⟨n, hn, e⟩ := w.2
  have e1 : vi (sI h (13, 2) n x) (3, 0) 3 = nI n := by rw [vi_sI_ne _ _ _ _ (by decide)]; exact e
  refine Mx.by kfX10_hold rfl (by decide) (Nat.le_of_ble_eq_true rfl) ?_
  refine v_aload_n dX10_hold_0 rfl ?_
  refine v_getI fl_X10_22 dX10_hold_1 rfl rfl (Nat.le_of_ble_eq_true rfl) (xh_3_0 hS) ?_
  refine v_aload_n dX10_hold_4 rfl ?_
  refine v_getR (some (13, 2)) fl_X10_15 dX10_hold_5 rfl rfl (Nat.le_of_ble_eq_true rfl) (xh_3_0 hS) (xr_3_0_1 hS) ?_
  refine v_alen dX10_hold_8 rfl (by decide) (Nat.le_of_ble_eq_true rfl) (xh_13_2 hS) ?_
  rw [e, xl_13_2 hS]
  refine v_icmp_ge 32 dX10_hold_9 (by decide) (fun c9 => ?_) (fun c9 => ?_)
  · refine v_return dX10_hold_32 rfl ?_
    first | (refine ⟨rfl, ?_⟩; rw [wHo, e, if_pos c9]; done) | (refine ⟨rfl, ?_⟩; rw [wHo, e, if_neg c9, ncl]; done)
  · refine v_aload_n dX10_hold_12 rfl ?_
    refine v_getR (some (13, 2)) fl_X10_15 dX10_hold_13 rfl rfl (Nat.le_of_ble_eq_true rfl) (xh_3_0 hS) (xr_3_0_1 hS) ?_
    refine v_aload_n dX10_hold_16 rfl ?_
    refine v_getI fl_X10_22 dX10_hold_17 rfl rfl (Nat.le_of_ble_eq_true rfl) (xh_3_0 hS) ?_
    rw [e]
    have ncl : (nI n).toNatClampNeg = n := nI_clamp (by omega)
    have hn3 : n < 300 := (nI_ltI (by omega) (by omega)).mp (Int32.not_le.mp c9)
    refine v_iload_n dX10_hold_20 rfl ?_
    refine v_iast dX10_hold_21 rfl (Nat.le_of_ble_eq_true rfl) (xh_13_2 hS) (by rw [xl_13_2 hS]; exact vp_in_nI hn3 (by decide)) ?_
    rw [ncl]
    refine v_aload_n dX10_hold_22 rfl ?_
    refine v_dup dX10_hold_23 rfl ?_
    refine v_getI fl_X10_22 dX10_hold_24 rfl rfl (Nat.le_of_ble_eq_true rfl) (xh_3_0 hS) ?_
    rw [e1]
    refine v_iconst (1) dX10_hold_27 (by decide) ?_
    refine v_iadd dX10_hold_28 ?_
    refine v_putI fl_X10_22 (fun z => by cases z) dX10_hold_29 rfl rfl (Nat.le_of_ble_eq_true rfl) rfl rfl (xh_3_0 hS) ?_
    refine v_return dX10_hold_32 rfl ?_
    first | (refine ⟨rfl, ?_⟩; rw [wHo, e, if_pos c9]; done) | (refine ⟨rfl, ?_⟩; rw [wHo, e, if_neg c9, ncl]; done)
def wRe (x : Int32) : Nat → Hp → Hp
  | 0, h => h
  | n + 1, h => if vi h (13, 2) n = x then wRe x n (wWr (sI h (3, 0) 3 (nI (n + 1) - 1)) x) else h
def wRel (h : Hp) (x : Int32) : Hp := wRe x (vi h (3, 0) 3).toNatClampNeg h
theorem WIdn {h : Hp} (w : WI h) {n : Nat} (hn : n ≤ 300) : WI (sI h (3, 0) 3 (nI n)) := ⟨by obtain ⟨m, hm, e⟩ := w.1; exact ⟨m, hm, by rw [vi_sI_nk _ _ _ (by decide)]; exact e⟩, n, hn, by rw [vi_sI_eq]⟩
theorem wWr_3 (h : Hp) (x : Int32) : vi (wWr h x) (3, 0) 3 = vi h (3, 0) 3 := by
  unfold wWr; split
  · rfl
  · rw [vi_sI_nk _ _ _ (by decide), vi_sI_ne _ _ _ _ (by decide)]
theorem wRe_ok (x : Int32) : ∀ (n : Nat) {h : Hp}, n ≤ 300 → SX h → WI h → SX (wRe x n h) ∧ WI (wRe x n h)
  | 0, _, _, s, w => ⟨s, w⟩
  | n + 1, h, hn, s, w => by
    rw [wRe]
    split
    · exact wRe_ok x n (by omega) (SXwr (SX.sI s) x) (WIwr (by rw [nI_pred]; exact WIdn w (by omega)) x)
    · exact ⟨s, w⟩
theorem wRel_ok {h : Hp} (s : SX h) (w : WI h) (x : Int32) : SX (wRel h x) ∧ WI (wRel h x) := by
  obtain ⟨n, hn, e⟩ := w.2
  unfold wRel
  rw [e, nI_clamp (by omega)]
  exact wRe_ok x n hn s w
set_option maxRecDepth 20000 in
theorem rel_loop (g : G0) (x : Int32) : ∀ (n : Nat) (h : Hp), SX h → WI h → n ≤ 300 → vi h (3, 0) 3 = nI n → V g kfX10_release 1 0 0 0 (pA 0 [pR (3, 0), pI x]) [] h (qE none (wRe x n h)) (fun _ _ a h' => noX a h') := by
  intro n
  induction n with
  | zero =>
    intro h hS w hn e
    refine v_aload_n dX10_release_0 rfl ?_
    refine v_getI fl_X10_22 dX10_release_1 rfl rfl (Nat.le_of_ble_eq_true rfl) (xh_3_0 hS) ?_
    rw [e]
    refine v_if_le 40 dX10_release_4 (by decide) (fun _ => ?_) (fun z => absurd (show nI 0 ≤ 0 by decide) z)
    refine v_return dX10_release_40 rfl ?_
    exact ⟨rfl, rfl⟩
  | succ n ih =>
    intro h hS w hn e
    have ncl : (nI n).toNatClampNeg = n := nI_clamp (by omega)
    have w2 : WI (sI h (3, 0) 3 (nI (n + 1) - 1)) := by rw [nI_pred]; exact WIdn w (by omega)
    refine v_aload_n dX10_release_0 rfl ?_
    refine v_getI fl_X10_22 dX10_release_1 rfl rfl (Nat.le_of_ble_eq_true rfl) (xh_3_0 hS) ?_
    rw [e]
    refine v_if_le 40 dX10_release_4 (by decide) (fun z => absurd z (nI_nle (by omega) (by omega))) (fun _ => ?_)
    refine v_aload_n dX10_release_7 rfl ?_
    refine v_getR (some (13, 2)) fl_X10_15 dX10_release_8 rfl rfl (Nat.le_of_ble_eq_true rfl) (xh_3_0 hS) (xr_3_0_1 hS) ?_
    refine v_aload_n dX10_release_11 rfl ?_
    refine v_getI fl_X10_22 dX10_release_12 rfl rfl (Nat.le_of_ble_eq_true rfl) (xh_3_0 hS) ?_
    rw [e]
    refine v_iconst (1) dX10_release_15 (by decide) ?_
    refine v_isub dX10_release_16 ?_
    rw [nI_pred]
    refine v_iald dX10_release_17 rfl (Nat.le_of_ble_eq_true rfl) (xh_13_2 hS) (by rw [xl_13_2 hS]; exact vp_in_nI (by omega) (by decide)) ?_
    rw [ncl]
    refine v_iload_n dX10_release_18 rfl ?_
    refine v_icmp_ne 40 dX10_release_19 (by decide) (fun c19 => ?_) (fun c19 => ?_)
    · refine v_return dX10_release_40 rfl ?_
      exact ⟨rfl, by rw [wRe, if_neg c19]⟩
    · refine v_aload_n dX10_release_22 rfl ?_
      refine v_dup dX10_release_23 rfl ?_
      refine v_getI fl_X10_22 dX10_release_24 rfl rfl (Nat.le_of_ble_eq_true rfl) (xh_3_0 hS) ?_
      rw [e]
      refine v_iconst (1) dX10_release_27 (by decide) ?_
      refine v_isub dX10_release_28 ?_
      refine v_putI fl_X10_22 (fun z => by cases z) dX10_release_29 rfl rfl (Nat.le_of_ble_eq_true rfl) rfl rfl (xh_3_0 hS) ?_
      refine v_aload_n dX10_release_32 rfl ?_
      refine v_iload_n dX10_release_33 rfl ?_
      refine v_invVE (m_write g _ (SX.sI hS) w2) dX10_release_34 cwX10_write mlX10_32 (ob_3 _) rfl rfl (by decide) (by decide) (Nat.le_of_ble_eq_true rfl) ?_
      refine v_goto 0 dX10_release_37 (by decide) ?_
      rw [wRe, if_pos c19]
      exact ih _ (SXwr (SX.sI hS) x) (WIwr w2 x) (by omega) (by rw [wWr_3, vi_sI_eq, nI_pred])
set_option maxRecDepth 20000 in
theorem m_release (g : G0) (h : Hp) (hS : SX h) (w : WI h) {x : Int32} : Mx g yX10_release wX10_release 1 [pR (3, 0), pI x] h 0 0 (qE none (wRel h x)) noX := by
  obtain ⟨n, hn, e⟩ := w.2
  have ew : wRel h x = wRe x n h := by rw [wRel, e, nI_clamp (by omega)]
  rw [ew]
  refine Mx.by kfX10_release rfl (by decide) (Nat.le_of_ble_eq_true rfl) ?_
  exact rel_loop g x n h hS w hn e
set_option maxRecDepth 20000 in
theorem m_endOne (g : G0) (h : Hp) (hS : SX h) (w : WI h) : Mx g yX10_endOne wX10_endOne 2 [pR (3, 0)] h 0 0 (qE none (wRel h 10)) noX := by
  refine Mx.by kfX10_endOne rfl (by decide) (Nat.le_of_ble_eq_true rfl) ?_
  refine v_aload_n dX10_endOne_0 rfl ?_
  refine v_bipush (10) dX10_endOne_1 (by decide) ?_
  refine v_invVE (m_release g h hS w) dX10_endOne_3 cwX10_release mlX10_25 (ob_3 _) rfl rfl (by decide) (by decide) (Nat.le_of_ble_eq_true rfl) ?_
  refine v_return dX10_endOne_6 rfl ?_
  exact ⟨rfl, rfl⟩
set_option maxRecDepth 20000 in
theorem m_join (g : G0) (h : Hp) (hS : SX h) (w : WI h) {x : Int32} : Mx g yX10_join wX10_join 2 [pR (3, 0), pI x] h 0 0 (qE none (wHo (wRel h 9) x)) noX := by
  refine Mx.by kfX10_join rfl (by decide) (Nat.le_of_ble_eq_true rfl) ?_
  refine v_aload_n dX10_join_0 rfl ?_
  refine v_bipush (9) dX10_join_1 (by decide) ?_
  refine v_invVE (m_release g h hS w) dX10_join_3 cwX10_release mlX10_25 (ob_3 _) rfl rfl (by decide) (by decide) (Nat.le_of_ble_eq_true rfl) ?_
  refine v_aload_n dX10_join_6 rfl ?_
  refine v_iload_n dX10_join_7 rfl ?_
  refine v_invVE (m_hold g _ (wRel_ok hS w 9).1 (wRel_ok hS w 9).2) dX10_join_8 cwX10_hold mlX10_29 (ob_3 _) rfl rfl (by decide) (by decide) (Nat.le_of_ble_eq_true rfl) ?_
  refine v_return dX10_join_11 rfl ?_
  exact ⟨rfl, rfl⟩
def wEa (h : Hp) : Hp := wRel (wRel h 9) 8
theorem wEa_ok {h : Hp} (s : SX h) (w : WI h) : SX (wEa h) ∧ WI (wEa h) := by
  have a := wRel_ok s w 9
  exact wRel_ok a.1 a.2 8
def wPop (h : Hp) : Hp := if vi h (3, 0) 3 ≤ 0 then h else sI h (3, 0) 3 (vi h (3, 0) 3 - 1)
theorem wPop_ok {h : Hp} (s : SX h) (w : WI h) : SX (wPop h) ∧ WI (wPop h) := by
  unfold wPop
  split
  · exact ⟨s, w⟩
  · rename_i c
    refine ⟨SX.sI s, ?_⟩
    obtain ⟨n, hn, e⟩ := w.2
    rw [e] at c ⊢
    cases n with
    | zero => exact absurd (show nI 0 ≤ 0 by decide) c
    | succ n => rw [nI_pred]; exact WIdn w (by omega)
def wCb (h : Hp) : Hp := wRel (wPop (wEa h)) 10
theorem wCb_ok {h : Hp} (s : SX h) (w : WI h) : SX (wCb h) ∧ WI (wCb h) := by
  have a := wEa_ok s w
  have b := wPop_ok a.1 a.2
  exact wRel_ok b.1 b.2 10
set_option maxRecDepth 20000 in
theorem m_endAny (g : G0) (h : Hp) (hS : SX h) (w : WI h) : Mx g yX10_endAny wX10_endAny 2 [pR (3, 0)] h 0 0 (qE none (wEa h)) noX := by
  refine Mx.by kfX10_endAny rfl (by decide) (Nat.le_of_ble_eq_true rfl) ?_
  refine v_aload_n dX10_endAny_0 rfl ?_
  refine v_bipush (9) dX10_endAny_1 (by decide) ?_
  refine v_invVE (m_release g h hS w) dX10_endAny_3 cwX10_release mlX10_25 (ob_3 _) rfl rfl (by decide) (by decide) (Nat.le_of_ble_eq_true rfl) ?_
  refine v_aload_n dX10_endAny_6 rfl ?_
  refine v_bipush (8) dX10_endAny_7 (by decide) ?_
  refine v_invVE (m_release g _ (wRel_ok hS w 9).1 (wRel_ok hS w 9).2) dX10_endAny_9 cwX10_release mlX10_25 (ob_3 _) rfl rfl (by decide) (by decide) (Nat.le_of_ble_eq_true rfl) ?_
  refine v_return dX10_endAny_12 rfl ?_
  exact ⟨rfl, rfl⟩
set_option maxRecDepth 20000 in
theorem m_closeB (g : G0) (h : Hp) (hS : SX h) (w : WI h) : Mx g yX10_closeBracket wX10_closeBracket 2 [pR (3, 0)] h 0 0 (qE none (wCb h)) noX := by
  have hS2 := (wEa_ok hS w).1
  have w3 := wPop_ok (wEa_ok hS w).1 (wEa_ok hS w).2
  refine Mx.by kfX10_closeBracket rfl (by decide) (Nat.le_of_ble_eq_true rfl) ?_
  refine v_aload_n dX10_closeBracket_0 rfl ?_
  refine v_bipush (9) dX10_closeBracket_1 (by decide) ?_
  refine v_invVE (m_release g h hS w) dX10_closeBracket_3 cwX10_release mlX10_25 (ob_3 _) rfl rfl (by decide) (by decide) (Nat.le_of_ble_eq_true rfl) ?_
  refine v_aload_n dX10_closeBracket_6 rfl ?_
  refine v_bipush (8) dX10_closeBracket_7 (by decide) ?_
  refine v_invVE (m_release g _ (wRel_ok hS w 9).1 (wRel_ok hS w 9).2) dX10_closeBracket_9 cwX10_release mlX10_25 (ob_3 _) rfl rfl (by decide) (by decide) (Nat.le_of_ble_eq_true rfl) ?_
  change V g _ _ _ _ _ _ _ (wEa h) _ _
  refine v_aload_n dX10_closeBracket_12 rfl ?_
  refine v_getI fl_X10_22 dX10_closeBracket_13 rfl rfl (Nat.le_of_ble_eq_true rfl) (xh_3_0 hS2) ?_
  refine v_if_le 29 dX10_closeBracket_16 (by decide) (fun c16 => ?_) (fun c16 => ?_)
  · have e : wPop (wEa h) = (if vi (wEa h) (3, 0) 3 ≤ 0 then wEa h else sI (wEa h) (3, 0) 3 (vi (wEa h) (3, 0) 3 - 1)) := rfl
    first | rw [if_pos c16] at e | rw [if_neg c16] at e
    rw [← e]
    refine v_aload_n dX10_closeBracket_29 rfl ?_
    refine v_bipush (10) dX10_closeBracket_30 (by decide) ?_
    refine v_invVE (m_release g (wPop (wEa h)) w3.1 w3.2) dX10_closeBracket_32 cwX10_release mlX10_25 (ob_3 _) rfl rfl (by decide) (by decide) (Nat.le_of_ble_eq_true rfl) ?_
    refine v_return dX10_closeBracket_35 rfl ?_
    exact ⟨rfl, rfl⟩
  · refine v_aload_n dX10_closeBracket_19 rfl ?_
    refine v_dup dX10_closeBracket_20 rfl ?_
    refine v_getI fl_X10_22 dX10_closeBracket_21 rfl rfl (Nat.le_of_ble_eq_true rfl) (xh_3_0 hS2) ?_
    refine v_iconst (1) dX10_closeBracket_24 (by decide) ?_
    refine v_isub dX10_closeBracket_25 ?_
    refine v_putI fl_X10_22 (fun z => by cases z) dX10_closeBracket_26 rfl rfl (Nat.le_of_ble_eq_true rfl) rfl rfl (xh_3_0 hS2) ?_
    have e : wPop (wEa h) = (if vi (wEa h) (3, 0) 3 ≤ 0 then wEa h else sI (wEa h) (3, 0) 3 (vi (wEa h) (3, 0) 3 - 1)) := rfl
    first | rw [if_pos c16] at e | rw [if_neg c16] at e
    rw [← e]
    refine v_aload_n dX10_closeBracket_29 rfl ?_
    refine v_bipush (10) dX10_closeBracket_30 (by decide) ?_
    refine v_invVE (m_release g (wPop (wEa h)) w3.1 w3.2) dX10_closeBracket_32 cwX10_release mlX10_25 (ob_3 _) rfl rfl (by decide) (by decide) (Nat.le_of_ble_eq_true rfl) ?_
    refine v_return dX10_closeBracket_35 rfl ?_
    exact ⟨rfl, rfl⟩
