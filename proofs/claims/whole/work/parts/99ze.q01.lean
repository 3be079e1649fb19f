/-! the reading of a scheme once more, for the spare -/
def SK_s (h : Hp) (_k : Nat) : Prop := 0 < cn h 34 ∧ True ∧ (0 < cn h 50 ∧ 0 < cn h 51 ∧ 0 < cn h 52 ∧ 0 < cn h 53 ∧ 0 < cn h 54 ∧ 0 < cn h 55 ∧ 0 < cn h 56 ∧ 0 < cn h 57 ∧ 0 < cn h 58 ∧ 0 < cn h 59) ∧ (vr h (34, 0) 4 = some (50, 0) ∧ vr h (34, 0) 5 = some (51, 0) ∧ vr h (34, 0) 6 = some (52, 0) ∧ vr h (34, 0) 7 = some (53, 0) ∧ vr h (34, 0) 8 = some (54, 0) ∧ vr h (34, 0) 9 = some (55, 0) ∧ vr h (34, 0) 10 = some (56, 0) ∧ vr h (34, 0) 11 = some (57, 0) ∧ vr h (34, 0) 12 = some (58, 0) ∧ vr h (34, 0) 13 = some (59, 0)) ∧ (ln h (50, 0) = 12 ∧ ln h (51, 0) = 12 ∧ ln h (52, 0) = 12 ∧ ln h (53, 0) = 12 ∧ ln h (54, 0) = 12 ∧ ln h (55, 0) = 130 ∧ ln h (56, 0) = 130 ∧ ln h (57, 0) = 130 ∧ ln h (58, 0) = 48 ∧ ln h (59, 0) = 48) ∧ ∃ c, c ≤ 12 ∧ vi h (34, 0) 2 = nI c
theorem fSRc_s {p : Nat} (h : 50 ≤ p ∧ p < 60) : (Nat.ble 50 p && Nat.blt p 60) = true := by
  rw [Bool.and_eq_true]; exact ⟨Nat.ble_eq.mpr h.1, by unfold Nat.blt; exact Nat.ble_eq.mpr h.2⟩
set_option maxRecDepth 20000 in
theorem M_put33_s (g : G0) (h : Hp) {k n : Nat} (hk : SK_s h k) (hn : n < 130) (en : vi h (34, 0) 3 = nI n) {s m t : Int32} : Mx g yX12_put wX12_put 0 [pR (34, 0), pI s, pI m, pI t] h 0 0 (qE none (mPu h (34, 0) (55, 0) (56, 0) (57, 0) n s m t)) noX := by
  refine Mx.by kfX12_put rfl (by decide) (Nat.le_of_ble_eq_true rfl) ?_
  have ncn : (nI n).toNatClampNeg = n := nI_clamp (by omega)
  refine v_aload_n dX12_put_0 rfl ?_
  refine v_getR (some (55, 0)) fl_X12_27 dX12_put_1 rfl rfl (Nat.le_of_ble_eq_true rfl) hk.1 hk.2.2.2.1.2.2.2.2.2.1 ?_
  refine v_aload_n dX12_put_4 rfl ?_
  refine v_getI fl_X12_42 dX12_put_5 rfl rfl (Nat.le_of_ble_eq_true rfl) hk.1 ?_
  rw [en]
  refine v_iload_n dX12_put_8 rfl ?_
  refine v_iast dX12_put_9 rfl (Nat.le_of_ble_eq_true rfl) hk.2.2.1.2.2.2.2.2.1 (by rw [show ln (h) (55, 0) = 130 from hk.2.2.2.2.1.2.2.2.2.2.1]; exact vp_in_nI hn (by decide)) ?_
  rw [ncn]
  refine v_aload_n dX12_put_10 rfl ?_
  refine v_getR (some (56, 0)) fl_X12_30 dX12_put_11 rfl rfl (Nat.le_of_ble_eq_true rfl) hk.1 hk.2.2.2.1.2.2.2.2.2.2.1 ?_
  refine v_aload_n dX12_put_14 rfl ?_
  refine v_getI fl_X12_42 dX12_put_15 rfl rfl (Nat.le_of_ble_eq_true rfl) hk.1 ?_
  rw [show vi (sI h (55, 0) n s) (34, 0) 3 = nI n from by rw [vi_sI_ne _ _ _ _ (fun z => (by cases z))]; exact en]
  refine v_iload_n dX12_put_18 rfl ?_
  refine v_iast dX12_put_19 rfl (Nat.le_of_ble_eq_true rfl) hk.2.2.1.2.2.2.2.2.2.1 (by rw [show ln (sI h (55, 0) n s) (56, 0) = 130 from hk.2.2.2.2.1.2.2.2.2.2.2.1]; exact vp_in_nI hn (by decide)) ?_
  rw [ncn]
  refine v_aload_n dX12_put_20 rfl ?_
  refine v_getR (some (57, 0)) fl_X12_33 dX12_put_21 rfl rfl (Nat.le_of_ble_eq_true rfl) hk.1 hk.2.2.2.1.2.2.2.2.2.2.2.1 ?_
  refine v_aload_n dX12_put_24 rfl ?_
  refine v_getI fl_X12_42 dX12_put_25 rfl rfl (Nat.le_of_ble_eq_true rfl) hk.1 ?_
  rw [show vi (sI (sI h (55, 0) n s) (56, 0) n m) (34, 0) 3 = nI n from by rw [vi_sI_ne _ _ _ _ (fun z => (by cases z)), vi_sI_ne _ _ _ _ (fun z => (by cases z))]; exact en]
  refine v_iload_n dX12_put_28 rfl ?_
  refine v_iast dX12_put_29 rfl (Nat.le_of_ble_eq_true rfl) hk.2.2.1.2.2.2.2.2.2.2.1 (by rw [show ln (sI (sI h (55, 0) n s) (56, 0) n m) (57, 0) = 130 from hk.2.2.2.2.1.2.2.2.2.2.2.2.1]; exact vp_in_nI hn (by decide)) ?_
  rw [ncn]
  refine v_aload_n dX12_put_30 rfl ?_
  refine v_dup dX12_put_31 rfl ?_
  refine v_getI fl_X12_42 dX12_put_32 rfl rfl (Nat.le_of_ble_eq_true rfl) hk.1 ?_
  rw [show vi (sI (sI (sI h (55, 0) n s) (56, 0) n m) (57, 0) n t) (34, 0) 3 = nI n from by rw [vi_sI_ne _ _ _ _ (fun z => (by cases z)), vi_sI_ne _ _ _ _ (fun z => (by cases z)), vi_sI_ne _ _ _ _ (fun z => (by cases z))]; exact en]
  refine v_iconst (1) dX12_put_35 (by decide) ?_
  refine v_iadd dX12_put_36 ?_
  rw [nI_1]
  refine v_putI fl_X12_42 (fun z => by cases z) dX12_put_37 rfl rfl (Nat.le_of_ble_eq_true rfl) rfl rfl hk.1 ?_
  refine v_return dX12_put_40 rfl ?_
  exact ⟨rfl, rfl⟩
