set_option maxRecDepth 20000 in
theorem sch_0V (g : G0) {e : Nat} {h : Hp} {w d : Int32} {mc ms : Nat} {Q : Option PV → Hp → Prop} (he : e ≤ 300) (hM : SM h) (ok : ¬ mWb (mZ h) w = 0 ∧ ¬ mDy d = 0) (hL : nI e ≤ vi h (32, 0) 10) (cont : V g kfX14_scheme 54 mc ms 64 [(0, pR (32, 0)), (1, pI w), (2, pI d), (3, pI (nI e))] [] (scA h e) Q (ES g Q)) : V g kfX14_scheme 54 mc ms 0 [(0, pR (32, 0)), (1, pI w), (2, pI d), (3, pI (nI e))] [] h Q (ES g Q) := by
  refine v_aload_n dX14_scheme_0 rfl ?_
  refine v_iconst (0) dX14_scheme_1 (by decide) ?_
  refine v_putI fl_X14_112 (fun z => by cases z) dX14_scheme_2 rfl rfl (Nat.le_of_ble_eq_true rfl) rfl rfl (mh_32_0 hM) ?_
  change V g _ _ _ _ _ _ _ (mZ h) _ _
  refine v_aload_n dX14_scheme_5 rfl ?_
  refine v_iload_n dX14_scheme_6 rfl ?_
  refine v_invVE (M_isWill g (mZ h) hM) dX14_scheme_7 cwX14_isWill mlX14_274 (ob_32 _) rfl rfl (by decide) (by decide) (Nat.le_of_ble_eq_true rfl) ?_
  refine v_if_ne 19 dX14_scheme_10 (by decide) (fun _ => ?_) (fun z => absurd z ok.1)
  refine v_iload_n dX14_scheme_19 rfl ?_
  refine v_invSE (M_isDay g (mZ h)) dX14_scheme_20 cwX14_isDay mlX14_277 rfl rfl (by decide) (by decide) (Nat.le_of_ble_eq_true rfl) ?_
  refine v_if_eq 38 dX14_scheme_23 (by decide) (fun z => absurd z ok.2) (fun _ => ?_)
  refine v_iload_n dX14_scheme_26 rfl ?_
  refine v_if_lt 38 dX14_scheme_27 (by decide) (fun z => absurd z (nI_pos (by omega))) (fun _ => ?_)
  refine v_iload_n dX14_scheme_30 rfl ?_
  refine v_aload_n dX14_scheme_31 rfl ?_
  refine v_getI fl_X14_270 dX14_scheme_32 rfl rfl (Nat.le_of_ble_eq_true rfl) (mh_32_0 hM) ?_
  rw [mZ_v _ _ (by decide)]
  refine v_icmp_le 44 dX14_scheme_35 (by decide) (fun _ => ?_) (fun z => absurd hL z)
  refine v_aload_n dX14_scheme_44 rfl ?_
  refine v_iload_n dX14_scheme_45 rfl ?_
  refine v_putI fl_X14_135 (fun z => by cases z) dX14_scheme_46 rfl rfl (Nat.le_of_ble_eq_true rfl) rfl rfl (mh_32_0 hM) ?_
  refine v_aload_n dX14_scheme_49 rfl ?_
  refine v_iconst (0) dX14_scheme_50 (by decide) ?_
  refine v_putI fl_X14_270 (fun z => by cases z) dX14_scheme_51 rfl rfl (Nat.le_of_ble_eq_true rfl) rfl rfl (mh_32_0 hM) ?_
  refine v_aload_n dX14_scheme_54 rfl ?_
  refine v_iconst (0) dX14_scheme_55 (by decide) ?_
  refine v_putI fl_X14_150 (fun z => by cases z) dX14_scheme_56 rfl rfl (Nat.le_of_ble_eq_true rfl) rfl rfl (mh_32_0 hM) ?_
  refine v_aload_n dX14_scheme_59 rfl ?_
  refine v_iconst (0) dX14_scheme_60 (by decide) ?_
  refine v_putI fl_X14_280 (fun z => by cases z) dX14_scheme_61 rfl rfl (Nat.le_of_ble_eq_true rfl) rfl rfl (mh_32_0 hM) ?_
  change V g _ _ _ _ _ _ _ (scA h e) _ _
  exact cont
theorem sch_0 (g : G0) {e : Nat} {h : Hp} {w d : Int32} {mc ms : Nat} {Q : Option PV → Hp → Prop} (hV : V g kfX14_scheme 54 mc ms 0 [(0, pR (32, 0)), (1, pI w), (2, pI d), (3, pI (nI e))] [] h Q (ES g Q)) : Mx g yX14_scheme wX14_scheme 54 [pR (32, 0), pI w, pI d, pI (nI e)] h mc ms Q noX := Mx.byH kfX14_scheme rfl (by decide) (Nat.le_of_ble_eq_true rfl) (by decide) clX14_24 hV
