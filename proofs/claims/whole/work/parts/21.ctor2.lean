def iSch40_0 (h : Hp) (i : Nat) : Hp := aN h (33, i) 4 40 12
def iSch40_1 (h : Hp) (i : Nat) : Hp := aN (iSch40_0 h i) (33, i) 5 41 12
def iSch40_2 (h : Hp) (i : Nat) : Hp := aN (iSch40_1 h i) (33, i) 6 42 12
def iSch40_3 (h : Hp) (i : Nat) : Hp := aN (iSch40_2 h i) (33, i) 7 43 12
def iSch40_4 (h : Hp) (i : Nat) : Hp := aN (iSch40_3 h i) (33, i) 8 44 12
def iSch40_5 (h : Hp) (i : Nat) : Hp := aN (iSch40_4 h i) (33, i) 9 45 130
def iSch40_6 (h : Hp) (i : Nat) : Hp := aN (iSch40_5 h i) (33, i) 10 46 130
def iSch40_7 (h : Hp) (i : Nat) : Hp := aN (iSch40_6 h i) (33, i) 11 47 130
def iSch40_8 (h : Hp) (i : Nat) : Hp := aN (iSch40_7 h i) (33, i) 12 48 48
def iSch40_9 (h : Hp) (i : Nat) : Hp := aN (iSch40_8 h i) (33, i) 13 49 48
theorem iSch40_c0 {h : Hp} {i q x : Nat} (hx : x < cn h q) : x < cn (iSch40_0 h i) q := lt_aN hx
theorem iSch40_c1 {h : Hp} {i q x : Nat} (hx : x < cn h q) : x < cn (iSch40_1 h i) q := lt_aN (iSch40_c0 hx)
theorem iSch40_c2 {h : Hp} {i q x : Nat} (hx : x < cn h q) : x < cn (iSch40_2 h i) q := lt_aN (iSch40_c1 hx)
theorem iSch40_c3 {h : Hp} {i q x : Nat} (hx : x < cn h q) : x < cn (iSch40_3 h i) q := lt_aN (iSch40_c2 hx)
theorem iSch40_c4 {h : Hp} {i q x : Nat} (hx : x < cn h q) : x < cn (iSch40_4 h i) q := lt_aN (iSch40_c3 hx)
theorem iSch40_c5 {h : Hp} {i q x : Nat} (hx : x < cn h q) : x < cn (iSch40_5 h i) q := lt_aN (iSch40_c4 hx)
theorem iSch40_c6 {h : Hp} {i q x : Nat} (hx : x < cn h q) : x < cn (iSch40_6 h i) q := lt_aN (iSch40_c5 hx)
theorem iSch40_c7 {h : Hp} {i q x : Nat} (hx : x < cn h q) : x < cn (iSch40_7 h i) q := lt_aN (iSch40_c6 hx)
theorem iSch40_c8 {h : Hp} {i q x : Nat} (hx : x < cn h q) : x < cn (iSch40_8 h i) q := lt_aN (iSch40_c7 hx)
theorem iSch40_c9 {h : Hp} {i q x : Nat} (hx : x < cn h q) : x < cn (iSch40_9 h i) q := lt_aN (iSch40_c8 hx)
set_option maxRecDepth 20000 in
theorem m_Scheme_init40 (g : G0) (h : Hp) {i : Nat} (hi : i < cn h 33) : Mx g yX12_init wX12_init 1 [pR (33, i)] h 10 546 (qE none (iSch40_9 h i)) noX := by
  refine Mx.by kfX12_init rfl (by decide) (Nat.le_of_ble_eq_true rfl) ?_
  refine v_aload_n dX12_init_0 rfl ?_
  refine v_obj dX12_init_1 moX12_3 obj_i obj_c (by intro z; cases z) (by decide) (Nat.le_of_ble_eq_true rfl) ?_
  refine v_aload_n dX12_init_4 rfl ?_
  refine v_bipush (12) dX12_init_5 (by decide) ?_
  refine v_newa 40 9 534 dX12_init_7 rfl ac_0 (by decide) rfl (by decide) (by decide) (by decide) (Nat.le_of_ble_eq_true rfl) (Nat.le_of_ble_eq_true rfl) ?_
  rw [show (12 : Int32).toNatClampNeg = 12 by decide]
  refine v_putR fl_X12_9 (fun _ => ⟨rfl, rfl, _, rfl, rfl⟩) dX12_init_9 rfl rfl (Nat.le_of_ble_eq_true rfl) rfl (lt_nw hi) ?_
  change V g _ _ _ _ _ _ _ (iSch40_0 h i) _ _
  refine v_aload_n dX12_init_12 rfl ?_
  refine v_bipush (12) dX12_init_13 (by decide) ?_
  refine v_newa 41 8 522 dX12_init_15 rfl ac_0 (by decide) rfl (by decide) (by decide) (by decide) (Nat.le_of_ble_eq_true rfl) (Nat.le_of_ble_eq_true rfl) ?_
  rw [show (12 : Int32).toNatClampNeg = 12 by decide]
  refine v_putR fl_X12_15 (fun _ => ⟨rfl, rfl, _, rfl, rfl⟩) dX12_init_17 rfl rfl (Nat.le_of_ble_eq_true rfl) rfl (lt_nw (iSch40_c0 hi)) ?_
  change V g _ _ _ _ _ _ _ (iSch40_1 h i) _ _
  refine v_aload_n dX12_init_20 rfl ?_
  refine v_bipush (12) dX12_init_21 (by decide) ?_
  refine v_newa 42 7 510 dX12_init_23 rfl ac_0 (by decide) rfl (by decide) (by decide) (by decide) (Nat.le_of_ble_eq_true rfl) (Nat.le_of_ble_eq_true rfl) ?_
  rw [show (12 : Int32).toNatClampNeg = 12 by decide]
  refine v_putR fl_X12_18 (fun _ => ⟨rfl, rfl, _, rfl, rfl⟩) dX12_init_25 rfl rfl (Nat.le_of_ble_eq_true rfl) rfl (lt_nw (iSch40_c1 hi)) ?_
  change V g _ _ _ _ _ _ _ (iSch40_2 h i) _ _
  refine v_aload_n dX12_init_28 rfl ?_
  refine v_bipush (12) dX12_init_29 (by decide) ?_
  refine v_newa 43 6 498 dX12_init_31 rfl ac_0 (by decide) rfl (by decide) (by decide) (by decide) (Nat.le_of_ble_eq_true rfl) (Nat.le_of_ble_eq_true rfl) ?_
  rw [show (12 : Int32).toNatClampNeg = 12 by decide]
  refine v_putR fl_X12_21 (fun _ => ⟨rfl, rfl, _, rfl, rfl⟩) dX12_init_33 rfl rfl (Nat.le_of_ble_eq_true rfl) rfl (lt_nw (iSch40_c2 hi)) ?_
  change V g _ _ _ _ _ _ _ (iSch40_3 h i) _ _
  refine v_aload_n dX12_init_36 rfl ?_
  refine v_bipush (12) dX12_init_37 (by decide) ?_
  refine v_newa 44 5 486 dX12_init_39 rfl ac_0 (by decide) rfl (by decide) (by decide) (by decide) (Nat.le_of_ble_eq_true rfl) (Nat.le_of_ble_eq_true rfl) ?_
  rw [show (12 : Int32).toNatClampNeg = 12 by decide]
  refine v_putR fl_X12_24 (fun _ => ⟨rfl, rfl, _, rfl, rfl⟩) dX12_init_41 rfl rfl (Nat.le_of_ble_eq_true rfl) rfl (lt_nw (iSch40_c3 hi)) ?_
  change V g _ _ _ _ _ _ _ (iSch40_4 h i) _ _
  refine v_aload_n dX12_init_44 rfl ?_
  refine v_sipush (130) dX12_init_45 (by decide) ?_
  refine v_newa 45 4 356 dX12_init_48 rfl ac_0 (by decide) rfl (by decide) (by decide) (by decide) (Nat.le_of_ble_eq_true rfl) (Nat.le_of_ble_eq_true rfl) ?_
  rw [show (130 : Int32).toNatClampNeg = 130 by decide]
  refine v_putR fl_X12_27 (fun _ => ⟨rfl, rfl, _, rfl, rfl⟩) dX12_init_50 rfl rfl (Nat.le_of_ble_eq_true rfl) rfl (lt_nw (iSch40_c4 hi)) ?_
  change V g _ _ _ _ _ _ _ (iSch40_5 h i) _ _
  refine v_aload_n dX12_init_53 rfl ?_
  refine v_sipush (130) dX12_init_54 (by decide) ?_
  refine v_newa 46 3 226 dX12_init_57 rfl ac_0 (by decide) rfl (by decide) (by decide) (by decide) (Nat.le_of_ble_eq_true rfl) (Nat.le_of_ble_eq_true rfl) ?_
  rw [show (130 : Int32).toNatClampNeg = 130 by decide]
  refine v_putR fl_X12_30 (fun _ => ⟨rfl, rfl, _, rfl, rfl⟩) dX12_init_59 rfl rfl (Nat.le_of_ble_eq_true rfl) rfl (lt_nw (iSch40_c5 hi)) ?_
  change V g _ _ _ _ _ _ _ (iSch40_6 h i) _ _
  refine v_aload_n dX12_init_62 rfl ?_
  refine v_sipush (130) dX12_init_63 (by decide) ?_
  refine v_newa 47 2 96 dX12_init_66 rfl ac_0 (by decide) rfl (by decide) (by decide) (by decide) (Nat.le_of_ble_eq_true rfl) (Nat.le_of_ble_eq_true rfl) ?_
  rw [show (130 : Int32).toNatClampNeg = 130 by decide]
  refine v_putR fl_X12_33 (fun _ => ⟨rfl, rfl, _, rfl, rfl⟩) dX12_init_68 rfl rfl (Nat.le_of_ble_eq_true rfl) rfl (lt_nw (iSch40_c6 hi)) ?_
  change V g _ _ _ _ _ _ _ (iSch40_7 h i) _ _
  refine v_aload_n dX12_init_71 rfl ?_
  refine v_bipush (48) dX12_init_72 (by decide) ?_
  refine v_newa 48 1 48 dX12_init_74 rfl ac_0 (by decide) rfl (by decide) (by decide) (by decide) (Nat.le_of_ble_eq_true rfl) (Nat.le_of_ble_eq_true rfl) ?_
  rw [show (48 : Int32).toNatClampNeg = 48 by decide]
  refine v_putR fl_X12_36 (fun _ => ⟨rfl, rfl, _, rfl, rfl⟩) dX12_init_76 rfl rfl (Nat.le_of_ble_eq_true rfl) rfl (lt_nw (iSch40_c7 hi)) ?_
  change V g _ _ _ _ _ _ _ (iSch40_8 h i) _ _
  refine v_aload_n dX12_init_79 rfl ?_
  refine v_bipush (48) dX12_init_80 (by decide) ?_
  refine v_newa 49 0 0 dX12_init_82 rfl ac_0 (by decide) rfl (by decide) (by decide) (by decide) (Nat.le_of_ble_eq_true rfl) (Nat.le_of_ble_eq_true rfl) ?_
  rw [show (48 : Int32).toNatClampNeg = 48 by decide]
  refine v_putR fl_X12_39 (fun _ => ⟨rfl, rfl, _, rfl, rfl⟩) dX12_init_84 rfl rfl (Nat.le_of_ble_eq_true rfl) rfl (lt_nw (iSch40_c8 hi)) ?_
  change V g _ _ _ _ _ _ _ (iSch40_9 h i) _ _
  refine v_return dX12_init_87 rfl ?_
  exact ⟨rfl, rfl⟩
def iSch50_0 (h : Hp) (i : Nat) : Hp := aN h (34, i) 4 50 12
def iSch50_1 (h : Hp) (i : Nat) : Hp := aN (iSch50_0 h i) (34, i) 5 51 12
def iSch50_2 (h : Hp) (i : Nat) : Hp := aN (iSch50_1 h i) (34, i) 6 52 12
def iSch50_3 (h : Hp) (i : Nat) : Hp := aN (iSch50_2 h i) (34, i) 7 53 12
def iSch50_4 (h : Hp) (i : Nat) : Hp := aN (iSch50_3 h i) (34, i) 8 54 12
def iSch50_5 (h : Hp) (i : Nat) : Hp := aN (iSch50_4 h i) (34, i) 9 55 130
def iSch50_6 (h : Hp) (i : Nat) : Hp := aN (iSch50_5 h i) (34, i) 10 56 130
def iSch50_7 (h : Hp) (i : Nat) : Hp := aN (iSch50_6 h i) (34, i) 11 57 130
def iSch50_8 (h : Hp) (i : Nat) : Hp := aN (iSch50_7 h i) (34, i) 12 58 48
def iSch50_9 (h : Hp) (i : Nat) : Hp := aN (iSch50_8 h i) (34, i) 13 59 48
theorem iSch50_c0 {h : Hp} {i q x : Nat} (hx : x < cn h q) : x < cn (iSch50_0 h i) q := lt_aN hx
theorem iSch50_c1 {h : Hp} {i q x : Nat} (hx : x < cn h q) : x < cn (iSch50_1 h i) q := lt_aN (iSch50_c0 hx)
theorem iSch50_c2 {h : Hp} {i q x : Nat} (hx : x < cn h q) : x < cn (iSch50_2 h i) q := lt_aN (iSch50_c1 hx)
theorem iSch50_c3 {h : Hp} {i q x : Nat} (hx : x < cn h q) : x < cn (iSch50_3 h i) q := lt_aN (iSch50_c2 hx)
theorem iSch50_c4 {h : Hp} {i q x : Nat} (hx : x < cn h q) : x < cn (iSch50_4 h i) q := lt_aN (iSch50_c3 hx)
theorem iSch50_c5 {h : Hp} {i q x : Nat} (hx : x < cn h q) : x < cn (iSch50_5 h i) q := lt_aN (iSch50_c4 hx)
theorem iSch50_c6 {h : Hp} {i q x : Nat} (hx : x < cn h q) : x < cn (iSch50_6 h i) q := lt_aN (iSch50_c5 hx)
theorem iSch50_c7 {h : Hp} {i q x : Nat} (hx : x < cn h q) : x < cn (iSch50_7 h i) q := lt_aN (iSch50_c6 hx)
theorem iSch50_c8 {h : Hp} {i q x : Nat} (hx : x < cn h q) : x < cn (iSch50_8 h i) q := lt_aN (iSch50_c7 hx)
theorem iSch50_c9 {h : Hp} {i q x : Nat} (hx : x < cn h q) : x < cn (iSch50_9 h i) q := lt_aN (iSch50_c8 hx)
set_option maxRecDepth 20000 in
theorem m_Scheme_init50 (g : G0) (h : Hp) {i : Nat} (hi : i < cn h 34) : Mx g yX12_init wX12_init 1 [pR (34, i)] h 10 546 (qE none (iSch50_9 h i)) noX := by
  refine Mx.by kfX12_init rfl (by decide) (Nat.le_of_ble_eq_true rfl) ?_
  refine v_aload_n dX12_init_0 rfl ?_
  refine v_obj dX12_init_1 moX12_3 obj_i obj_c (by intro z; cases z) (by decide) (Nat.le_of_ble_eq_true rfl) ?_
  refine v_aload_n dX12_init_4 rfl ?_
  refine v_bipush (12) dX12_init_5 (by decide) ?_
  refine v_newa 50 9 534 dX12_init_7 rfl ac_0 (by decide) rfl (by decide) (by decide) (by decide) (Nat.le_of_ble_eq_true rfl) (Nat.le_of_ble_eq_true rfl) ?_
  rw [show (12 : Int32).toNatClampNeg = 12 by decide]
  refine v_putR fl_X12_9 (fun _ => ⟨rfl, rfl, _, rfl, rfl⟩) dX12_init_9 rfl rfl (Nat.le_of_ble_eq_true rfl) rfl (lt_nw hi) ?_
  change V g _ _ _ _ _ _ _ (iSch50_0 h i) _ _
  refine v_aload_n dX12_init_12 rfl ?_
  refine v_bipush (12) dX12_init_13 (by decide) ?_
  refine v_newa 51 8 522 dX12_init_15 rfl ac_0 (by decide) rfl (by decide) (by decide) (by decide) (Nat.le_of_ble_eq_true rfl) (Nat.le_of_ble_eq_true rfl) ?_
  rw [show (12 : Int32).toNatClampNeg = 12 by decide]
  refine v_putR fl_X12_15 (fun _ => ⟨rfl, rfl, _, rfl, rfl⟩) dX12_init_17 rfl rfl (Nat.le_of_ble_eq_true rfl) rfl (lt_nw (iSch50_c0 hi)) ?_
  change V g _ _ _ _ _ _ _ (iSch50_1 h i) _ _
  refine v_aload_n dX12_init_20 rfl ?_
  refine v_bipush (12) dX12_init_21 (by decide) ?_
  refine v_newa 52 7 510 dX12_init_23 rfl ac_0 (by decide) rfl (by decide) (by decide) (by decide) (Nat.le_of_ble_eq_true rfl) (Nat.le_of_ble_eq_true rfl) ?_
  rw [show (12 : Int32).toNatClampNeg = 12 by decide]
  refine v_putR fl_X12_18 (fun _ => ⟨rfl, rfl, _, rfl, rfl⟩) dX12_init_25 rfl rfl (Nat.le_of_ble_eq_true rfl) rfl (lt_nw (iSch50_c1 hi)) ?_
  change V g _ _ _ _ _ _ _ (iSch50_2 h i) _ _
  refine v_aload_n dX12_init_28 rfl ?_
  refine v_bipush (12) dX12_init_29 (by decide) ?_
  refine v_newa 53 6 498 dX12_init_31 rfl ac_0 (by decide) rfl (by decide) (by decide) (by decide) (Nat.le_of_ble_eq_true rfl) (Nat.le_of_ble_eq_true rfl) ?_
  rw [show (12 : Int32).toNatClampNeg = 12 by decide]
  refine v_putR fl_X12_21 (fun _ => ⟨rfl, rfl, _, rfl, rfl⟩) dX12_init_33 rfl rfl (Nat.le_of_ble_eq_true rfl) rfl (lt_nw (iSch50_c2 hi)) ?_
  change V g _ _ _ _ _ _ _ (iSch50_3 h i) _ _
  refine v_aload_n dX12_init_36 rfl ?_
  refine v_bipush (12) dX12_init_37 (by decide) ?_
  refine v_newa 54 5 486 dX12_init_39 rfl ac_0 (by decide) rfl (by decide) (by decide) (by decide) (Nat.le_of_ble_eq_true rfl) (Nat.le_of_ble_eq_true rfl) ?_
  rw [show (12 : Int32).toNatClampNeg = 12 by decide]
  refine v_putR fl_X12_24 (fun _ => ⟨rfl, rfl, _, rfl, rfl⟩) dX12_init_41 rfl rfl (Nat.le_of_ble_eq_true rfl) rfl (lt_nw (iSch50_c3 hi)) ?_
  change V g _ _ _ _ _ _ _ (iSch50_4 h i) _ _
  refine v_aload_n dX12_init_44 rfl ?_
  refine v_sipush (130) dX12_init_45 (by decide) ?_
  refine v_newa 55 4 356 dX12_init_48 rfl ac_0 (by decide) rfl (by decide) (by decide) (by decide) (Nat.le_of_ble_eq_true rfl) (Nat.le_of_ble_eq_true rfl) ?_
  rw [show (130 : Int32).toNatClampNeg = 130 by decide]
  refine v_putR fl_X12_27 (fun _ => ⟨rfl, rfl, _, rfl, rfl⟩) dX12_init_50 rfl rfl (Nat.le_of_ble_eq_true rfl) rfl (lt_nw (iSch50_c4 hi)) ?_
  change V g _ _ _ _ _ _ _ (iSch50_5 h i) _ _
  refine v_aload_n dX12_init_53 rfl ?_
  refine v_sipush (130) dX12_init_54 (by decide) ?_
  refine v_newa 56 3 226 dX12_init_57 rfl ac_0 (by decide) rfl (by decide) (by decide) (by decide) (Nat.le_of_ble_eq_true rfl) (Nat.le_of_ble_eq_true rfl) ?_
  rw [show (130 : Int32).toNatClampNeg = 130 by decide]
  refine v_putR fl_X12_30 (fun _ => ⟨rfl, rfl, _, rfl, rfl⟩) dX12_init_59 rfl rfl (Nat.le_of_ble_eq_true rfl) rfl (lt_nw (iSch50_c5 hi)) ?_
  change V g _ _ _ _ _ _ _ (iSch50_6 h i) _ _
  refine v_aload_n dX12_init_62 rfl ?_
  refine v_sipush (130) dX12_init_63 (by decide) ?_
  refine v_newa 57 2 96 dX12_init_66 rfl ac_0 (by decide) rfl (by decide) (by decide) (by decide) (Nat.le_of_ble_eq_true rfl) (Nat.le_of_ble_eq_true rfl) ?_
  rw [show (130 : Int32).toNatClampNeg = 130 by decide]
  refine v_putR fl_X12_33 (fun _ => ⟨rfl, rfl, _, rfl, rfl⟩) dX12_init_68 rfl rfl (Nat.le_of_ble_eq_true rfl) rfl (lt_nw (iSch50_c6 hi)) ?_
  change V g _ _ _ _ _ _ _ (iSch50_7 h i) _ _
  refine v_aload_n dX12_init_71 rfl ?_
  refine v_bipush (48) dX12_init_72 (by decide) ?_
  refine v_newa 58 1 48 dX12_init_74 rfl ac_0 (by decide) rfl (by decide) (by decide) (by decide) (Nat.le_of_ble_eq_true rfl) (Nat.le_of_ble_eq_true rfl) ?_
  rw [show (48 : Int32).toNatClampNeg = 48 by decide]
  refine v_putR fl_X12_36 (fun _ => ⟨rfl, rfl, _, rfl, rfl⟩) dX12_init_76 rfl rfl (Nat.le_of_ble_eq_true rfl) rfl (lt_nw (iSch50_c7 hi)) ?_
  change V g _ _ _ _ _ _ _ (iSch50_8 h i) _ _
  refine v_aload_n dX12_init_79 rfl ?_
  refine v_bipush (48) dX12_init_80 (by decide) ?_
  refine v_newa 59 0 0 dX12_init_82 rfl ac_0 (by decide) rfl (by decide) (by decide) (by decide) (Nat.le_of_ble_eq_true rfl) (Nat.le_of_ble_eq_true rfl) ?_
  rw [show (48 : Int32).toNatClampNeg = 48 by decide]
  refine v_putR fl_X12_39 (fun _ => ⟨rfl, rfl, _, rfl, rfl⟩) dX12_init_84 rfl rfl (Nat.le_of_ble_eq_true rfl) rfl (lt_nw (iSch50_c8 hi)) ?_
  change V g _ _ _ _ _ _ _ (iSch50_9 h i) _ _
  refine v_return dX12_init_87 rfl ?_
  exact ⟨rfl, rfl⟩
theorem hp_vr {h h' : Hp} (h1 : cn h' = cn h) (h2 : ln h' = ln h) (h3 : vi h' = vi h) (h4 : vl h' = vl h) (h5 : ∀ a k, vr h' a k = vr h a k) : h' = h := by
  obtain ⟨a1, a2, a3, a4, a5⟩ := h
  obtain ⟨b1, b2, b3, b4, b5⟩ := h'
  have e5 : b5 = a5 := funext fun a => funext fun k => h5 a k
  simp only [cn, ln, vi, vl] at h1 h2 h3 h4
  subst h1 h2 h3 h4 e5
  rfl
def iStop (h : Hp) (i : Nat) : Hp := sR (sR (sR (sR h (35, i) 1 none) (35, i) 3 none) (35, i) 0 none) (35, i) 2 none
set_option maxRecDepth 20000 in
theorem m_E_th (g : G0) (h : Hp) {i : Nat} (hi : i < cn h 35) : Mx g yE_th wE_th 1 [pR (35, i), pN, pN, pI 0, pI 0] h 0 0 (qE none (iStop h i)) noX := by
  refine Mx.by kfE_th rfl (by decide) (Nat.le_of_ble_eq_true rfl) ?_
  refine v_aload_n dE_th_0 rfl ?_
  refine v_obj dE_th_1 moThr_1 obj_i obj_c (by intro z; cases z) (by decide) (Nat.le_of_ble_eq_true rfl) ?_
  refine v_aload_n dE_th_4 rfl ?_
  refine v_aload_n dE_th_5 rfl ?_
  refine v_putR fl_Thr_7 (fun z => by cases z) dE_th_6 rfl rfl (Nat.le_of_ble_eq_true rfl) rfl hi ?_
  refine v_aload_n dE_th_9 rfl ?_
  refine v_getst (v := pO (gN g 1)) dE_th_10 (lw_g_in (i := 1148) (by decide +kernel) (by decide +kernel)) (fun s hs => hs.2.2.2.2.2.2.1) (fun a z => ?_) ?_
  · unfold gN at z; split at z <;> cases z; exact Nat.le_of_ble_eq_true rfl
  refine v_putR fl_Thr_17 (fun z => by cases z) dE_th_13 rfl rfl (Nat.le_of_ble_eq_true rfl) rfl hi ?_
  refine v_aload_n dE_th_16 rfl ?_
  refine v_getst (v := pO (gN g 2)) dE_th_17 (lw_g_in (i := 1150) (by decide +kernel) (by decide +kernel)) (fun s hs => hs.2.2.2.2.2.2.2.1) (fun a z => ?_) ?_
  · unfold gN at z; split at z <;> cases z; exact Nat.le_of_ble_eq_true rfl
  refine v_putR fl_Thr_24 (fun z => by cases z) dE_th_20 rfl rfl (Nat.le_of_ble_eq_true rfl) rfl hi ?_
  refine v_iload dE_th_23 rfl ?_
  refine v_if_eq 36 dE_th_25 (by decide) (fun _ => ?_) (fun z => absurd rfl z)
  refine v_aload_n dE_th_36 rfl ?_
  refine v_null dE_th_37 ?_
  refine v_putR fl_Thr_17 (fun z => by cases z) dE_th_38 rfl rfl (Nat.le_of_ble_eq_true rfl) rfl hi ?_
  refine v_aload_n dE_th_41 rfl ?_
  refine v_aload_n dE_th_42 rfl ?_
  refine v_putR fl_Thr_31 (fun z => by cases z) dE_th_43 rfl rfl (Nat.le_of_ble_eq_true rfl) rfl hi ?_
  refine v_aload_n dE_th_46 rfl ?_
  refine v_aload_n dE_th_47 rfl ?_
  refine v_putR fl_Thr_7 (fun z => by cases z) dE_th_48 rfl rfl (Nat.le_of_ble_eq_true rfl) rfl hi ?_
  refine v_iload_n dE_th_51 rfl ?_
  refine v_if_ne 60 dE_th_52 (by decide) (fun z => absurd rfl z) (fun _ => ?_)
  refine v_aload_n dE_th_55 rfl ?_
  refine v_null dE_th_56 ?_
  refine v_putR fl_Thr_24 (fun z => by cases z) dE_th_57 rfl rfl (Nat.le_of_ble_eq_true rfl) rfl hi ?_
  refine v_return dE_th_60 rfl ?_
  refine ⟨rfl, hp_vr (by simp only [iStop, cn_sR]) (by simp only [iStop, ln_sR]) (by simp only [iStop, vi_sR]) (by simp only [iStop, vl_sR]) (fun a k => ?_)⟩
  simp only [iStop, vr_sR]
  by_cases z : a = (35, i)
  · by_cases z0 : k = 0
    · simp [z, z0]
    · by_cases z1 : k = 1
      · simp [z, z1]
      · by_cases z2 : k = 2
        · simp [z, z2]
        · simp [z, z0, z1, z2]
  · simp [z]
set_option maxRecDepth 20000 in
theorem m_E_ex (g : G0) (h : Hp) {i : Nat} (hi : i < cn h 35) : Mx g yE_ex wE_ex 2 [pR (35, i), pN, pN, pI 0, pI 0] h 0 0 (qE none (iStop h i)) noX := by
  refine Mx.by kfE_ex rfl (by decide) (Nat.le_of_ble_eq_true rfl) ?_
  refine v_aload_n dE_ex_0 rfl ?_
  refine v_aload_n dE_ex_1 rfl ?_
  refine v_aload_n dE_ex_2 rfl ?_
  refine v_iload_n dE_ex_3 rfl ?_
  refine v_iload dE_ex_4 rfl ?_
  refine v_invIE 0 0 (m_E_th g h hi) dE_ex_6 cwE_th rfl mlEex_16 rfl rfl (by decide) (by decide) (Nat.le_of_ble_eq_true rfl) (Nat.le_of_ble_eq_true rfl) (Nat.le_of_ble_eq_true rfl) ?_
  refine v_return dE_ex_9 rfl ?_
  exact ⟨rfl, rfl⟩
set_option maxRecDepth 20000 in
theorem m_E_rt (g : G0) (h : Hp) {i : Nat} (hi : i < cn h 35) : Mx g yE_rt wE_rt 3 [pR (35, i), pN, pN, pI 0, pI 0] h 0 0 (qE none (iStop h i)) noX := by
  refine Mx.by kfE_rt rfl (by decide) (Nat.le_of_ble_eq_true rfl) ?_
  refine v_aload_n dE_rt_0 rfl ?_
  refine v_aload_n dE_rt_1 rfl ?_
  refine v_aload_n dE_rt_2 rfl ?_
  refine v_iload_n dE_rt_3 rfl ?_
  refine v_iload dE_rt_4 rfl ?_
  refine v_invIE 0 0 (m_E_ex g h hi) dE_rt_6 cwE_ex rfl mlErt_16 rfl rfl (by decide) (by decide) (Nat.le_of_ble_eq_true rfl) (Nat.le_of_ble_eq_true rfl) (Nat.le_of_ble_eq_true rfl) ?_
  refine v_return dE_rt_9 rfl ?_
  exact ⟨rfl, rfl⟩
set_option maxRecDepth 20000 in
theorem m_Stop_init (g : G0) (h : Hp) {i : Nat} (hi : i < cn h 35) : Mx g yX13_init wX13_init 4 [pR (35, i)] h 0 0 (qE none (iStop h i)) noX := by
  refine Mx.by kfX13_init rfl (by decide) (Nat.le_of_ble_eq_true rfl) ?_
  refine v_aload_n dX13_init_0 rfl ?_
  refine v_null dX13_init_1 ?_
  refine v_null dX13_init_2 ?_
  refine v_iconst (0) dX13_init_3 (by decide) ?_
  refine v_iconst (0) dX13_init_4 (by decide) ?_
  refine v_invIE 0 0 (m_E_rt g h hi) dX13_init_5 cwE_rt rfl mlX13_1 rfl rfl (by decide) (by decide) (Nat.le_of_ble_eq_true rfl) (Nat.le_of_ble_eq_true rfl) (Nat.le_of_ble_eq_true rfl) ?_
  refine v_return dX13_init_8 rfl ?_
  exact ⟨rfl, rfl⟩
def y_0 : Hp := nw hX 32 0
def y_1 : Hp := sI y_0 (32, 0) 2 (-1)
def y_2 : Hp := aN y_1 (32, 0) 6 36 40
def y_3 : Hp := sR (iSch50_9 (nw y_2 34 0) (cn y_2 34)) (32, 0) 7 (some (34, cn y_2 34))
def y_4 : Hp := sR (iStop (nw y_3 35 0) (cn y_3 35)) (32, 0) 8 (some (35, cn y_3 35))
def y_5 : Hp := aN y_4 (32, 0) 9 37 300
def y_6 : Hp := aN y_5 (32, 0) 24 38 40
def y_7 : Hp := aN y_6 (32, 0) 25 38 40
def y_8 : Hp := aN y_7 (32, 0) 26 38 40
def y_9 : Hp := aN y_8 (32, 0) 27 38 40
def y_10 : Hp := aN y_9 (32, 0) 28 38 40
def y_11 : Hp := aN y_10 (32, 0) 29 38 40
def y_12 : Hp := aN y_11 (32, 0) 30 38 40
def y_13 : Hp := aN y_12 (32, 0) 31 38 40
def y_14 : Hp := aN y_13 (32, 0) 32 39 40
def y_15 : Hp := aN y_14 (32, 0) 33 38 240
def y_16 : Hp := aN y_15 (32, 0) 34 38 240
def y_17 : Hp := aN y_16 (32, 0) 35 39 130
def y_18 : Hp := sI y_17 (32, 0) 39 (-1)
def y_19 : Hp := aN y_18 (32, 0) 40 38 20
def y_20 : Hp := aN y_19 (32, 0) 41 38 20
def y_21 : Hp := aN y_20 (32, 0) 42 38 20
def y_22 : Hp := aN y_21 (32, 0) 43 38 100
def y_23 : Hp := aN y_22 (32, 0) 44 38 100
def y_24 : Hp := aN y_23 (32, 0) 45 38 100
def y_25 : Hp := aN y_24 (32, 0) 46 38 100
def y_26 : Hp := aN y_25 (32, 0) 47 39 8
def y_27 : Hp := sI y_26 (32, 0) 49 (10)
def y_28 : Hp := aN y_27 (32, 0) 52 38 10
def y_29 : Hp := aN y_28 (32, 0) 53 38 10
def y_30 : Hp := aN y_29 (32, 0) 54 38 10
-- the constructor makes 37 cells, 2376 slots
set_option maxRecDepth 20000 in
theorem m_M_init (g : G0) : Mx g yX14_init wX14_init 5 [pR (32, 0)] y_0 37 2376 (qE none y_30) noX := by
  refine Mx.by kfX14_init rfl (by decide) (Nat.le_of_ble_eq_true rfl) ?_
  refine v_aload_n dX14_init_0 rfl ?_
  refine v_obj dX14_init_1 moX14_1 obj_i obj_c (by intro z; cases z) (by decide) (Nat.le_of_ble_eq_true rfl) ?_
  refine v_aload_n dX14_init_4 rfl ?_
  refine v_iconst (-1) dX14_init_5 (by decide) ?_
  refine v_putI fl_X14_9 (fun z => by cases z) dX14_init_6 rfl rfl (Nat.le_of_ble_eq_true rfl) rfl rfl (by decide +kernel) ?_
  change V g _ _ _ _ _ _ _ (y_1) _ _
  refine v_aload_n dX14_init_9 rfl ?_
  refine v_bipush (40) dX14_init_10 (by decide) ?_
  refine v_anew 36 36 2336 dX14_init_12 rfl clX14_13 (by decide) (by decide) rfl (by decide) (by decide) (by decide) (Nat.le_of_ble_eq_true rfl) (Nat.le_of_ble_eq_true rfl) ?_
  rw [show (40 : Int32).toNatClampNeg = 40 by decide]
  refine v_putR fl_X14_15 (fun _ => ⟨rfl, rfl, _, rfl, rfl⟩) dX14_init_15 rfl rfl (Nat.le_of_ble_eq_true rfl) rfl (by decide +kernel) ?_
  change V g _ _ _ _ _ _ _ (y_2) _ _
  refine v_aload_n dX14_init_18 rfl ?_
  refine v_new 34 35 2322 dX14_init_19 rfl clX14_13 rfl (by decide) (Nat.le_of_ble_eq_true rfl) (Nat.le_of_ble_eq_true rfl) ?_
  refine v_dup dX14_init_22 rfl ?_
  refine v_invIE 25 1776 (m_Scheme_init50 g (nw y_2 34 0) (i := cn y_2 34) lt_new) dX14_init_23 cwX12_init rfl mlX14_19 rfl rfl (by decide) (by decide) (Nat.le_of_ble_eq_true rfl) (Nat.le_of_ble_eq_true rfl) (Nat.le_of_ble_eq_true rfl) ?_
  refine v_putR fl_X14_20 (fun _ => ⟨rfl, rfl, _, rfl, rfl⟩) dX14_init_26 rfl rfl (Nat.le_of_ble_eq_true rfl) rfl (by decide +kernel) ?_
  change V g _ _ _ _ _ _ _ (y_3) _ _
  refine v_aload_n dX14_init_29 rfl ?_
  refine v_new 35 24 1768 dX14_init_30 rfl clX14_24 rfl (by decide) (Nat.le_of_ble_eq_true rfl) (Nat.le_of_ble_eq_true rfl) ?_
  refine v_dup dX14_init_33 rfl ?_
  refine v_invIE 24 1768 (m_Stop_init g (nw y_3 35 0) (i := cn y_3 35) lt_new) dX14_init_34 cwX13_init rfl mlX14_26 rfl rfl (by decide) (by decide) (Nat.le_of_ble_eq_true rfl) (Nat.le_of_ble_eq_true rfl) (Nat.le_of_ble_eq_true rfl) ?_
  refine v_putR fl_X14_27 (fun _ => ⟨rfl, rfl, _, rfl, rfl⟩) dX14_init_37 rfl rfl (Nat.le_of_ble_eq_true rfl) rfl (by decide +kernel) ?_
  change V g _ _ _ _ _ _ _ (y_4) _ _
  refine v_aload_n dX14_init_40 rfl ?_
  refine v_sipush (300) dX14_init_41 (by decide) ?_
  refine v_newa 37 23 1468 dX14_init_44 rfl ac_1 (by decide) rfl (by decide) (by decide) (by decide) (Nat.le_of_ble_eq_true rfl) (Nat.le_of_ble_eq_true rfl) ?_
  rw [show (300 : Int32).toNatClampNeg = 300 by decide]
  refine v_putR fl_X14_31 (fun _ => ⟨rfl, rfl, _, rfl, rfl⟩) dX14_init_46 rfl rfl (Nat.le_of_ble_eq_true rfl) rfl (by decide +kernel) ?_
  change V g _ _ _ _ _ _ _ (y_5) _ _
  refine v_aload_n dX14_init_49 rfl ?_
  refine v_bipush (40) dX14_init_50 (by decide) ?_
  refine v_newa 38 22 1428 dX14_init_52 rfl ac_0 (by decide) rfl (by decide) (by decide) (by decide) (Nat.le_of_ble_eq_true rfl) (Nat.le_of_ble_eq_true rfl) ?_
  rw [show (40 : Int32).toNatClampNeg = 40 by decide]
  refine v_putR fl_X14_35 (fun _ => ⟨rfl, rfl, _, rfl, rfl⟩) dX14_init_54 rfl rfl (Nat.le_of_ble_eq_true rfl) rfl (by decide +kernel) ?_
  change V g _ _ _ _ _ _ _ (y_6) _ _
  refine v_aload_n dX14_init_57 rfl ?_
  refine v_bipush (40) dX14_init_58 (by decide) ?_
  refine v_newa 38 21 1388 dX14_init_60 rfl ac_0 (by decide) rfl (by decide) (by decide) (by decide) (Nat.le_of_ble_eq_true rfl) (Nat.le_of_ble_eq_true rfl) ?_
  rw [show (40 : Int32).toNatClampNeg = 40 by decide]
  refine v_putR fl_X14_39 (fun _ => ⟨rfl, rfl, _, rfl, rfl⟩) dX14_init_62 rfl rfl (Nat.le_of_ble_eq_true rfl) rfl (by decide +kernel) ?_
  change V g _ _ _ _ _ _ _ (y_7) _ _
  refine v_aload_n dX14_init_65 rfl ?_
  refine v_bipush (40) dX14_init_66 (by decide) ?_
  refine v_newa 38 20 1348 dX14_init_68 rfl ac_0 (by decide) rfl (by decide) (by decide) (by decide) (Nat.le_of_ble_eq_true rfl) (Nat.le_of_ble_eq_true rfl) ?_
  rw [show (40 : Int32).toNatClampNeg = 40 by decide]
  refine v_putR fl_X14_42 (fun _ => ⟨rfl, rfl, _, rfl, rfl⟩) dX14_init_70 rfl rfl (Nat.le_of_ble_eq_true rfl) rfl (by decide +kernel) ?_
  change V g _ _ _ _ _ _ _ (y_8) _ _
  refine v_aload_n dX14_init_73 rfl ?_
  refine v_bipush (40) dX14_init_74 (by decide) ?_
  refine v_newa 38 19 1308 dX14_init_76 rfl ac_0 (by decide) rfl (by decide) (by decide) (by decide) (Nat.le_of_ble_eq_true rfl) (Nat.le_of_ble_eq_true rfl) ?_
  rw [show (40 : Int32).toNatClampNeg = 40 by decide]
  refine v_putR fl_X14_45 (fun _ => ⟨rfl, rfl, _, rfl, rfl⟩) dX14_init_78 rfl rfl (Nat.le_of_ble_eq_true rfl) rfl (by decide +kernel) ?_
  change V g _ _ _ _ _ _ _ (y_9) _ _
  refine v_aload_n dX14_init_81 rfl ?_
  refine v_bipush (40) dX14_init_82 (by decide) ?_
  refine v_newa 38 18 1268 dX14_init_84 rfl ac_0 (by decide) rfl (by decide) (by decide) (by decide) (Nat.le_of_ble_eq_true rfl) (Nat.le_of_ble_eq_true rfl) ?_
  rw [show (40 : Int32).toNatClampNeg = 40 by decide]
  refine v_putR fl_X14_48 (fun _ => ⟨rfl, rfl, _, rfl, rfl⟩) dX14_init_86 rfl rfl (Nat.le_of_ble_eq_true rfl) rfl (by decide +kernel) ?_
  change V g _ _ _ _ _ _ _ (y_10) _ _
  refine v_aload_n dX14_init_89 rfl ?_
  refine v_bipush (40) dX14_init_90 (by decide) ?_
  refine v_newa 38 17 1228 dX14_init_92 rfl ac_0 (by decide) rfl (by decide) (by decide) (by decide) (Nat.le_of_ble_eq_true rfl) (Nat.le_of_ble_eq_true rfl) ?_
  rw [show (40 : Int32).toNatClampNeg = 40 by decide]
  refine v_putR fl_X14_51 (fun _ => ⟨rfl, rfl, _, rfl, rfl⟩) dX14_init_94 rfl rfl (Nat.le_of_ble_eq_true rfl) rfl (by decide +kernel) ?_
  change V g _ _ _ _ _ _ _ (y_11) _ _
  refine v_aload_n dX14_init_97 rfl ?_
  refine v_bipush (40) dX14_init_98 (by decide) ?_
  refine v_newa 38 16 1188 dX14_init_100 rfl ac_0 (by decide) rfl (by decide) (by decide) (by decide) (Nat.le_of_ble_eq_true rfl) (Nat.le_of_ble_eq_true rfl) ?_
  rw [show (40 : Int32).toNatClampNeg = 40 by decide]
  refine v_putR fl_X14_54 (fun _ => ⟨rfl, rfl, _, rfl, rfl⟩) dX14_init_102 rfl rfl (Nat.le_of_ble_eq_true rfl) rfl (by decide +kernel) ?_
  change V g _ _ _ _ _ _ _ (y_12) _ _
  refine v_aload_n dX14_init_105 rfl ?_
  refine v_bipush (40) dX14_init_106 (by decide) ?_
  refine v_newa 38 15 1148 dX14_init_108 rfl ac_0 (by decide) rfl (by decide) (by decide) (by decide) (Nat.le_of_ble_eq_true rfl) (Nat.le_of_ble_eq_true rfl) ?_
  rw [show (40 : Int32).toNatClampNeg = 40 by decide]
  refine v_putR fl_X14_57 (fun _ => ⟨rfl, rfl, _, rfl, rfl⟩) dX14_init_110 rfl rfl (Nat.le_of_ble_eq_true rfl) rfl (by decide +kernel) ?_
  change V g _ _ _ _ _ _ _ (y_13) _ _
  refine v_aload_n dX14_init_113 rfl ?_
  refine v_bipush (40) dX14_init_114 (by decide) ?_
  refine v_newa 39 14 1108 dX14_init_116 rfl ac_2 (by decide) rfl (by decide) (by decide) (by decide) (Nat.le_of_ble_eq_true rfl) (Nat.le_of_ble_eq_true rfl) ?_
  rw [show (40 : Int32).toNatClampNeg = 40 by decide]
  refine v_putR fl_X14_60 (fun _ => ⟨rfl, rfl, _, rfl, rfl⟩) dX14_init_118 rfl rfl (Nat.le_of_ble_eq_true rfl) rfl (by decide +kernel) ?_
  change V g _ _ _ _ _ _ _ (y_14) _ _
  refine v_aload_n dX14_init_121 rfl ?_
  refine v_sipush (240) dX14_init_122 (by decide) ?_
  refine v_newa 38 13 868 dX14_init_125 rfl ac_0 (by decide) rfl (by decide) (by decide) (by decide) (Nat.le_of_ble_eq_true rfl) (Nat.le_of_ble_eq_true rfl) ?_
  rw [show (240 : Int32).toNatClampNeg = 240 by decide]
  refine v_putR fl_X14_64 (fun _ => ⟨rfl, rfl, _, rfl, rfl⟩) dX14_init_127 rfl rfl (Nat.le_of_ble_eq_true rfl) rfl (by decide +kernel) ?_
  change V g _ _ _ _ _ _ _ (y_15) _ _
  refine v_aload_n dX14_init_130 rfl ?_
  refine v_sipush (240) dX14_init_131 (by decide) ?_
  refine v_newa 38 12 628 dX14_init_134 rfl ac_0 (by decide) rfl (by decide) (by decide) (by decide) (Nat.le_of_ble_eq_true rfl) (Nat.le_of_ble_eq_true rfl) ?_
  rw [show (240 : Int32).toNatClampNeg = 240 by decide]
  refine v_putR fl_X14_67 (fun _ => ⟨rfl, rfl, _, rfl, rfl⟩) dX14_init_136 rfl rfl (Nat.le_of_ble_eq_true rfl) rfl (by decide +kernel) ?_
  change V g _ _ _ _ _ _ _ (y_16) _ _
  refine v_aload_n dX14_init_139 rfl ?_
  refine v_sipush (130) dX14_init_140 (by decide) ?_
  refine v_newa 39 11 498 dX14_init_143 rfl ac_2 (by decide) rfl (by decide) (by decide) (by decide) (Nat.le_of_ble_eq_true rfl) (Nat.le_of_ble_eq_true rfl) ?_
  rw [show (130 : Int32).toNatClampNeg = 130 by decide]
  refine v_putR fl_X14_70 (fun _ => ⟨rfl, rfl, _, rfl, rfl⟩) dX14_init_145 rfl rfl (Nat.le_of_ble_eq_true rfl) rfl (by decide +kernel) ?_
  change V g _ _ _ _ _ _ _ (y_17) _ _
  refine v_aload_n dX14_init_148 rfl ?_
  refine v_iconst (-1) dX14_init_149 (by decide) ?_
  refine v_putI fl_X14_73 (fun z => by cases z) dX14_init_150 rfl rfl (Nat.le_of_ble_eq_true rfl) rfl rfl (by decide +kernel) ?_
  change V g _ _ _ _ _ _ _ (y_18) _ _
  refine v_aload_n dX14_init_153 rfl ?_
  refine v_bipush (20) dX14_init_154 (by decide) ?_
  refine v_newa 38 10 478 dX14_init_156 rfl ac_0 (by decide) rfl (by decide) (by decide) (by decide) (Nat.le_of_ble_eq_true rfl) (Nat.le_of_ble_eq_true rfl) ?_
  rw [show (20 : Int32).toNatClampNeg = 20 by decide]
  refine v_putR fl_X14_76 (fun _ => ⟨rfl, rfl, _, rfl, rfl⟩) dX14_init_158 rfl rfl (Nat.le_of_ble_eq_true rfl) rfl (by decide +kernel) ?_
  change V g _ _ _ _ _ _ _ (y_19) _ _
  refine v_aload_n dX14_init_161 rfl ?_
  refine v_bipush (20) dX14_init_162 (by decide) ?_
  refine v_newa 38 9 458 dX14_init_164 rfl ac_0 (by decide) rfl (by decide) (by decide) (by decide) (Nat.le_of_ble_eq_true rfl) (Nat.le_of_ble_eq_true rfl) ?_
  rw [show (20 : Int32).toNatClampNeg = 20 by decide]
  refine v_putR fl_X14_79 (fun _ => ⟨rfl, rfl, _, rfl, rfl⟩) dX14_init_166 rfl rfl (Nat.le_of_ble_eq_true rfl) rfl (by decide +kernel) ?_
  change V g _ _ _ _ _ _ _ (y_20) _ _
  refine v_aload_n dX14_init_169 rfl ?_
  refine v_bipush (20) dX14_init_170 (by decide) ?_
  refine v_newa 38 8 438 dX14_init_172 rfl ac_0 (by decide) rfl (by decide) (by decide) (by decide) (Nat.le_of_ble_eq_true rfl) (Nat.le_of_ble_eq_true rfl) ?_
  rw [show (20 : Int32).toNatClampNeg = 20 by decide]
  refine v_putR fl_X14_82 (fun _ => ⟨rfl, rfl, _, rfl, rfl⟩) dX14_init_174 rfl rfl (Nat.le_of_ble_eq_true rfl) rfl (by decide +kernel) ?_
  change V g _ _ _ _ _ _ _ (y_21) _ _
  refine v_aload_n dX14_init_177 rfl ?_
  refine v_bipush (100) dX14_init_178 (by decide) ?_
  refine v_newa 38 7 338 dX14_init_180 rfl ac_0 (by decide) rfl (by decide) (by decide) (by decide) (Nat.le_of_ble_eq_true rfl) (Nat.le_of_ble_eq_true rfl) ?_
  rw [show (100 : Int32).toNatClampNeg = 100 by decide]
  refine v_putR fl_X14_85 (fun _ => ⟨rfl, rfl, _, rfl, rfl⟩) dX14_init_182 rfl rfl (Nat.le_of_ble_eq_true rfl) rfl (by decide +kernel) ?_
  change V g _ _ _ _ _ _ _ (y_22) _ _
  refine v_aload_n dX14_init_185 rfl ?_
  refine v_bipush (100) dX14_init_186 (by decide) ?_
  refine v_newa 38 6 238 dX14_init_188 rfl ac_0 (by decide) rfl (by decide) (by decide) (by decide) (Nat.le_of_ble_eq_true rfl) (Nat.le_of_ble_eq_true rfl) ?_
  rw [show (100 : Int32).toNatClampNeg = 100 by decide]
  refine v_putR fl_X14_88 (fun _ => ⟨rfl, rfl, _, rfl, rfl⟩) dX14_init_190 rfl rfl (Nat.le_of_ble_eq_true rfl) rfl (by decide +kernel) ?_
  change V g _ _ _ _ _ _ _ (y_23) _ _
  refine v_aload_n dX14_init_193 rfl ?_
  refine v_bipush (100) dX14_init_194 (by decide) ?_
  refine v_newa 38 5 138 dX14_init_196 rfl ac_0 (by decide) rfl (by decide) (by decide) (by decide) (Nat.le_of_ble_eq_true rfl) (Nat.le_of_ble_eq_true rfl) ?_
  rw [show (100 : Int32).toNatClampNeg = 100 by decide]
  refine v_putR fl_X14_91 (fun _ => ⟨rfl, rfl, _, rfl, rfl⟩) dX14_init_198 rfl rfl (Nat.le_of_ble_eq_true rfl) rfl (by decide +kernel) ?_
  change V g _ _ _ _ _ _ _ (y_24) _ _
  refine v_aload_n dX14_init_201 rfl ?_
  refine v_bipush (100) dX14_init_202 (by decide) ?_
  refine v_newa 38 4 38 dX14_init_204 rfl ac_0 (by decide) rfl (by decide) (by decide) (by decide) (Nat.le_of_ble_eq_true rfl) (Nat.le_of_ble_eq_true rfl) ?_
  rw [show (100 : Int32).toNatClampNeg = 100 by decide]
  refine v_putR fl_X14_94 (fun _ => ⟨rfl, rfl, _, rfl, rfl⟩) dX14_init_206 rfl rfl (Nat.le_of_ble_eq_true rfl) rfl (by decide +kernel) ?_
  change V g _ _ _ _ _ _ _ (y_25) _ _
  refine v_aload_n dX14_init_209 rfl ?_
  refine v_bipush (8) dX14_init_210 (by decide) ?_
  refine v_newa 39 3 30 dX14_init_212 rfl ac_2 (by decide) rfl (by decide) (by decide) (by decide) (Nat.le_of_ble_eq_true rfl) (Nat.le_of_ble_eq_true rfl) ?_
  rw [show (8 : Int32).toNatClampNeg = 8 by decide]
  refine v_putR fl_X14_97 (fun _ => ⟨rfl, rfl, _, rfl, rfl⟩) dX14_init_214 rfl rfl (Nat.le_of_ble_eq_true rfl) rfl (by decide +kernel) ?_
  change V g _ _ _ _ _ _ _ (y_26) _ _
  refine v_aload_n dX14_init_217 rfl ?_
  refine v_bipush (10) dX14_init_218 (by decide) ?_
  refine v_putI fl_X14_100 (fun z => by cases z) dX14_init_220 rfl rfl (Nat.le_of_ble_eq_true rfl) rfl rfl (by decide +kernel) ?_
  change V g _ _ _ _ _ _ _ (y_27) _ _
  refine v_aload_n dX14_init_223 rfl ?_
  refine v_bipush (10) dX14_init_224 (by decide) ?_
  refine v_newa 38 2 20 dX14_init_226 rfl ac_0 (by decide) rfl (by decide) (by decide) (by decide) (Nat.le_of_ble_eq_true rfl) (Nat.le_of_ble_eq_true rfl) ?_
  rw [show (10 : Int32).toNatClampNeg = 10 by decide]
  refine v_putR fl_X14_103 (fun _ => ⟨rfl, rfl, _, rfl, rfl⟩) dX14_init_228 rfl rfl (Nat.le_of_ble_eq_true rfl) rfl (by decide +kernel) ?_
  change V g _ _ _ _ _ _ _ (y_28) _ _
  refine v_aload_n dX14_init_231 rfl ?_
  refine v_bipush (10) dX14_init_232 (by decide) ?_
  refine v_newa 38 1 10 dX14_init_234 rfl ac_0 (by decide) rfl (by decide) (by decide) (by decide) (Nat.le_of_ble_eq_true rfl) (Nat.le_of_ble_eq_true rfl) ?_
  rw [show (10 : Int32).toNatClampNeg = 10 by decide]
  refine v_putR fl_X14_106 (fun _ => ⟨rfl, rfl, _, rfl, rfl⟩) dX14_init_236 rfl rfl (Nat.le_of_ble_eq_true rfl) rfl (by decide +kernel) ?_
  change V g _ _ _ _ _ _ _ (y_29) _ _
  refine v_aload_n dX14_init_239 rfl ?_
  refine v_bipush (10) dX14_init_240 (by decide) ?_
  refine v_newa 38 0 0 dX14_init_242 rfl ac_0 (by decide) rfl (by decide) (by decide) (by decide) (Nat.le_of_ble_eq_true rfl) (Nat.le_of_ble_eq_true rfl) ?_
  rw [show (10 : Int32).toNatClampNeg = 10 by decide]
  refine v_putR fl_X14_109 (fun _ => ⟨rfl, rfl, _, rfl, rfl⟩) dX14_init_244 rfl rfl (Nat.le_of_ble_eq_true rfl) rfl (by decide +kernel) ?_
  change V g _ _ _ _ _ _ _ (y_30) _ _
  refine v_return dX14_init_247 rfl ?_
  exact ⟨rfl, rfl⟩
def hI : Hp := y_30
theorem hI_SX : SX hI := by unfold SX; decide +kernel
theorem hI_SM : SM hI := by unfold SM; decide +kernel
