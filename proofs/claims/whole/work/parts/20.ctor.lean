/-! constructors -/
def aN (h : Hp) (a : Ad) (k p n : Nat) : Hp := sR (nw h p n) a k (some (p, cn h p))
theorem lt_nw {h : Hp} {p q n i : Nat} (hi : i < cn h q) : i < cn (nw h p n) q := by
  rw [cn_nw]
  by_cases z : q = p
  · rw [if_pos z, ← z]; omega
  · rw [if_neg z]; exact hi
theorem lt_aN {h : Hp} {a : Ad} {k p q n i : Nat} (hi : i < cn h q) : i < cn (aN h a k p n) q := show i < cn (nw h p n) q from lt_nw hi
theorem lt_new {h : Hp} {p n : Nat} : cn h p < cn (nw h p n) p := by rw [cn_nw, if_pos rfl]; omega
def iTape (h : Hp) (i : Nat) : Hp := aN h (1, i) 0 13 300
def iWriter (h : Hp) (i : Nat) : Hp := aN (aN h (3, i) 0 13 300) (3, i) 1 13 300
def iReader0 (h : Hp) (i : Nat) : Hp := sR (iWriter (nw h 3 0) (cn h 3)) (2, i) 1 (some (3, cn h 3))
def iReader (h : Hp) (i : Nat) (t : Option Ad) : Hp := sR (aN (aN (aN (iReader0 h i) (2, i) 2 13 12) (2, i) 3 13 12) (2, i) 4 13 12) (2, i) 0 t
def iList (h : Hp) (i : Nat) : Hp := sR (sI h (7, i) 0 0) (7, i) 1 (some (66, 0))
def iStand (h : Hp) (i : Nat) : Hp := aN h (4, i) 0 15 13
def iTrus (h : Hp) (i : Nat) : Hp := aN h (5, i) 0 14 8
def fNew (f : Hp → Nat → Hp) (h : Hp) (k p : Nat) : Hp := sR (f (nw h p 0) (cn h p)) (0, 0) k (some (p, cn h p))
set_option maxRecDepth 20000 in
theorem m_Tape_init (g : G0) (h : Hp) {i : Nat} (hi : i < cn h 1) : Mx g yX8_init wX8_init 1 [pR (1, i)] h 1 300 (qE none (iTape h i)) noX := by
  refine Mx.by kfX8_init rfl (by decide) (Nat.le_of_ble_eq_true rfl) ?_
  refine v_aload_n dX8_init_0 rfl ?_
  refine v_obj dX8_init_1 moX8_3 obj_i obj_c (by intro z; cases z) (by decide) (Nat.le_of_ble_eq_true rfl) ?_
  refine v_aload_n dX8_init_4 rfl ?_
  refine v_sipush (300) dX8_init_5 (by decide) ?_
  refine v_newa 13 0 0 dX8_init_8 rfl ac_0 (by decide) rfl (by decide) (by decide) (by decide) (Nat.le_of_ble_eq_true rfl) (Nat.le_of_ble_eq_true rfl) ?_
  rw [show (300 : Int32).toNatClampNeg = 300 by decide]
  refine v_putR fl_X8_9 (fun _ => ⟨rfl, rfl, _, rfl, rfl⟩) dX8_init_10 rfl rfl (Nat.le_of_ble_eq_true rfl) rfl (lt_nw hi) ?_
  change V g _ _ _ _ _ _ _ (iTape h i) _ _
  refine v_return dX8_init_13 rfl ?_
  exact ⟨rfl, rfl⟩
set_option maxRecDepth 20000 in
theorem m_Writer_init (g : G0) (h : Hp) {i : Nat} (hi : i < cn h 3) : Mx g yX10_init wX10_init 1 [pR (3, i)] h 2 600 (qE none (iWriter h i)) noX := by
  refine Mx.by kfX10_init rfl (by decide) (Nat.le_of_ble_eq_true rfl) ?_
  refine v_aload_n dX10_init_0 rfl ?_
  refine v_obj dX10_init_1 moX10_3 obj_i obj_c (by intro z; cases z) (by decide) (Nat.le_of_ble_eq_true rfl) ?_
  refine v_aload_n dX10_init_4 rfl ?_
  refine v_sipush (300) dX10_init_5 (by decide) ?_
  refine v_newa 13 1 300 dX10_init_8 rfl ac_0 (by decide) rfl (by decide) (by decide) (by decide) (Nat.le_of_ble_eq_true rfl) (Nat.le_of_ble_eq_true rfl) ?_
  rw [show (300 : Int32).toNatClampNeg = 300 by decide]
  refine v_putR fl_X10_9 (fun _ => ⟨rfl, rfl, _, rfl, rfl⟩) dX10_init_10 rfl rfl (Nat.le_of_ble_eq_true rfl) rfl (lt_nw hi) ?_
  change V g _ _ _ _ _ _ _ (aN h (3, i) 0 13 300) _ _
  refine v_aload_n dX10_init_13 rfl ?_
  refine v_sipush (300) dX10_init_14 (by decide) ?_
  refine v_newa 13 0 0 dX10_init_17 rfl ac_0 (by decide) rfl (by decide) (by decide) (by decide) (Nat.le_of_ble_eq_true rfl) (Nat.le_of_ble_eq_true rfl) ?_
  rw [show (300 : Int32).toNatClampNeg = 300 by decide]
  refine v_putR fl_X10_15 (fun _ => ⟨rfl, rfl, _, rfl, rfl⟩) dX10_init_19 rfl rfl (Nat.le_of_ble_eq_true rfl) rfl (lt_nw (lt_aN hi)) ?_
  change V g _ _ _ _ _ _ _ (iWriter h i) _ _
  refine v_return dX10_init_22 rfl ?_
  exact ⟨rfl, rfl⟩
set_option maxRecDepth 20000 in
theorem m_Reader_init (g : G0) (h : Hp) {i : Nat} {t : Option Ad} (hi : i < cn h 2) : Mx g yX4_init wX4_init 2 [pR (2, i), pO t] h 6 640 (qE none (iReader h i t)) noX := by
  refine Mx.by kfX4_init rfl (by decide) (Nat.le_of_ble_eq_true rfl) ?_
  have hi0 : i < cn (iWriter (nw h 3 0) (cn h 3)) 2 := lt_aN (lt_aN (lt_nw hi))
  have hi1 : i < cn (iReader0 h i) 2 := by unfold iReader0; rw [cn_sR]; exact hi0
  have hi2 : i < cn (aN (iReader0 h i) (2, i) 2 13 12) 2 := lt_aN hi1
  have hi3 : i < cn (aN (aN (iReader0 h i) (2, i) 2 13 12) (2, i) 3 13 12) 2 := lt_aN hi2
  have hi4 : i < cn (aN (aN (aN (iReader0 h i) (2, i) 2 13 12) (2, i) 3 13 12) (2, i) 4 13 12) 2 := lt_aN hi3
  refine v_aload_n dX4_init_0 rfl ?_
  refine v_obj dX4_init_1 moX4_3 obj_i obj_c (by intro z; cases z) (by decide) (Nat.le_of_ble_eq_true rfl) ?_
  refine v_aload_n dX4_init_4 rfl ?_
  refine v_new 3 5 636 dX4_init_5 rfl clX4_9 rfl (by decide) (Nat.le_of_ble_eq_true rfl) (Nat.le_of_ble_eq_true rfl) ?_
  refine v_dup dX4_init_8 rfl ?_
  refine v_invIE 3 36 (m_Writer_init g (nw h 3 0) lt_new) dX4_init_9 cwX10_init rfl mlX4_11 rfl rfl (by decide) (by decide) (Nat.le_of_ble_eq_true rfl) (Nat.le_of_ble_eq_true rfl) (Nat.le_of_ble_eq_true rfl) ?_
  refine v_putR fl_X4_12 (fun _ => ⟨rfl, rfl, _, rfl, rfl⟩) dX4_init_12 rfl rfl (Nat.le_of_ble_eq_true rfl) rfl hi0 ?_
  change V g _ _ _ _ _ _ _ (iReader0 h i) _ _
  refine v_aload_n dX4_init_15 rfl ?_
  refine v_bipush (12) dX4_init_16 (by decide) ?_
  refine v_newa 13 2 24 dX4_init_18 rfl ac_0 (by decide) rfl (by decide) (by decide) (by decide) (Nat.le_of_ble_eq_true rfl) (Nat.le_of_ble_eq_true rfl) ?_
  rw [show (12 : Int32).toNatClampNeg = 12 by decide]
  refine v_putR fl_X4_18 (fun _ => ⟨rfl, rfl, _, rfl, rfl⟩) dX4_init_20 rfl rfl (Nat.le_of_ble_eq_true rfl) rfl (lt_nw hi1) ?_
  change V g _ _ _ _ _ _ _ (aN (iReader0 h i) (2, i) 2 13 12) _ _
  refine v_aload_n dX4_init_23 rfl ?_
  refine v_bipush (12) dX4_init_24 (by decide) ?_
  refine v_newa 13 1 12 dX4_init_26 rfl ac_0 (by decide) rfl (by decide) (by decide) (by decide) (Nat.le_of_ble_eq_true rfl) (Nat.le_of_ble_eq_true rfl) ?_
  rw [show (12 : Int32).toNatClampNeg = 12 by decide]
  refine v_putR fl_X4_22 (fun _ => ⟨rfl, rfl, _, rfl, rfl⟩) dX4_init_28 rfl rfl (Nat.le_of_ble_eq_true rfl) rfl (lt_nw hi2) ?_
  change V g _ _ _ _ _ _ _ (aN (aN (iReader0 h i) (2, i) 2 13 12) (2, i) 3 13 12) _ _
  refine v_aload_n dX4_init_31 rfl ?_
  refine v_bipush (12) dX4_init_32 (by decide) ?_
  refine v_newa 13 0 0 dX4_init_34 rfl ac_0 (by decide) rfl (by decide) (by decide) (by decide) (Nat.le_of_ble_eq_true rfl) (Nat.le_of_ble_eq_true rfl) ?_
  rw [show (12 : Int32).toNatClampNeg = 12 by decide]
  refine v_putR fl_X4_25 (fun _ => ⟨rfl, rfl, _, rfl, rfl⟩) dX4_init_36 rfl rfl (Nat.le_of_ble_eq_true rfl) rfl (lt_nw hi3) ?_
  change V g _ _ _ _ _ _ _ (aN (aN (aN (iReader0 h i) (2, i) 2 13 12) (2, i) 3 13 12) (2, i) 4 13 12) _ _
  refine v_aload_n dX4_init_39 rfl ?_
  refine v_aload_n dX4_init_40 rfl ?_
  refine v_putR fl_X4_28 (fun _ => ⟨rfl, rfl, _, rfl, rfl⟩) dX4_init_41 rfl rfl (Nat.le_of_ble_eq_true rfl) rfl hi4 ?_
  change V g _ _ _ _ _ _ _ (iReader h i t) _ _
  refine v_return dX4_init_44 rfl ?_
  exact ⟨rfl, rfl⟩
set_option maxRecDepth 20000 in
theorem m_AC_init (g : G0) (h : Hp) {a : Ad} : Mx g yJxa1e45_init_da8c8 wJxa1e45_init_da8c8 1 [pR a] h 0 0 (qE none h) noX := by
  refine Mx.by kfJxa1e45_init_da8c8 rfl (by decide) (Nat.le_of_ble_eq_true rfl) ?_
  refine v_aload_n dJxa1e45_init_da8c8_0 rfl ?_
  refine v_obj dJxa1e45_init_da8c8_1 moJxa1e45_1 obj_i obj_c (by intro z; cases z) (by decide) (Nat.le_of_ble_eq_true rfl) ?_
  refine v_return dJxa1e45_init_da8c8_4 rfl ?_
  exact ⟨rfl, rfl⟩
set_option maxRecDepth 20000 in
theorem m_ALi_init (g : G0) (h : Hp) {i : Nat} (hi : i < cn h 7) : Mx g yJxc12de_init_da8c8 wJxc12de_init_da8c8 2 [pR (7, i)] h 0 0 (qE none (sI h (7, i) 0 0)) noX := by
  refine Mx.by kfJxc12de_init_da8c8 rfl (by decide) (Nat.le_of_ble_eq_true rfl) ?_
  refine v_aload_n dJxc12de_init_da8c8_0 rfl ?_
  refine v_invIE 0 0 (m_AC_init g h) dJxc12de_init_da8c8_1 cwJxa1e45_init_da8c8 rfl mlJxc12de_1 rfl rfl (by decide) (by decide) (Nat.le_of_ble_eq_true rfl) (Nat.le_of_ble_eq_true rfl) (Nat.le_of_ble_eq_true rfl) ?_
  refine v_aload_n dJxc12de_init_da8c8_4 rfl ?_
  refine v_iconst (0) dJxc12de_init_da8c8_5 (by decide) ?_
  refine v_putI fl_Jxc12de_7 (fun z => by cases z) dJxc12de_init_da8c8_6 rfl rfl (Nat.le_of_ble_eq_true rfl) rfl rfl hi ?_
  refine v_return dJxc12de_init_da8c8_9 rfl ?_
  exact ⟨rfl, rfl⟩
set_option maxRecDepth 20000 in
theorem m_List_init (g : G0) (h : Hp) {i : Nat} (hi : i < cn h 7) : Mx g yJx4a65c_init_da8c8 wJx4a65c_init_da8c8 3 [pR (7, i)] h 0 0 (qE none (iList h i)) noX := by
  refine Mx.by kfJx4a65c_init_da8c8 rfl (by decide) (Nat.le_of_ble_eq_true rfl) ?_
  refine v_aload_n dJx4a65c_init_da8c8_0 rfl ?_
  refine v_invIE 0 0 (m_ALi_init g h hi) dJx4a65c_init_da8c8_1 cwJxc12de_init_da8c8 rfl mlJx4a65c_1 rfl rfl (by decide) (by decide) (Nat.le_of_ble_eq_true rfl) (Nat.le_of_ble_eq_true rfl) (Nat.le_of_ble_eq_true rfl) ?_
  refine v_aload_n dJx4a65c_init_da8c8_4 rfl ?_
  refine v_getst (v := pR (66, 0)) dJx4a65c_init_da8c8_5 (lw_g_in (i := 224) (by decide +kernel) (by decide +kernel)) (fun s hs => hs.2.2.2.1) (fun a z => by cases z <;> decide) ?_
  refine v_putR fl_Jx4a65c_9 (fun z => by cases z) dJx4a65c_init_da8c8_8 rfl rfl (Nat.le_of_ble_eq_true rfl) rfl hi ?_
  refine v_return dJx4a65c_init_da8c8_11 rfl ?_
  exact ⟨rfl, rfl⟩
set_option maxRecDepth 20000 in
theorem m_Stand_init (g : G0) (h : Hp) {i : Nat} (hi : i < cn h 4) : Mx g yX6_init wX6_init 1 [pR (4, i)] h 1 13 (qE none (iStand h i)) noX := by
  refine Mx.by kfX6_init rfl (by decide) (Nat.le_of_ble_eq_true rfl) ?_
  refine v_aload_n dX6_init_0 rfl ?_
  refine v_obj dX6_init_1 moX6_3 obj_i obj_c (by intro z; cases z) (by decide) (Nat.le_of_ble_eq_true rfl) ?_
  refine v_aload_n dX6_init_4 rfl ?_
  refine v_bipush (13) dX6_init_5 (by decide) ?_
  refine v_anew 15 0 0 dX6_init_7 rfl clX6_9 (by decide) (by decide) rfl (by decide) (by decide) (by decide) (Nat.le_of_ble_eq_true rfl) (Nat.le_of_ble_eq_true rfl) ?_
  rw [show (13 : Int32).toNatClampNeg = 13 by decide]
  refine v_putR fl_X6_11 (fun _ => ⟨rfl, rfl, _, rfl, rfl⟩) dX6_init_10 rfl rfl (Nat.le_of_ble_eq_true rfl) rfl (lt_nw hi) ?_
  change V g _ _ _ _ _ _ _ (iStand h i) _ _
  refine v_return dX6_init_13 rfl ?_
  exact ⟨rfl, rfl⟩
set_option maxRecDepth 20000 in
theorem m_Trus_init (g : G0) (h : Hp) {i : Nat} (hi : i < cn h 5) : Mx g yX9_init wX9_init 1 [pR (5, i)] h 1 8 (qE none (iTrus h i)) noX := by
  refine Mx.by kfX9_init rfl (by decide) (Nat.le_of_ble_eq_true rfl) ?_
  refine v_aload_n dX9_init_0 rfl ?_
  refine v_obj dX9_init_1 moX9_3 obj_i obj_c (by intro z; cases z) (by decide) (Nat.le_of_ble_eq_true rfl) ?_
  refine v_aload_n dX9_init_4 rfl ?_
  refine v_bipush (8) dX9_init_5 (by decide) ?_
  refine v_newa 14 0 0 dX9_init_7 rfl ac_2 (by decide) rfl (by decide) (by decide) (by decide) (Nat.le_of_ble_eq_true rfl) (Nat.le_of_ble_eq_true rfl) ?_
  rw [show (8 : Int32).toNatClampNeg = 8 by decide]
  refine v_putR fl_X9_9 (fun _ => ⟨rfl, rfl, _, rfl, rfl⟩) dX9_init_9 rfl rfl (Nat.le_of_ble_eq_true rfl) rfl (lt_nw hi) ?_
  change V g _ _ _ _ _ _ _ (iTrus h i) _ _
  refine v_return dX9_init_12 rfl ?_
  exact ⟨rfl, rfl⟩
set_option maxRecDepth 20000 in
theorem m_Chest_init (g : G0) (h : Hp) {a : Ad} : Mx g yX1_init wX1_init 1 [pR a] h 0 0 (qE none h) noX := by
  refine Mx.by kfX1_init rfl (by decide) (Nat.le_of_ble_eq_true rfl) ?_
  refine v_aload_n dX1_init_0 rfl ?_
  refine v_obj dX1_init_1 moX1_3 obj_i obj_c (by intro z; cases z) (by decide) (Nat.le_of_ble_eq_true rfl) ?_
  refine v_return dX1_init_4 rfl ?_
  exact ⟨rfl, rfl⟩
def emp : Hp := (fun _ => 0, fun _ => 0, fun _ _ => 0, fun _ _ => 0, fun _ _ => none)
def x_0 : Hp := nw emp 0 0
def x_1 : Hp := fNew iTape x_0 0 1
def x_2 : Hp := fNew (fun h i => iReader h i (some (1, 0))) x_1 1 2
def x_3 : Hp := fNew iList x_2 2 7
def x_4 : Hp := fNew iStand x_3 3 4
def x_5 : Hp := fNew iList x_4 4 7
def x_6 : Hp := fNew iList x_5 5 7
def x_7 : Hp := fNew iList x_6 6 7
def x_8 : Hp := fNew iTrus x_7 7 5
def x_9 : Hp := fNew iList x_8 8 7
def x_10 : Hp := fNew (fun h _ => h) x_9 9 6
def hX : Hp := sI x_10 (0, 0) 12 10
-- the constructor makes 19 cells, 1003 slots
set_option maxRecDepth 20000 in
theorem m_X_init (g : G0) : Mx g yX11_init wX11_init 4 [pR (0, 0)] x_0 19 1003 (qE none hX) noX := by
  refine Mx.by kfX11_init rfl (by decide) (Nat.le_of_ble_eq_true rfl) ?_
  refine v_aload_n dX11_init_0 rfl ?_
  refine v_obj dX11_init_1 moX11_3 obj_i obj_c (by intro z; cases z) (by decide) (Nat.le_of_ble_eq_true rfl) ?_
  refine v_aload_n dX11_init_4 rfl ?_
  refine v_new 1 18 996 dX11_init_5 rfl clX11_9 rfl (by decide) (Nat.le_of_ble_eq_true rfl) (Nat.le_of_ble_eq_true rfl) ?_
  refine v_dup dX11_init_8 rfl ?_
  refine v_invIE 17 696 (m_Tape_init g (nw x_0 1 0) (i := cn x_0 1) lt_new) dX11_init_9 cwX8_init rfl mlX11_11 rfl rfl (by decide) (by decide) (Nat.le_of_ble_eq_true rfl) (Nat.le_of_ble_eq_true rfl) (Nat.le_of_ble_eq_true rfl) ?_
  refine v_putR fl_X11_12 (fun _ => ⟨rfl, rfl, _, rfl, rfl⟩) dX11_init_12 rfl rfl (Nat.le_of_ble_eq_true rfl) rfl (by decide +kernel) ?_
  change V g _ _ _ _ _ _ _ (x_1) _ _
  refine v_aload_n dX11_init_15 rfl ?_
  refine v_new 2 16 682 dX11_init_16 rfl clX11_18 rfl (by decide) (Nat.le_of_ble_eq_true rfl) (Nat.le_of_ble_eq_true rfl) ?_
  refine v_dup dX11_init_19 rfl ?_
  refine v_aload_n dX11_init_20 rfl ?_
  refine v_getR (some (1, 0)) fl_X11_12 dX11_init_21 rfl rfl (Nat.le_of_ble_eq_true rfl) (by decide +kernel) (by decide +kernel) ?_
  refine v_invIE 10 42 (m_Reader_init g (nw x_1 2 0) (t := some (1, 0)) (i := cn x_1 2) lt_new) dX11_init_24 cwX4_init rfl mlX11_20 rfl rfl (by decide) (by decide) (Nat.le_of_ble_eq_true rfl) (Nat.le_of_ble_eq_true rfl) (Nat.le_of_ble_eq_true rfl) ?_
  refine v_putR fl_X11_23 (fun _ => ⟨rfl, rfl, _, rfl, rfl⟩) dX11_init_27 rfl rfl (Nat.le_of_ble_eq_true rfl) rfl (by decide +kernel) ?_
  change V g _ _ _ _ _ _ _ (x_2) _ _
  refine v_aload_n dX11_init_30 rfl ?_
  refine v_new 7 9 39 dX11_init_31 rfl clX11_27 rfl (by decide) (Nat.le_of_ble_eq_true rfl) (Nat.le_of_ble_eq_true rfl) ?_
  refine v_dup dX11_init_34 rfl ?_
  refine v_invIE 9 39 (m_List_init g (nw x_2 7 0) (i := cn x_2 7) lt_new) dX11_init_35 cwJx4a65c_init_da8c8 rfl mlX11_29 rfl rfl (by decide) (by decide) (Nat.le_of_ble_eq_true rfl) (Nat.le_of_ble_eq_true rfl) (Nat.le_of_ble_eq_true rfl) ?_
  refine v_putR fl_X11_30 (fun _ => ⟨rfl, rfl, _, rfl, rfl⟩) dX11_init_38 rfl rfl (Nat.le_of_ble_eq_true rfl) rfl (by decide +kernel) ?_
  change V g _ _ _ _ _ _ _ (x_3) _ _
  refine v_aload_n dX11_init_41 rfl ?_
  refine v_new 4 8 38 dX11_init_42 rfl clX11_34 rfl (by decide) (Nat.le_of_ble_eq_true rfl) (Nat.le_of_ble_eq_true rfl) ?_
  refine v_dup dX11_init_45 rfl ?_
  refine v_invIE 7 25 (m_Stand_init g (nw x_3 4 0) (i := cn x_3 4) lt_new) dX11_init_46 cwX6_init rfl mlX11_36 rfl rfl (by decide) (by decide) (Nat.le_of_ble_eq_true rfl) (Nat.le_of_ble_eq_true rfl) (Nat.le_of_ble_eq_true rfl) ?_
  refine v_putR fl_X11_37 (fun _ => ⟨rfl, rfl, _, rfl, rfl⟩) dX11_init_49 rfl rfl (Nat.le_of_ble_eq_true rfl) rfl (by decide +kernel) ?_
  change V g _ _ _ _ _ _ _ (x_4) _ _
  refine v_aload_n dX11_init_52 rfl ?_
  refine v_new 7 6 22 dX11_init_53 rfl clX11_27 rfl (by decide) (Nat.le_of_ble_eq_true rfl) (Nat.le_of_ble_eq_true rfl) ?_
  refine v_dup dX11_init_56 rfl ?_
  refine v_invIE 6 22 (m_List_init g (nw x_4 7 0) (i := cn x_4 7) lt_new) dX11_init_57 cwJx4a65c_init_da8c8 rfl mlX11_29 rfl rfl (by decide) (by decide) (Nat.le_of_ble_eq_true rfl) (Nat.le_of_ble_eq_true rfl) (Nat.le_of_ble_eq_true rfl) ?_
  refine v_putR fl_X11_41 (fun _ => ⟨rfl, rfl, _, rfl, rfl⟩) dX11_init_60 rfl rfl (Nat.le_of_ble_eq_true rfl) rfl (by decide +kernel) ?_
  change V g _ _ _ _ _ _ _ (x_5) _ _
  refine v_aload_n dX11_init_63 rfl ?_
  refine v_new 7 5 19 dX11_init_64 rfl clX11_27 rfl (by decide) (Nat.le_of_ble_eq_true rfl) (Nat.le_of_ble_eq_true rfl) ?_
  refine v_dup dX11_init_67 rfl ?_
  refine v_invIE 5 19 (m_List_init g (nw x_5 7 0) (i := cn x_5 7) lt_new) dX11_init_68 cwJx4a65c_init_da8c8 rfl mlX11_29 rfl rfl (by decide) (by decide) (Nat.le_of_ble_eq_true rfl) (Nat.le_of_ble_eq_true rfl) (Nat.le_of_ble_eq_true rfl) ?_
  refine v_putR fl_X11_44 (fun _ => ⟨rfl, rfl, _, rfl, rfl⟩) dX11_init_71 rfl rfl (Nat.le_of_ble_eq_true rfl) rfl (by decide +kernel) ?_
  change V g _ _ _ _ _ _ _ (x_6) _ _
  refine v_aload_n dX11_init_74 rfl ?_
  refine v_new 7 4 16 dX11_init_75 rfl clX11_27 rfl (by decide) (Nat.le_of_ble_eq_true rfl) (Nat.le_of_ble_eq_true rfl) ?_
  refine v_dup dX11_init_78 rfl ?_
  refine v_invIE 4 16 (m_List_init g (nw x_6 7 0) (i := cn x_6 7) lt_new) dX11_init_79 cwJx4a65c_init_da8c8 rfl mlX11_29 rfl rfl (by decide) (by decide) (Nat.le_of_ble_eq_true rfl) (Nat.le_of_ble_eq_true rfl) (Nat.le_of_ble_eq_true rfl) ?_
  refine v_putR fl_X11_47 (fun _ => ⟨rfl, rfl, _, rfl, rfl⟩) dX11_init_82 rfl rfl (Nat.le_of_ble_eq_true rfl) rfl (by decide +kernel) ?_
  change V g _ _ _ _ _ _ _ (x_7) _ _
  refine v_aload_n dX11_init_85 rfl ?_
  refine v_new 5 3 13 dX11_init_86 rfl clX11_50 rfl (by decide) (Nat.le_of_ble_eq_true rfl) (Nat.le_of_ble_eq_true rfl) ?_
  refine v_dup dX11_init_89 rfl ?_
  refine v_invIE 2 5 (m_Trus_init g (nw x_7 5 0) (i := cn x_7 5) lt_new) dX11_init_90 cwX9_init rfl mlX11_52 rfl rfl (by decide) (by decide) (Nat.le_of_ble_eq_true rfl) (Nat.le_of_ble_eq_true rfl) (Nat.le_of_ble_eq_true rfl) ?_
  refine v_putR fl_X11_53 (fun _ => ⟨rfl, rfl, _, rfl, rfl⟩) dX11_init_93 rfl rfl (Nat.le_of_ble_eq_true rfl) rfl (by decide +kernel) ?_
  change V g _ _ _ _ _ _ _ (x_8) _ _
  refine v_aload_n dX11_init_96 rfl ?_
  refine v_new 7 1 2 dX11_init_97 rfl clX11_27 rfl (by decide) (Nat.le_of_ble_eq_true rfl) (Nat.le_of_ble_eq_true rfl) ?_
  refine v_dup dX11_init_100 rfl ?_
  refine v_invIE 1 2 (m_List_init g (nw x_8 7 0) (i := cn x_8 7) lt_new) dX11_init_101 cwJx4a65c_init_da8c8 rfl mlX11_29 rfl rfl (by decide) (by decide) (Nat.le_of_ble_eq_true rfl) (Nat.le_of_ble_eq_true rfl) (Nat.le_of_ble_eq_true rfl) ?_
  refine v_putR fl_X11_57 (fun _ => ⟨rfl, rfl, _, rfl, rfl⟩) dX11_init_104 rfl rfl (Nat.le_of_ble_eq_true rfl) rfl (by decide +kernel) ?_
  change V g _ _ _ _ _ _ _ (x_9) _ _
  refine v_aload_n dX11_init_107 rfl ?_
  refine v_new 6 0 0 dX11_init_108 rfl clX11_60 rfl (by decide) (Nat.le_of_ble_eq_true rfl) (Nat.le_of_ble_eq_true rfl) ?_
  refine v_dup dX11_init_111 rfl ?_
  refine v_invIE 0 0 (m_Chest_init g (nw x_9 6 0)) dX11_init_112 cwX1_init rfl mlX11_62 rfl rfl (by decide) (by decide) (Nat.le_of_ble_eq_true rfl) (Nat.le_of_ble_eq_true rfl) (Nat.le_of_ble_eq_true rfl) ?_
  refine v_putR fl_X11_63 (fun _ => ⟨rfl, rfl, _, rfl, rfl⟩) dX11_init_115 rfl rfl (Nat.le_of_ble_eq_true rfl) rfl (by decide +kernel) ?_
  change V g _ _ _ _ _ _ _ (x_10) _ _
  refine v_aload_n dX11_init_118 rfl ?_
  refine v_bipush (10) dX11_init_119 (by decide) ?_
  refine v_putI fl_X11_67 (fun z => by cases z) dX11_init_121 rfl rfl (Nat.le_of_ble_eq_true rfl) rfl rfl (by decide +kernel) ?_
  change V g _ _ _ _ _ _ _ (hX) _ _
  refine v_return dX11_init_124 rfl ?_
  exact ⟨rfl, rfl⟩
theorem hX_SX : SX hX := by unfold SX; decide +kernel
