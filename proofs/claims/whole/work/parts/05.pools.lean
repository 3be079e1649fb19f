def pk (p : Nat) : Nat ⊕ Nat := match p with
  | 0 => .inl 12
  | 1 => .inl 9
  | 2 => .inl 5
  | 3 => .inl 11
  | 4 => .inl 7
  | 5 => .inl 10
  | 6 => .inl 2
  | 7 => .inl 0
  | 8 => .inl 1
  | 9 => .inl 4
  | 10 => .inl 6
  | 11 => .inl 8
  | 12 => .inl 3
  | 13 => .inr 0
  | 14 => .inr 2
  | 15 => .inr 4
  | 16 => .inr 3
  | 17 => .inr 0
  | 18 => .inr 0
  | 19 => .inr 0
  | 32 => .inl 15
  | 33 => .inl 13
  | 34 => .inl 13
  | 35 => .inl 14
  | 36 => .inr 5
  | 37 => .inr 1
  | 38 => .inr 0
  | 39 => .inr 2
  | 40 => .inr 0
  | 41 => .inr 0
  | 42 => .inr 0
  | 43 => .inr 0
  | 44 => .inr 0
  | 45 => .inr 0
  | 46 => .inr 0
  | 47 => .inr 0
  | 48 => .inr 0
  | 49 => .inr 0
  | 50 => .inr 0
  | 51 => .inr 0
  | 52 => .inr 0
  | 53 => .inr 0
  | 54 => .inr 0
  | 55 => .inr 0
  | 56 => .inr 0
  | 57 => .inr 0
  | 58 => .inr 0
  | 59 => .inr 0
  | _ => .inr 0
def fk (ci k : Nat) : Nat := match ci with
  | 0 => if k ∈ ([1] : List Nat) then 2 else 0
  | 1 => if k ∈ ([5] : List Nat) then 2 else 0
  | 2 => if k ∈ ([1] : List Nat) then 1 else 0
  | 3 => 0
  | 4 => if k ∈ ([4, 5] : List Nat) then 2 else 0
  | 5 => if k ∈ ([0, 1, 2, 3, 4] : List Nat) then 2 else 0
  | 6 => if k ∈ ([1] : List Nat) then 2 else 0
  | 7 => if k ∈ ([0] : List Nat) then 2 else 0
  | 8 => 0
  | 9 => if k ∈ ([0] : List Nat) then 2 else 0
  | 10 => if k ∈ ([0] : List Nat) then 2 else 0
  | 11 => if k ∈ ([0, 1] : List Nat) then 2 else 0
  | 12 => if k ∈ ([0, 1, 2, 3, 4, 5, 6, 7, 8, 9] : List Nat) then 2 else 0
  | 13 => if k ∈ ([4, 5, 6, 7, 8, 9, 10, 11, 12, 13] : List Nat) then 2 else 0
  | 14 => if k ∈ ([0, 1, 2, 3, 4] : List Nat) then 2 else 0
  | 15 => if k ∈ ([6, 7, 8, 9, 24, 25, 26, 27, 28, 29, 30, 31, 32, 33, 34, 35, 40, 41, 42, 43, 44, 45, 46, 47, 52, 53, 54] : List Nat) then 2 else if k ∈ ([19] : List Nat) then 1 else 0
  | _ => 0
def aty (t : Nat) : FieldType := match t with | 0 => .int | 1 => .byte | 2 => .boolean | 3 => .object "java/lang/Object" | 4 => .object "AlmsHouse$Change" | _ => .object "AlmsHouseModel$Scheme"
def lw_g : List Cond := lw_tbl.filter goodWord
def isNw (w : Cond) : Bool := match w with | .fieldLinkNest .. => true | .methodLinkNest .. => true | .castable .. => true | .declares .. => true | _ => false
def lw_n : List Cond := lw_tbl.filter isNw
theorem lw_g_in {w : Cond} {i : Nat} (h : lw_tbl[i]? = some w) (hg : goodWord w = true) : w ∈ lw_g := List.mem_filter.mpr ⟨List.mem_of_getElem? h, hg⟩
theorem lw_n_in {w : Cond} {i : Nat} (h : lw_tbl[i]? = some w) (hg : isNw w = true) : w ∈ lw_n := List.mem_filter.mpr ⟨List.mem_of_getElem? h, hg⟩
def nF (ci : Nat) : Nat := ((vwCl[ci]?).map (fun q => q.2.2)).getD 0
def CF (q : vw_C) : Prop := (∀ w ∈ u_ws q.1 q.2.1 q.2.2, w ∈ lw_g) ∧ (∃ ty : Nat → FieldType, ∀ k, k < q.2.2 → parseFieldDescriptor (q.2.1 k).2.2.1 = some (ty k)) ∧ (∀ a, a < q.2.2 → ∀ b, b < q.2.2 → a ≠ b → (q.2.1 a).2.1 ≠ (q.2.1 b).2.1) ∧ Cond.instantiable q.1 q.2.2 ∈ lw_g ∧ Cond.initialized q.1 ∈ lw_g
theorem cf_0 : CF (RJx4a65c, TJx4a65c, 3) := ⟨fun w hw => (by
  have e : u_ws RJx4a65c TJx4a65c 3 = [235, 231, 233].filterMap (fun i => lw_tbl[i]?) := by decide +kernel
  have g : (u_ws RJx4a65c TJx4a65c 3).all goodWord = true := by decide +kernel
  have hw : w ∈ u_ws RJx4a65c TJx4a65c 3 := hw
  refine List.mem_filter.mpr ⟨?_, List.all_eq_true.mp g w hw⟩
  rw [e] at hw
  obtain ⟨i, -, hi⟩ := List.mem_filterMap.mp hw
  exact List.mem_of_getElem? hi), ⟨tyJx4a65c, tyJx4a65c_ok⟩, nmJx4a65c, lw_g_in (i := 213) (by decide +kernel) (by decide +kernel), lw_g_in (i := 76) (by decide +kernel) (by decide +kernel)⟩
theorem cf_1 : CF (RX0, TX0, 6) := ⟨fun w hw => (by
  have e : u_ws RX0 TX0 6 = [624, 626, 628, 630, 632, 634].filterMap (fun i => lw_tbl[i]?) := by decide +kernel
  have g : (u_ws RX0 TX0 6).all goodWord = true := by decide +kernel
  have hw : w ∈ u_ws RX0 TX0 6 := hw
  refine List.mem_filter.mpr ⟨?_, List.all_eq_true.mp g w hw⟩
  rw [e] at hw
  obtain ⟨i, -, hi⟩ := List.mem_filterMap.mp hw
  exact List.mem_of_getElem? hi), ⟨tyX0, tyX0_ok⟩, nmX0, lw_g_in (i := 574) (by decide +kernel) (by decide +kernel), lw_g_in (i := 90) (by decide +kernel) (by decide +kernel)⟩
theorem cf_2 : CF (RX1, TX1, 2) := ⟨fun w hw => (by
  have e : u_ws RX1 TX1 2 = [279, 281].filterMap (fun i => lw_tbl[i]?) := by decide +kernel
  have g : (u_ws RX1 TX1 2).all goodWord = true := by decide +kernel
  have hw : w ∈ u_ws RX1 TX1 2 := hw
  refine List.mem_filter.mpr ⟨?_, List.all_eq_true.mp g w hw⟩
  rw [e] at hw
  obtain ⟨i, -, hi⟩ := List.mem_filterMap.mp hw
  exact List.mem_of_getElem? hi), ⟨tyX1, tyX1_ok⟩, nmX1, lw_g_in (i := 270) (by decide +kernel) (by decide +kernel), lw_g_in (i := 79) (by decide +kernel) (by decide +kernel)⟩
theorem cf_3 : CF (RX2, TX2, 3) := ⟨fun w hw => (by
  have e : u_ws RX2 TX2 3 = [994, 996, 998].filterMap (fun i => lw_tbl[i]?) := by decide +kernel
  have g : (u_ws RX2 TX2 3).all goodWord = true := by decide +kernel
  have hw : w ∈ u_ws RX2 TX2 3 := hw
  refine List.mem_filter.mpr ⟨?_, List.all_eq_true.mp g w hw⟩
  rw [e] at hw
  obtain ⟨i, -, hi⟩ := List.mem_filterMap.mp hw
  exact List.mem_of_getElem? hi), ⟨tyX2, tyX2_ok⟩, nmX2, lw_g_in (i := 985) (by decide +kernel) (by decide +kernel), lw_g_in (i := 99) (by decide +kernel) (by decide +kernel)⟩
theorem cf_4 : CF (RX3, TX3, 11) := ⟨fun w hw => (by
  have e : u_ws RX3 TX3 11 = [773, 775, 777, 779, 781, 783, 785, 787, 789, 791, 793].filterMap (fun i => lw_tbl[i]?) := by decide +kernel
  have g : (u_ws RX3 TX3 11).all goodWord = true := by decide +kernel
  have hw : w ∈ u_ws RX3 TX3 11 := hw
  refine List.mem_filter.mpr ⟨?_, List.all_eq_true.mp g w hw⟩
  rw [e] at hw
  obtain ⟨i, -, hi⟩ := List.mem_filterMap.mp hw
  exact List.mem_of_getElem? hi), ⟨tyX3, tyX3_ok⟩, nmX3, lw_g_in (i := 751) (by decide +kernel) (by decide +kernel), lw_g_in (i := 96) (by decide +kernel) (by decide +kernel)⟩
theorem cf_5 : CF (RX4, TX4, 14) := ⟨fun w hw => (by
  have e : u_ws RX4 TX4 14 = [183, 185, 187, 189, 191, 193, 195, 197, 199, 201, 203, 205, 207, 209].filterMap (fun i => lw_tbl[i]?) := by decide +kernel
  have g : (u_ws RX4 TX4 14).all goodWord = true := by decide +kernel
  have hw : w ∈ u_ws RX4 TX4 14 := hw
  refine List.mem_filter.mpr ⟨?_, List.all_eq_true.mp g w hw⟩
  rw [e] at hw
  obtain ⟨i, -, hi⟩ := List.mem_filterMap.mp hw
  exact List.mem_of_getElem? hi), ⟨tyX4, tyX4_ok⟩, nmX4, lw_g_in (i := 142) (by decide +kernel) (by decide +kernel), lw_g_in (i := 72) (by decide +kernel) (by decide +kernel)⟩
theorem cf_6 : CF (RX5, TX5, 3) := ⟨fun w hw => (by
  have e : u_ws RX5 TX5 3 = [909, 911, 913].filterMap (fun i => lw_tbl[i]?) := by decide +kernel
  have g : (u_ws RX5 TX5 3).all goodWord = true := by decide +kernel
  have hw : w ∈ u_ws RX5 TX5 3 := hw
  refine List.mem_filter.mpr ⟨?_, List.all_eq_true.mp g w hw⟩
  rw [e] at hw
  obtain ⟨i, -, hi⟩ := List.mem_filterMap.mp hw
  exact List.mem_of_getElem? hi), ⟨tyX5, tyX5_ok⟩, nmX5, lw_g_in (i := 899) (by decide +kernel) (by decide +kernel), lw_g_in (i := 97) (by decide +kernel) (by decide +kernel)⟩
theorem cf_7 : CF (RX6, TX6, 1) := ⟨fun w hw => (by
  have e : u_ws RX6 TX6 1 = [247].filterMap (fun i => lw_tbl[i]?) := by decide +kernel
  have g : (u_ws RX6 TX6 1).all goodWord = true := by decide +kernel
  have hw : w ∈ u_ws RX6 TX6 1 := hw
  refine List.mem_filter.mpr ⟨?_, List.all_eq_true.mp g w hw⟩
  rw [e] at hw
  obtain ⟨i, -, hi⟩ := List.mem_filterMap.mp hw
  exact List.mem_of_getElem? hi), ⟨tyX6, tyX6_ok⟩, nmX6, lw_g_in (i := 239) (by decide +kernel) (by decide +kernel), lw_g_in (i := 77) (by decide +kernel) (by decide +kernel)⟩
theorem cf_8 : CF (RX7, TX7, 4) := ⟨fun w hw => (by
  have e : u_ws RX7 TX7 4 = [955, 957, 959, 961].filterMap (fun i => lw_tbl[i]?) := by decide +kernel
  have g : (u_ws RX7 TX7 4).all goodWord = true := by decide +kernel
  have hw : w ∈ u_ws RX7 TX7 4 := hw
  refine List.mem_filter.mpr ⟨?_, List.all_eq_true.mp g w hw⟩
  rw [e] at hw
  obtain ⟨i, -, hi⟩ := List.mem_filterMap.mp hw
  exact List.mem_of_getElem? hi), ⟨tyX7, tyX7_ok⟩, nmX7, lw_g_in (i := 941) (by decide +kernel) (by decide +kernel), lw_g_in (i := 98) (by decide +kernel) (by decide +kernel)⟩
theorem cf_9 : CF (RX8, TX8, 7) := ⟨fun w hw => (by
  have e : u_ws RX8 TX8 7 = [125, 127, 129, 131, 133, 135, 137].filterMap (fun i => lw_tbl[i]?) := by decide +kernel
  have g : (u_ws RX8 TX8 7).all goodWord = true := by decide +kernel
  have hw : w ∈ u_ws RX8 TX8 7 := hw
  refine List.mem_filter.mpr ⟨?_, List.all_eq_true.mp g w hw⟩
  rw [e] at hw
  obtain ⟨i, -, hi⟩ := List.mem_filterMap.mp hw
  exact List.mem_of_getElem? hi), ⟨tyX8, tyX8_ok⟩, nmX8, lw_g_in (i := 109) (by decide +kernel) (by decide +kernel), lw_g_in (i := 71) (by decide +kernel) (by decide +kernel)⟩
theorem cf_10 : CF (RX9, TX9, 3) := ⟨fun w hw => (by
  have e : u_ws RX9 TX9 3 = [261, 263, 265].filterMap (fun i => lw_tbl[i]?) := by decide +kernel
  have g : (u_ws RX9 TX9 3).all goodWord = true := by decide +kernel
  have hw : w ∈ u_ws RX9 TX9 3 := hw
  refine List.mem_filter.mpr ⟨?_, List.all_eq_true.mp g w hw⟩
  rw [e] at hw
  obtain ⟨i, -, hi⟩ := List.mem_filterMap.mp hw
  exact List.mem_of_getElem? hi), ⟨tyX9, tyX9_ok⟩, nmX9, lw_g_in (i := 251) (by decide +kernel) (by decide +kernel), lw_g_in (i := 78) (by decide +kernel) (by decide +kernel)⟩
theorem cf_11 : CF (RX10, TX10, 4) := ⟨fun w hw => (by
  have e : u_ws RX10 TX10 4 = [159, 161, 163, 165].filterMap (fun i => lw_tbl[i]?) := by decide +kernel
  have g : (u_ws RX10 TX10 4).all goodWord = true := by decide +kernel
  have hw : w ∈ u_ws RX10 TX10 4 := hw
  refine List.mem_filter.mpr ⟨?_, List.all_eq_true.mp g w hw⟩
  rw [e] at hw
  obtain ⟨i, -, hi⟩ := List.mem_filterMap.mp hw
  exact List.mem_of_getElem? hi), ⟨tyX10, tyX10_ok⟩, nmX10, lw_g_in (i := 148) (by decide +kernel) (by decide +kernel), lw_g_in (i := 73) (by decide +kernel) (by decide +kernel)⟩
theorem cf_12 : CF (RX11, TX11, 17) := ⟨fun w hw => (by
  have e : u_ws RX11 TX11 17 = [301, 303, 305, 307, 309, 311, 313, 315, 317, 319, 321, 323, 325, 327, 329, 331, 333].filterMap (fun i => lw_tbl[i]?) := by decide +kernel
  have g : (u_ws RX11 TX11 17).all goodWord = true := by decide +kernel
  have hw : w ∈ u_ws RX11 TX11 17 := hw
  refine List.mem_filter.mpr ⟨?_, List.all_eq_true.mp g w hw⟩
  rw [e] at hw
  obtain ⟨i, -, hi⟩ := List.mem_filterMap.mp hw
  exact List.mem_of_getElem? hi), ⟨tyX11, tyX11_ok⟩, nmX11, lw_g_in (i := 101) (by decide +kernel) (by decide +kernel), lw_g_in (i := 70) (by decide +kernel) (by decide +kernel)⟩
theorem cf_13 : CF (RX12, TX12, 14) := ⟨fun w hw => (by
  have e : u_ws RX12 TX12 14 = [1093, 1095, 1097, 1099, 1101, 1103, 1105, 1107, 1109, 1111, 1113, 1115, 1117, 1119].filterMap (fun i => lw_tbl[i]?) := by decide +kernel
  have g : (u_ws RX12 TX12 14).all goodWord = true := by decide +kernel
  have hw : w ∈ u_ws RX12 TX12 14 := hw
  refine List.mem_filter.mpr ⟨?_, List.all_eq_true.mp g w hw⟩
  rw [e] at hw
  obtain ⟨i, -, hi⟩ := List.mem_filterMap.mp hw
  exact List.mem_of_getElem? hi), ⟨tyX12, tyX12_ok⟩, nmX12, lw_g_in (i := 1063) (by decide +kernel) (by decide +kernel), lw_g_in (i := 81) (by decide +kernel) (by decide +kernel)⟩
theorem cf_14 : CF (RX13, TX13, 8) := ⟨fun w hw => (by
  have e : u_ws RX13 TX13 8 = [1133, 1135, 1137, 1139, 1141, 1188, 1180, 1182].filterMap (fun i => lw_tbl[i]?) := by decide +kernel
  have g : (u_ws RX13 TX13 8).all goodWord = true := by decide +kernel
  have hw : w ∈ u_ws RX13 TX13 8 := hw
  refine List.mem_filter.mpr ⟨?_, List.all_eq_true.mp g w hw⟩
  rw [e] at hw
  obtain ⟨i, -, hi⟩ := List.mem_filterMap.mp hw
  exact List.mem_of_getElem? hi), ⟨tyX13, tyX13_ok⟩, nmX13, lw_g_in (i := 1123) (by decide +kernel) (by decide +kernel), lw_g_in (i := 85) (by decide +kernel) (by decide +kernel)⟩
theorem cf_15 : CF (RX14, TX14, 55) := ⟨fun w hw => (by
  have e : u_ws RX14 TX14 55 = [1247, 1249, 1251, 1253, 1255, 1257, 1259, 1261, 1263, 1265, 1267, 1269, 1271, 1273, 1275, 1277, 1279, 1281, 1283, 1285, 1287, 1289, 1291, 1293, 1295, 1297, 1299, 1301, 1303, 1305, 1307, 1309, 1311, 1313, 1315, 1317, 1319, 1321, 1323, 1325, 1327, 1329, 1331, 1333, 1335, 1337, 1339, 1341, 1343, 1345, 1347, 1349, 1351, 1353, 1355].filterMap (fun i => lw_tbl[i]?) := by decide +kernel
  have g : (u_ws RX14 TX14 55).all goodWord = true := by decide +kernel
  have hw : w ∈ u_ws RX14 TX14 55 := hw
  refine List.mem_filter.mpr ⟨?_, List.all_eq_true.mp g w hw⟩
  rw [e] at hw
  obtain ⟨i, -, hi⟩ := List.mem_filterMap.mp hw
  exact List.mem_of_getElem? hi), ⟨tyX14, tyX14_ok⟩, nmX14, lw_g_in (i := 1056) (by decide +kernel) (by decide +kernel), lw_g_in (i := 80) (by decide +kernel) (by decide +kernel)⟩
theorem cf_all : ∀ (ci : Nat) (q : vw_C), vwCl[ci]? = some q → CF q := by
  intro ci q hq
  match ci, hq with
  | 0, hq => cases hq; exact cf_0
  | 1, hq => cases hq; exact cf_1
  | 2, hq => cases hq; exact cf_2
  | 3, hq => cases hq; exact cf_3
  | 4, hq => cases hq; exact cf_4
  | 5, hq => cases hq; exact cf_5
  | 6, hq => cases hq; exact cf_6
  | 7, hq => cases hq; exact cf_7
  | 8, hq => cases hq; exact cf_8
  | 9, hq => cases hq; exact cf_9
  | 10, hq => cases hq; exact cf_10
  | 11, hq => cases hq; exact cf_11
  | 12, hq => cases hq; exact cf_12
  | 13, hq => cases hq; exact cf_13
  | 14, hq => cases hq; exact cf_14
  | 15, hq => cases hq; exact cf_15
  | n + 16, hq => simp [vwCl] at hq
def FL (own : String) (idx ci k : Nat) (ty : FieldType) (fin nest : Bool) : Prop := ∃ (ref : String) (q : vw_C), vwCl[ci]? = some q ∧ k < q.2.2 ∧ (q.2.1 k).2.2.2 = fin ∧ parseFieldDescriptor (q.2.1 k).2.2.1 = some ty ∧ ((nest = false ∧ Cond.fieldLink own idx ref (q.2.1 k).2.1 (q.2.1 k).2.2.1 ∈ lw_g) ∨ (nest = true ∧ ∃ host, Cond.fieldLinkNest own idx ref (q.2.1 k).2.1 (q.2.1 k).2.2.1 host ∈ lw_n)) ∧ (ref = (q.2.1 k).1 ∨ Cond.sameField ref (q.2.1 k).1 (q.2.1 k).2.1 (q.2.1 k).2.2.1 ∈ lw_g)
theorem fl_X8_9 : FL RX8 9 9 0 (.array (.int)) true false := ⟨"AlmsHouse$Tape", _, rfl, by decide, rfl, by decide +kernel, Or.inl ⟨rfl, lw_g_in (i := 114) (by decide +kernel) (by decide +kernel)⟩, Or.inl rfl⟩
theorem fl_X8_15 : FL RX8 15 9 1 (.int) false false := ⟨"AlmsHouse$Tape", _, rfl, by decide, rfl, by decide +kernel, Or.inl ⟨rfl, lw_g_in (i := 115) (by decide +kernel) (by decide +kernel)⟩, Or.inl rfl⟩
theorem fl_X11_81 : FL RX11 81 9 1 (.int) false false := ⟨"AlmsHouse$Tape", _, rfl, by decide, rfl, by decide +kernel, Or.inl ⟨rfl, lw_g_in (i := 116) (by decide +kernel) (by decide +kernel)⟩, Or.inl rfl⟩
theorem fl_X8_19 : FL RX8 19 9 2 (.int) false false := ⟨"AlmsHouse$Tape", _, rfl, by decide, rfl, by decide +kernel, Or.inl ⟨rfl, lw_g_in (i := 117) (by decide +kernel) (by decide +kernel)⟩, Or.inl rfl⟩
theorem fl_X8_22 : FL RX8 22 9 3 (.int) false false := ⟨"AlmsHouse$Tape", _, rfl, by decide, rfl, by decide +kernel, Or.inl ⟨rfl, lw_g_in (i := 118) (by decide +kernel) (by decide +kernel)⟩, Or.inl rfl⟩
theorem fl_X8_29 : FL RX8 29 9 4 (.int) false false := ⟨"AlmsHouse$Tape", _, rfl, by decide, rfl, by decide +kernel, Or.inl ⟨rfl, lw_g_in (i := 119) (by decide +kernel) (by decide +kernel)⟩, Or.inl rfl⟩
theorem fl_X11_101 : FL RX11 101 9 4 (.int) false false := ⟨"AlmsHouse$Tape", _, rfl, by decide, rfl, by decide +kernel, Or.inl ⟨rfl, lw_g_in (i := 120) (by decide +kernel) (by decide +kernel)⟩, Or.inl rfl⟩
theorem fl_X8_35 : FL RX8 35 9 5 (.int) false false := ⟨"AlmsHouse$Tape", _, rfl, by decide, rfl, by decide +kernel, Or.inl ⟨rfl, lw_g_in (i := 121) (by decide +kernel) (by decide +kernel)⟩, Or.inl rfl⟩
theorem fl_X4_108 : FL RX4 108 9 5 (.int) false false := ⟨"AlmsHouse$Tape", _, rfl, by decide, rfl, by decide +kernel, Or.inl ⟨rfl, lw_g_in (i := 122) (by decide +kernel) (by decide +kernel)⟩, Or.inl rfl⟩
theorem fl_X8_32 : FL RX8 32 9 6 (.int) false false := ⟨"AlmsHouse$Tape", _, rfl, by decide, rfl, by decide +kernel, Or.inl ⟨rfl, lw_g_in (i := 123) (by decide +kernel) (by decide +kernel)⟩, Or.inl rfl⟩
theorem fl_X4_117 : FL RX4 117 9 6 (.int) false false := ⟨"AlmsHouse$Tape", _, rfl, by decide, rfl, by decide +kernel, Or.inl ⟨rfl, lw_g_in (i := 124) (by decide +kernel) (by decide +kernel)⟩, Or.inl rfl⟩
theorem fl_X10_9 : FL RX10 9 11 0 (.array (.int)) true false := ⟨"AlmsHouse$Writer", _, rfl, by decide, rfl, by decide +kernel, Or.inl ⟨rfl, lw_g_in (i := 153) (by decide +kernel) (by decide +kernel)⟩, Or.inl rfl⟩
theorem fl_X4_55 : FL RX4 55 11 0 (.array (.int)) true false := ⟨"AlmsHouse$Writer", _, rfl, by decide, rfl, by decide +kernel, Or.inl ⟨rfl, lw_g_in (i := 154) (by decide +kernel) (by decide +kernel)⟩, Or.inl rfl⟩
theorem fl_X10_15 : FL RX10 15 11 1 (.array (.int)) true false := ⟨"AlmsHouse$Writer", _, rfl, by decide, rfl, by decide +kernel, Or.inl ⟨rfl, lw_g_in (i := 155) (by decide +kernel) (by decide +kernel)⟩, Or.inl rfl⟩
theorem fl_X10_18 : FL RX10 18 11 2 (.int) false false := ⟨"AlmsHouse$Writer", _, rfl, by decide, rfl, by decide +kernel, Or.inl ⟨rfl, lw_g_in (i := 156) (by decide +kernel) (by decide +kernel)⟩, Or.inl rfl⟩
theorem fl_X4_120 : FL RX4 120 11 2 (.int) false false := ⟨"AlmsHouse$Writer", _, rfl, by decide, rfl, by decide +kernel, Or.inl ⟨rfl, lw_g_in (i := 157) (by decide +kernel) (by decide +kernel)⟩, Or.inl rfl⟩
theorem fl_X10_22 : FL RX10 22 11 3 (.int) false false := ⟨"AlmsHouse$Writer", _, rfl, by decide, rfl, by decide +kernel, Or.inl ⟨rfl, lw_g_in (i := 158) (by decide +kernel) (by decide +kernel)⟩, Or.inl rfl⟩
theorem fl_X4_28 : FL RX4 28 5 0 (.object "AlmsHouse$Tape") true false := ⟨"AlmsHouse$Reader", _, rfl, by decide, rfl, by decide +kernel, Or.inl ⟨rfl, lw_g_in (i := 168) (by decide +kernel) (by decide +kernel)⟩, Or.inl rfl⟩
theorem fl_X4_12 : FL RX4 12 5 1 (.object "AlmsHouse$Writer") true false := ⟨"AlmsHouse$Reader", _, rfl, by decide, rfl, by decide +kernel, Or.inl ⟨rfl, lw_g_in (i := 169) (by decide +kernel) (by decide +kernel)⟩, Or.inl rfl⟩
theorem fl_X4_18 : FL RX4 18 5 2 (.array (.int)) true false := ⟨"AlmsHouse$Reader", _, rfl, by decide, rfl, by decide +kernel, Or.inl ⟨rfl, lw_g_in (i := 170) (by decide +kernel) (by decide +kernel)⟩, Or.inl rfl⟩
theorem fl_X4_22 : FL RX4 22 5 3 (.array (.int)) true false := ⟨"AlmsHouse$Reader", _, rfl, by decide, rfl, by decide +kernel, Or.inl ⟨rfl, lw_g_in (i := 171) (by decide +kernel) (by decide +kernel)⟩, Or.inl rfl⟩
theorem fl_X4_25 : FL RX4 25 5 4 (.array (.int)) true false := ⟨"AlmsHouse$Reader", _, rfl, by decide, rfl, by decide +kernel, Or.inl ⟨rfl, lw_g_in (i := 172) (by decide +kernel) (by decide +kernel)⟩, Or.inl rfl⟩
theorem fl_X4_52 : FL RX4 52 5 5 (.int) false false := ⟨"AlmsHouse$Reader", _, rfl, by decide, rfl, by decide +kernel, Or.inl ⟨rfl, lw_g_in (i := 173) (by decide +kernel) (by decide +kernel)⟩, Or.inl rfl⟩
theorem fl_X11_274 : FL RX11 274 5 5 (.int) false false := ⟨"AlmsHouse$Reader", _, rfl, by decide, rfl, by decide +kernel, Or.inl ⟨rfl, lw_g_in (i := 174) (by decide +kernel) (by decide +kernel)⟩, Or.inl rfl⟩
theorem fl_X4_48 : FL RX4 48 5 6 (.int) false false := ⟨"AlmsHouse$Reader", _, rfl, by decide, rfl, by decide +kernel, Or.inl ⟨rfl, lw_g_in (i := 175) (by decide +kernel) (by decide +kernel)⟩, Or.inl rfl⟩
theorem fl_X4_65 : FL RX4 65 5 7 (.int) false false := ⟨"AlmsHouse$Reader", _, rfl, by decide, rfl, by decide +kernel, Or.inl ⟨rfl, lw_g_in (i := 176) (by decide +kernel) (by decide +kernel)⟩, Or.inl rfl⟩
theorem fl_X4_114 : FL RX4 114 5 8 (.int) false false := ⟨"AlmsHouse$Reader", _, rfl, by decide, rfl, by decide +kernel, Or.inl ⟨rfl, lw_g_in (i := 177) (by decide +kernel) (by decide +kernel)⟩, Or.inl rfl⟩
theorem fl_X4_68 : FL RX4 68 5 9 (.int) false false := ⟨"AlmsHouse$Reader", _, rfl, by decide, rfl, by decide +kernel, Or.inl ⟨rfl, lw_g_in (i := 178) (by decide +kernel) (by decide +kernel)⟩, Or.inl rfl⟩
theorem fl_X4_71 : FL RX4 71 5 10 (.int) false false := ⟨"AlmsHouse$Reader", _, rfl, by decide, rfl, by decide +kernel, Or.inl ⟨rfl, lw_g_in (i := 179) (by decide +kernel) (by decide +kernel)⟩, Or.inl rfl⟩
theorem fl_X4_126 : FL RX4 126 5 11 (.int) false false := ⟨"AlmsHouse$Reader", _, rfl, by decide, rfl, by decide +kernel, Or.inl ⟨rfl, lw_g_in (i := 180) (by decide +kernel) (by decide +kernel)⟩, Or.inl rfl⟩
theorem fl_X4_132 : FL RX4 132 5 12 (.int) false false := ⟨"AlmsHouse$Reader", _, rfl, by decide, rfl, by decide +kernel, Or.inl ⟨rfl, lw_g_in (i := 181) (by decide +kernel) (by decide +kernel)⟩, Or.inl rfl⟩
theorem fl_X4_155 : FL RX4 155 5 13 (.int) false false := ⟨"AlmsHouse$Reader", _, rfl, by decide, rfl, by decide +kernel, Or.inl ⟨rfl, lw_g_in (i := 182) (by decide +kernel) (by decide +kernel)⟩, Or.inl rfl⟩
theorem fl_Jx4a65c_9 : FL RJx4a65c 9 0 1 (.array (.object "java/lang/Object")) false false := ⟨"java/util/ArrayList", _, rfl, by decide, rfl, by decide +kernel, Or.inl ⟨rfl, lw_g_in (i := 226) (by decide +kernel) (by decide +kernel)⟩, Or.inl rfl⟩
theorem fl_Jx4a65c_48 : FL RJx4a65c 48 0 2 (.int) false false := ⟨"java/util/ArrayList", _, rfl, by decide, rfl, by decide +kernel, Or.inl ⟨rfl, lw_g_in (i := 227) (by decide +kernel) (by decide +kernel)⟩, Or.inl rfl⟩
theorem fl_Jxc12de_7 : FL RJxc12de 7 0 0 (.int) false false := ⟨"java/util/AbstractList", _, rfl, by decide, rfl, by decide +kernel, Or.inl ⟨rfl, lw_g_in (i := 228) (by decide +kernel) (by decide +kernel)⟩, Or.inl rfl⟩
theorem fl_Jx4a65c_63 : FL RJx4a65c 63 0 0 (.int) false false := ⟨"java/util/ArrayList", _, rfl, by decide, rfl, by decide +kernel, Or.inl ⟨rfl, lw_g_in (i := 229) (by decide +kernel) (by decide +kernel)⟩, Or.inr (lw_g_in (i := 230) (by decide +kernel) (by decide +kernel))⟩
theorem fl_X6_11 : FL RX6 11 7 0 (.array (.object "AlmsHouse$Change")) true false := ⟨"AlmsHouse$Standing", _, rfl, by decide, rfl, by decide +kernel, Or.inl ⟨rfl, lw_g_in (i := 246) (by decide +kernel) (by decide +kernel)⟩, Or.inl rfl⟩
theorem fl_X9_9 : FL RX9 9 10 0 (.array (.boolean)) true false := ⟨"AlmsHouse$Trustees", _, rfl, by decide, rfl, by decide +kernel, Or.inl ⟨rfl, lw_g_in (i := 256) (by decide +kernel) (by decide +kernel)⟩, Or.inl rfl⟩
theorem fl_X9_19 : FL RX9 19 10 1 (.int) false false := ⟨"AlmsHouse$Trustees", _, rfl, by decide, rfl, by decide +kernel, Or.inl ⟨rfl, lw_g_in (i := 257) (by decide +kernel) (by decide +kernel)⟩, Or.inl rfl⟩
theorem fl_X11_201 : FL RX11 201 10 1 (.int) false false := ⟨"AlmsHouse$Trustees", _, rfl, by decide, rfl, by decide +kernel, Or.inl ⟨rfl, lw_g_in (i := 258) (by decide +kernel) (by decide +kernel)⟩, Or.inl rfl⟩
theorem fl_X9_15 : FL RX9 15 10 2 (.int) false false := ⟨"AlmsHouse$Trustees", _, rfl, by decide, rfl, by decide +kernel, Or.inl ⟨rfl, lw_g_in (i := 259) (by decide +kernel) (by decide +kernel)⟩, Or.inl rfl⟩
theorem fl_X11_256 : FL RX11 256 10 2 (.int) false false := ⟨"AlmsHouse$Trustees", _, rfl, by decide, rfl, by decide +kernel, Or.inl ⟨rfl, lw_g_in (i := 260) (by decide +kernel) (by decide +kernel)⟩, Or.inl rfl⟩
theorem fl_X1_16 : FL RX1 16 2 0 (.int) false false := ⟨"AlmsHouse$Chest", _, rfl, by decide, rfl, by decide +kernel, Or.inl ⟨rfl, lw_g_in (i := 275) (by decide +kernel) (by decide +kernel)⟩, Or.inl rfl⟩
theorem fl_X11_259 : FL RX11 259 2 0 (.int) false false := ⟨"AlmsHouse$Chest", _, rfl, by decide, rfl, by decide +kernel, Or.inl ⟨rfl, lw_g_in (i := 276) (by decide +kernel) (by decide +kernel)⟩, Or.inl rfl⟩
theorem fl_X1_9 : FL RX1 9 2 1 (.long) false false := ⟨"AlmsHouse$Chest", _, rfl, by decide, rfl, by decide +kernel, Or.inl ⟨rfl, lw_g_in (i := 277) (by decide +kernel) (by decide +kernel)⟩, Or.inl rfl⟩
theorem fl_X11_262 : FL RX11 262 2 1 (.long) false false := ⟨"AlmsHouse$Chest", _, rfl, by decide, rfl, by decide +kernel, Or.inl ⟨rfl, lw_g_in (i := 278) (by decide +kernel) (by decide +kernel)⟩, Or.inl rfl⟩
theorem fl_X11_12 : FL RX11 12 12 0 (.object "AlmsHouse$Tape") true false := ⟨"AlmsHouse", _, rfl, by decide, rfl, by decide +kernel, Or.inl ⟨rfl, lw_g_in (i := 284) (by decide +kernel) (by decide +kernel)⟩, Or.inl rfl⟩
theorem fl_X11_23 : FL RX11 23 12 1 (.object "AlmsHouse$Reader") true false := ⟨"AlmsHouse", _, rfl, by decide, rfl, by decide +kernel, Or.inl ⟨rfl, lw_g_in (i := 285) (by decide +kernel) (by decide +kernel)⟩, Or.inl rfl⟩
theorem fl_X11_30 : FL RX11 30 12 2 (.object "java/util/ArrayList") true false := ⟨"AlmsHouse", _, rfl, by decide, rfl, by decide +kernel, Or.inl ⟨rfl, lw_g_in (i := 286) (by decide +kernel) (by decide +kernel)⟩, Or.inl rfl⟩
theorem fl_X11_37 : FL RX11 37 12 3 (.object "AlmsHouse$Standing") true false := ⟨"AlmsHouse", _, rfl, by decide, rfl, by decide +kernel, Or.inl ⟨rfl, lw_g_in (i := 287) (by decide +kernel) (by decide +kernel)⟩, Or.inl rfl⟩
theorem fl_X11_41 : FL RX11 41 12 4 (.object "java/util/ArrayList") true false := ⟨"AlmsHouse", _, rfl, by decide, rfl, by decide +kernel, Or.inl ⟨rfl, lw_g_in (i := 288) (by decide +kernel) (by decide +kernel)⟩, Or.inl rfl⟩
theorem fl_X11_44 : FL RX11 44 12 5 (.object "java/util/ArrayList") true false := ⟨"AlmsHouse", _, rfl, by decide, rfl, by decide +kernel, Or.inl ⟨rfl, lw_g_in (i := 289) (by decide +kernel) (by decide +kernel)⟩, Or.inl rfl⟩
theorem fl_X11_47 : FL RX11 47 12 6 (.object "java/util/ArrayList") true false := ⟨"AlmsHouse", _, rfl, by decide, rfl, by decide +kernel, Or.inl ⟨rfl, lw_g_in (i := 290) (by decide +kernel) (by decide +kernel)⟩, Or.inl rfl⟩
theorem fl_X11_53 : FL RX11 53 12 7 (.object "AlmsHouse$Trustees") true false := ⟨"AlmsHouse", _, rfl, by decide, rfl, by decide +kernel, Or.inl ⟨rfl, lw_g_in (i := 291) (by decide +kernel) (by decide +kernel)⟩, Or.inl rfl⟩
theorem fl_X11_57 : FL RX11 57 12 8 (.object "java/util/ArrayList") true false := ⟨"AlmsHouse", _, rfl, by decide, rfl, by decide +kernel, Or.inl ⟨rfl, lw_g_in (i := 292) (by decide +kernel) (by decide +kernel)⟩, Or.inl rfl⟩
theorem fl_X11_63 : FL RX11 63 12 9 (.object "AlmsHouse$Chest") true false := ⟨"AlmsHouse", _, rfl, by decide, rfl, by decide +kernel, Or.inl ⟨rfl, lw_g_in (i := 293) (by decide +kernel) (by decide +kernel)⟩, Or.inl rfl⟩
theorem fl_X11_71 : FL RX11 71 12 10 (.int) false false := ⟨"AlmsHouse", _, rfl, by decide, rfl, by decide +kernel, Or.inl ⟨rfl, lw_g_in (i := 294) (by decide +kernel) (by decide +kernel)⟩, Or.inl rfl⟩
theorem fl_X11_107 : FL RX11 107 12 11 (.int) false false := ⟨"AlmsHouse", _, rfl, by decide, rfl, by decide +kernel, Or.inl ⟨rfl, lw_g_in (i := 295) (by decide +kernel) (by decide +kernel)⟩, Or.inl rfl⟩
theorem fl_X11_67 : FL RX11 67 12 12 (.int) false false := ⟨"AlmsHouse", _, rfl, by decide, rfl, by decide +kernel, Or.inl ⟨rfl, lw_g_in (i := 296) (by decide +kernel) (by decide +kernel)⟩, Or.inl rfl⟩
theorem fl_X11_135 : FL RX11 135 12 13 (.int) false false := ⟨"AlmsHouse", _, rfl, by decide, rfl, by decide +kernel, Or.inl ⟨rfl, lw_g_in (i := 297) (by decide +kernel) (by decide +kernel)⟩, Or.inl rfl⟩
theorem fl_X11_114 : FL RX11 114 12 14 (.int) false false := ⟨"AlmsHouse", _, rfl, by decide, rfl, by decide +kernel, Or.inl ⟨rfl, lw_g_in (i := 298) (by decide +kernel) (by decide +kernel)⟩, Or.inl rfl⟩
theorem fl_X11_98 : FL RX11 98 12 15 (.int) false false := ⟨"AlmsHouse", _, rfl, by decide, rfl, by decide +kernel, Or.inl ⟨rfl, lw_g_in (i := 299) (by decide +kernel) (by decide +kernel)⟩, Or.inl rfl⟩
theorem fl_X11_104 : FL RX11 104 12 16 (.int) false false := ⟨"AlmsHouse", _, rfl, by decide, rfl, by decide +kernel, Or.inl ⟨rfl, lw_g_in (i := 300) (by decide +kernel) (by decide +kernel)⟩, Or.inl rfl⟩
theorem fl_X0_9 : FL RX0 9 1 0 (.int) true false := ⟨"AlmsHouse$Change", _, rfl, by decide, rfl, by decide +kernel, Or.inl ⟨rfl, lw_g_in (i := 613) (by decide +kernel) (by decide +kernel)⟩, Or.inl rfl⟩
theorem fl_X11_125 : FL RX11 125 1 0 (.int) true false := ⟨"AlmsHouse$Change", _, rfl, by decide, rfl, by decide +kernel, Or.inl ⟨rfl, lw_g_in (i := 614) (by decide +kernel) (by decide +kernel)⟩, Or.inl rfl⟩
theorem fl_X0_15 : FL RX0 15 1 1 (.int) true false := ⟨"AlmsHouse$Change", _, rfl, by decide, rfl, by decide +kernel, Or.inl ⟨rfl, lw_g_in (i := 615) (by decide +kernel) (by decide +kernel)⟩, Or.inl rfl⟩
theorem fl_X6_27 : FL RX6 27 1 1 (.int) true false := ⟨"AlmsHouse$Change", _, rfl, by decide, rfl, by decide +kernel, Or.inl ⟨rfl, lw_g_in (i := 616) (by decide +kernel) (by decide +kernel)⟩, Or.inl rfl⟩
theorem fl_X0_18 : FL RX0 18 1 2 (.int) true false := ⟨"AlmsHouse$Change", _, rfl, by decide, rfl, by decide +kernel, Or.inl ⟨rfl, lw_g_in (i := 617) (by decide +kernel) (by decide +kernel)⟩, Or.inl rfl⟩
theorem fl_X6_31 : FL RX6 31 1 2 (.int) true false := ⟨"AlmsHouse$Change", _, rfl, by decide, rfl, by decide +kernel, Or.inl ⟨rfl, lw_g_in (i := 618) (by decide +kernel) (by decide +kernel)⟩, Or.inl rfl⟩
theorem fl_X0_21 : FL RX0 21 1 3 (.int) true false := ⟨"AlmsHouse$Change", _, rfl, by decide, rfl, by decide +kernel, Or.inl ⟨rfl, lw_g_in (i := 619) (by decide +kernel) (by decide +kernel)⟩, Or.inl rfl⟩
theorem fl_X6_38 : FL RX6 38 1 3 (.int) true false := ⟨"AlmsHouse$Change", _, rfl, by decide, rfl, by decide +kernel, Or.inl ⟨rfl, lw_g_in (i := 620) (by decide +kernel) (by decide +kernel)⟩, Or.inl rfl⟩
theorem fl_X0_24 : FL RX0 24 1 4 (.int) true false := ⟨"AlmsHouse$Change", _, rfl, by decide, rfl, by decide +kernel, Or.inl ⟨rfl, lw_g_in (i := 621) (by decide +kernel) (by decide +kernel)⟩, Or.inl rfl⟩
theorem fl_X6_67 : FL RX6 67 1 4 (.int) true false := ⟨"AlmsHouse$Change", _, rfl, by decide, rfl, by decide +kernel, Or.inl ⟨rfl, lw_g_in (i := 622) (by decide +kernel) (by decide +kernel)⟩, Or.inl rfl⟩
theorem fl_X0_27 : FL RX0 27 1 5 (.array (.int)) true false := ⟨"AlmsHouse$Change", _, rfl, by decide, rfl, by decide +kernel, Or.inl ⟨rfl, lw_g_in (i := 623) (by decide +kernel) (by decide +kernel)⟩, Or.inl rfl⟩
theorem fl_X3_26 : FL RX3 26 4 0 (.int) true false := ⟨"AlmsHouse$Person", _, rfl, by decide, rfl, by decide +kernel, Or.inl ⟨rfl, lw_g_in (i := 757) (by decide +kernel) (by decide +kernel)⟩, Or.inl rfl⟩
theorem fl_X3_29 : FL RX3 29 4 1 (.int) true false := ⟨"AlmsHouse$Person", _, rfl, by decide, rfl, by decide +kernel, Or.inl ⟨rfl, lw_g_in (i := 758) (by decide +kernel) (by decide +kernel)⟩, Or.inl rfl⟩
theorem fl_X3_32 : FL RX3 32 4 2 (.boolean) true false := ⟨"AlmsHouse$Person", _, rfl, by decide, rfl, by decide +kernel, Or.inl ⟨rfl, lw_g_in (i := 759) (by decide +kernel) (by decide +kernel)⟩, Or.inl rfl⟩
theorem fl_X3_36 : FL RX3 36 4 3 (.int) true false := ⟨"AlmsHouse$Person", _, rfl, by decide, rfl, by decide +kernel, Or.inl ⟨rfl, lw_g_in (i := 760) (by decide +kernel) (by decide +kernel)⟩, Or.inl rfl⟩
theorem fl_X6_49 : FL RX6 49 4 3 (.int) true false := ⟨"AlmsHouse$Person", _, rfl, by decide, rfl, by decide +kernel, Or.inl ⟨rfl, lw_g_in (i := 761) (by decide +kernel) (by decide +kernel)⟩, Or.inl rfl⟩
theorem fl_X3_9 : FL RX3 9 4 4 (.array (.int)) true false := ⟨"AlmsHouse$Person", _, rfl, by decide, rfl, by decide +kernel, Or.inl ⟨rfl, lw_g_in (i := 762) (by decide +kernel) (by decide +kernel)⟩, Or.inl rfl⟩
theorem fl_X3_15 : FL RX3 15 4 5 (.array (.int)) true false := ⟨"AlmsHouse$Person", _, rfl, by decide, rfl, by decide +kernel, Or.inl ⟨rfl, lw_g_in (i := 763) (by decide +kernel) (by decide +kernel)⟩, Or.inl rfl⟩
theorem fl_X3_39 : FL RX3 39 4 6 (.int) false false := ⟨"AlmsHouse$Person", _, rfl, by decide, rfl, by decide +kernel, Or.inl ⟨rfl, lw_g_in (i := 764) (by decide +kernel) (by decide +kernel)⟩, Or.inl rfl⟩
theorem fl_X11_154 : FL RX11 154 4 6 (.int) false false := ⟨"AlmsHouse$Person", _, rfl, by decide, rfl, by decide +kernel, Or.inl ⟨rfl, lw_g_in (i := 765) (by decide +kernel) (by decide +kernel)⟩, Or.inl rfl⟩
theorem fl_X3_19 : FL RX3 19 4 7 (.int) false false := ⟨"AlmsHouse$Person", _, rfl, by decide, rfl, by decide +kernel, Or.inl ⟨rfl, lw_g_in (i := 766) (by decide +kernel) (by decide +kernel)⟩, Or.inl rfl⟩
theorem fl_X6_54 : FL RX6 54 4 7 (.int) false false := ⟨"AlmsHouse$Person", _, rfl, by decide, rfl, by decide +kernel, Or.inl ⟨rfl, lw_g_in (i := 767) (by decide +kernel) (by decide +kernel)⟩, Or.inl rfl⟩
theorem fl_X11_160 : FL RX11 160 4 7 (.int) false false := ⟨"AlmsHouse$Person", _, rfl, by decide, rfl, by decide +kernel, Or.inl ⟨rfl, lw_g_in (i := 768) (by decide +kernel) (by decide +kernel)⟩, Or.inl rfl⟩
theorem fl_X3_23 : FL RX3 23 4 8 (.int) false false := ⟨"AlmsHouse$Person", _, rfl, by decide, rfl, by decide +kernel, Or.inl ⟨rfl, lw_g_in (i := 769) (by decide +kernel) (by decide +kernel)⟩, Or.inl rfl⟩
theorem fl_X11_164 : FL RX11 164 4 8 (.int) false false := ⟨"AlmsHouse$Person", _, rfl, by decide, rfl, by decide +kernel, Or.inl ⟨rfl, lw_g_in (i := 770) (by decide +kernel) (by decide +kernel)⟩, Or.inl rfl⟩
theorem fl_X11_247 : FL RX11 247 4 9 (.int) false false := ⟨"AlmsHouse$Person", _, rfl, by decide, rfl, by decide +kernel, Or.inl ⟨rfl, lw_g_in (i := 771) (by decide +kernel) (by decide +kernel)⟩, Or.inl rfl⟩
theorem fl_X11_250 : FL RX11 250 4 10 (.int) false false := ⟨"AlmsHouse$Person", _, rfl, by decide, rfl, by decide +kernel, Or.inl ⟨rfl, lw_g_in (i := 772) (by decide +kernel) (by decide +kernel)⟩, Or.inl rfl⟩
theorem fl_X5_15 : FL RX5 15 6 0 (.int) true false := ⟨"AlmsHouse$Room", _, rfl, by decide, rfl, by decide +kernel, Or.inl ⟨rfl, lw_g_in (i := 904) (by decide +kernel) (by decide +kernel)⟩, Or.inl rfl⟩
theorem fl_X11_214 : FL RX11 214 6 0 (.int) true false := ⟨"AlmsHouse$Room", _, rfl, by decide, rfl, by decide +kernel, Or.inl ⟨rfl, lw_g_in (i := 905) (by decide +kernel) (by decide +kernel)⟩, Or.inl rfl⟩
theorem fl_X11_207 : FL RX11 207 6 1 (.object "AlmsHouse$Stay") false false := ⟨"AlmsHouse$Room", _, rfl, by decide, rfl, by decide +kernel, Or.inl ⟨rfl, lw_g_in (i := 906) (by decide +kernel) (by decide +kernel)⟩, Or.inl rfl⟩
theorem fl_X5_9 : FL RX5 9 6 2 (.int) false false := ⟨"AlmsHouse$Room", _, rfl, by decide, rfl, by decide +kernel, Or.inl ⟨rfl, lw_g_in (i := 907) (by decide +kernel) (by decide +kernel)⟩, Or.inl rfl⟩
theorem fl_X11_222 : FL RX11 222 6 2 (.int) false false := ⟨"AlmsHouse$Room", _, rfl, by decide, rfl, by decide +kernel, Or.inl ⟨rfl, lw_g_in (i := 908) (by decide +kernel) (by decide +kernel)⟩, Or.inl rfl⟩
theorem fl_X7_16 : FL RX7 16 8 0 (.int) true false := ⟨"AlmsHouse$Stay", _, rfl, by decide, rfl, by decide +kernel, Or.inl ⟨rfl, lw_g_in (i := 947) (by decide +kernel) (by decide +kernel)⟩, Or.inl rfl⟩
theorem fl_X11_233 : FL RX11 233 8 0 (.int) true false := ⟨"AlmsHouse$Stay", _, rfl, by decide, rfl, by decide +kernel, Or.inl ⟨rfl, lw_g_in (i := 948) (by decide +kernel) (by decide +kernel)⟩, Or.inl rfl⟩
theorem fl_X7_19 : FL RX7 19 8 1 (.int) true false := ⟨"AlmsHouse$Stay", _, rfl, by decide, rfl, by decide +kernel, Or.inl ⟨rfl, lw_g_in (i := 949) (by decide +kernel) (by decide +kernel)⟩, Or.inl rfl⟩
theorem fl_X11_227 : FL RX11 227 8 1 (.int) true false := ⟨"AlmsHouse$Stay", _, rfl, by decide, rfl, by decide +kernel, Or.inl ⟨rfl, lw_g_in (i := 950) (by decide +kernel) (by decide +kernel)⟩, Or.inl rfl⟩
theorem fl_X7_22 : FL RX7 22 8 2 (.int) true false := ⟨"AlmsHouse$Stay", _, rfl, by decide, rfl, by decide +kernel, Or.inl ⟨rfl, lw_g_in (i := 951) (by decide +kernel) (by decide +kernel)⟩, Or.inl rfl⟩
theorem fl_X11_230 : FL RX11 230 8 2 (.int) true false := ⟨"AlmsHouse$Stay", _, rfl, by decide, rfl, by decide +kernel, Or.inl ⟨rfl, lw_g_in (i := 952) (by decide +kernel) (by decide +kernel)⟩, Or.inl rfl⟩
theorem fl_X7_10 : FL RX7 10 8 3 (.int) false false := ⟨"AlmsHouse$Stay", _, rfl, by decide, rfl, by decide +kernel, Or.inl ⟨rfl, lw_g_in (i := 953) (by decide +kernel) (by decide +kernel)⟩, Or.inl rfl⟩
theorem fl_X11_234 : FL RX11 234 8 3 (.int) false false := ⟨"AlmsHouse$Stay", _, rfl, by decide, rfl, by decide +kernel, Or.inl ⟨rfl, lw_g_in (i := 954) (by decide +kernel) (by decide +kernel)⟩, Or.inl rfl⟩
theorem fl_X2_7 : FL RX2 7 3 0 (.int) true false := ⟨"AlmsHouse$Land", _, rfl, by decide, rfl, by decide +kernel, Or.inl ⟨rfl, lw_g_in (i := 990) (by decide +kernel) (by decide +kernel)⟩, Or.inl rfl⟩
theorem fl_X11_292 : FL RX11 292 3 0 (.int) true false := ⟨"AlmsHouse$Land", _, rfl, by decide, rfl, by decide +kernel, Or.inl ⟨rfl, lw_g_in (i := 991) (by decide +kernel) (by decide +kernel)⟩, Or.inl rfl⟩
theorem fl_X2_13 : FL RX2 13 3 1 (.int) true false := ⟨"AlmsHouse$Land", _, rfl, by decide, rfl, by decide +kernel, Or.inl ⟨rfl, lw_g_in (i := 992) (by decide +kernel) (by decide +kernel)⟩, Or.inl rfl⟩
theorem fl_X2_16 : FL RX2 16 3 2 (.int) true false := ⟨"AlmsHouse$Land", _, rfl, by decide, rfl, by decide +kernel, Or.inl ⟨rfl, lw_g_in (i := 993) (by decide +kernel) (by decide +kernel)⟩, Or.inl rfl⟩
theorem fl_X14_289 : FL RX14 289 13 0 (.int) false true := ⟨"AlmsHouseModel$Scheme", _, rfl, by decide, rfl, by decide +kernel, Or.inr ⟨rfl, "AlmsHouseModel", lw_n_in (i := 1068) (by decide +kernel) (by decide +kernel)⟩, Or.inl rfl⟩
theorem fl_X14_292 : FL RX14 292 13 1 (.int) false true := ⟨"AlmsHouseModel$Scheme", _, rfl, by decide, rfl, by decide +kernel, Or.inr ⟨rfl, "AlmsHouseModel", lw_n_in (i := 1069) (by decide +kernel) (by decide +kernel)⟩, Or.inl rfl⟩
theorem fl_X14_208 : FL RX14 208 13 2 (.int) false true := ⟨"AlmsHouseModel$Scheme", _, rfl, by decide, rfl, by decide +kernel, Or.inr ⟨rfl, "AlmsHouseModel", lw_n_in (i := 1070) (by decide +kernel) (by decide +kernel)⟩, Or.inl rfl⟩
theorem fl_X12_42 : FL RX12 42 13 3 (.int) false false := ⟨"AlmsHouseModel$Scheme", _, rfl, by decide, rfl, by decide +kernel, Or.inl ⟨rfl, lw_g_in (i := 1071) (by decide +kernel) (by decide +kernel)⟩, Or.inl rfl⟩
theorem fl_X14_211 : FL RX14 211 13 3 (.int) false true := ⟨"AlmsHouseModel$Scheme", _, rfl, by decide, rfl, by decide +kernel, Or.inr ⟨rfl, "AlmsHouseModel", lw_n_in (i := 1072) (by decide +kernel) (by decide +kernel)⟩, Or.inl rfl⟩
theorem fl_X12_9 : FL RX12 9 13 4 (.array (.int)) true false := ⟨"AlmsHouseModel$Scheme", _, rfl, by decide, rfl, by decide +kernel, Or.inl ⟨rfl, lw_g_in (i := 1073) (by decide +kernel) (by decide +kernel)⟩, Or.inl rfl⟩
theorem fl_X14_223 : FL RX14 223 13 4 (.array (.int)) true true := ⟨"AlmsHouseModel$Scheme", _, rfl, by decide, rfl, by decide +kernel, Or.inr ⟨rfl, "AlmsHouseModel", lw_n_in (i := 1074) (by decide +kernel) (by decide +kernel)⟩, Or.inl rfl⟩
theorem fl_X12_15 : FL RX12 15 13 5 (.array (.int)) true false := ⟨"AlmsHouseModel$Scheme", _, rfl, by decide, rfl, by decide +kernel, Or.inl ⟨rfl, lw_g_in (i := 1075) (by decide +kernel) (by decide +kernel)⟩, Or.inl rfl⟩
theorem fl_X14_226 : FL RX14 226 13 5 (.array (.int)) true true := ⟨"AlmsHouseModel$Scheme", _, rfl, by decide, rfl, by decide +kernel, Or.inr ⟨rfl, "AlmsHouseModel", lw_n_in (i := 1076) (by decide +kernel) (by decide +kernel)⟩, Or.inl rfl⟩
theorem fl_X12_18 : FL RX12 18 13 6 (.array (.int)) true false := ⟨"AlmsHouseModel$Scheme", _, rfl, by decide, rfl, by decide +kernel, Or.inl ⟨rfl, lw_g_in (i := 1077) (by decide +kernel) (by decide +kernel)⟩, Or.inl rfl⟩
theorem fl_X14_235 : FL RX14 235 13 6 (.array (.int)) true true := ⟨"AlmsHouseModel$Scheme", _, rfl, by decide, rfl, by decide +kernel, Or.inr ⟨rfl, "AlmsHouseModel", lw_n_in (i := 1078) (by decide +kernel) (by decide +kernel)⟩, Or.inl rfl⟩
theorem fl_X12_21 : FL RX12 21 13 7 (.array (.int)) true false := ⟨"AlmsHouseModel$Scheme", _, rfl, by decide, rfl, by decide +kernel, Or.inl ⟨rfl, lw_g_in (i := 1079) (by decide +kernel) (by decide +kernel)⟩, Or.inl rfl⟩
theorem fl_X14_242 : FL RX14 242 13 7 (.array (.int)) true true := ⟨"AlmsHouseModel$Scheme", _, rfl, by decide, rfl, by decide +kernel, Or.inr ⟨rfl, "AlmsHouseModel", lw_n_in (i := 1080) (by decide +kernel) (by decide +kernel)⟩, Or.inl rfl⟩
theorem fl_X12_24 : FL RX12 24 13 8 (.array (.int)) true false := ⟨"AlmsHouseModel$Scheme", _, rfl, by decide, rfl, by decide +kernel, Or.inl ⟨rfl, lw_g_in (i := 1081) (by decide +kernel) (by decide +kernel)⟩, Or.inl rfl⟩
theorem fl_X14_228 : FL RX14 228 13 8 (.array (.int)) true true := ⟨"AlmsHouseModel$Scheme", _, rfl, by decide, rfl, by decide +kernel, Or.inr ⟨rfl, "AlmsHouseModel", lw_n_in (i := 1082) (by decide +kernel) (by decide +kernel)⟩, Or.inl rfl⟩
theorem fl_X12_27 : FL RX12 27 13 9 (.array (.int)) true false := ⟨"AlmsHouseModel$Scheme", _, rfl, by decide, rfl, by decide +kernel, Or.inl ⟨rfl, lw_g_in (i := 1083) (by decide +kernel) (by decide +kernel)⟩, Or.inl rfl⟩
theorem fl_X14_327 : FL RX14 327 13 9 (.array (.int)) true true := ⟨"AlmsHouseModel$Scheme", _, rfl, by decide, rfl, by decide +kernel, Or.inr ⟨rfl, "AlmsHouseModel", lw_n_in (i := 1084) (by decide +kernel) (by decide +kernel)⟩, Or.inl rfl⟩
theorem fl_X12_30 : FL RX12 30 13 10 (.array (.int)) true false := ⟨"AlmsHouseModel$Scheme", _, rfl, by decide, rfl, by decide +kernel, Or.inl ⟨rfl, lw_g_in (i := 1085) (by decide +kernel) (by decide +kernel)⟩, Or.inl rfl⟩
theorem fl_X14_330 : FL RX14 330 13 10 (.array (.int)) true true := ⟨"AlmsHouseModel$Scheme", _, rfl, by decide, rfl, by decide +kernel, Or.inr ⟨rfl, "AlmsHouseModel", lw_n_in (i := 1086) (by decide +kernel) (by decide +kernel)⟩, Or.inl rfl⟩
theorem fl_X12_33 : FL RX12 33 13 11 (.array (.int)) true false := ⟨"AlmsHouseModel$Scheme", _, rfl, by decide, rfl, by decide +kernel, Or.inl ⟨rfl, lw_g_in (i := 1087) (by decide +kernel) (by decide +kernel)⟩, Or.inl rfl⟩
theorem fl_X14_333 : FL RX14 333 13 11 (.array (.int)) true true := ⟨"AlmsHouseModel$Scheme", _, rfl, by decide, rfl, by decide +kernel, Or.inr ⟨rfl, "AlmsHouseModel", lw_n_in (i := 1088) (by decide +kernel) (by decide +kernel)⟩, Or.inl rfl⟩
theorem fl_X12_36 : FL RX12 36 13 12 (.array (.int)) true false := ⟨"AlmsHouseModel$Scheme", _, rfl, by decide, rfl, by decide +kernel, Or.inl ⟨rfl, lw_g_in (i := 1089) (by decide +kernel) (by decide +kernel)⟩, Or.inl rfl⟩
theorem fl_X14_267 : FL RX14 267 13 12 (.array (.int)) true true := ⟨"AlmsHouseModel$Scheme", _, rfl, by decide, rfl, by decide +kernel, Or.inr ⟨rfl, "AlmsHouseModel", lw_n_in (i := 1090) (by decide +kernel) (by decide +kernel)⟩, Or.inl rfl⟩
theorem fl_X12_39 : FL RX12 39 13 13 (.array (.int)) true false := ⟨"AlmsHouseModel$Scheme", _, rfl, by decide, rfl, by decide +kernel, Or.inl ⟨rfl, lw_g_in (i := 1091) (by decide +kernel) (by decide +kernel)⟩, Or.inl rfl⟩
theorem fl_X14_264 : FL RX14 264 13 13 (.array (.int)) true true := ⟨"AlmsHouseModel$Scheme", _, rfl, by decide, rfl, by decide +kernel, Or.inr ⟨rfl, "AlmsHouseModel", lw_n_in (i := 1092) (by decide +kernel) (by decide +kernel)⟩, Or.inl rfl⟩
theorem fl_Thr_198 : FL "java/lang/Throwable" 198 14 4 (.object "java/lang/Object") false false := ⟨"java/lang/Throwable", _, rfl, by decide, rfl, by decide +kernel, Or.inl ⟨rfl, lw_g_in (i := 1143) (by decide +kernel) (by decide +kernel)⟩, Or.inl rfl⟩
theorem fl_X14_128 : FL RX14 128 14 6 (.int) false true := ⟨"AlmsHouseModel$Stop", _, rfl, by decide, rfl, by decide +kernel, Or.inr ⟨rfl, "AlmsHouseModel", lw_n_in (i := 1173) (by decide +kernel) (by decide +kernel)⟩, Or.inl rfl⟩
theorem fl_X14_134 : FL RX14 134 14 7 (.int) false true := ⟨"AlmsHouseModel$Stop", _, rfl, by decide, rfl, by decide +kernel, Or.inr ⟨rfl, "AlmsHouseModel", lw_n_in (i := 1174) (by decide +kernel) (by decide +kernel)⟩, Or.inl rfl⟩
theorem fl_Thr_31 : FL "java/lang/Throwable" 31 14 3 (.object "java/lang/String") false false := ⟨"java/lang/Throwable", _, rfl, by decide, rfl, by decide +kernel, Or.inl ⟨rfl, lw_g_in (i := 1176) (by decide +kernel) (by decide +kernel)⟩, Or.inl rfl⟩
theorem fl_Thr_7 : FL "java/lang/Throwable" 7 14 0 (.object "java/lang/Throwable") false false := ⟨"java/lang/Throwable", _, rfl, by decide, rfl, by decide +kernel, Or.inl ⟨rfl, lw_g_in (i := 1177) (by decide +kernel) (by decide +kernel)⟩, Or.inl rfl⟩
theorem fl_Thr_17 : FL "java/lang/Throwable" 17 14 1 (.array (.object "java/lang/StackTraceElement")) false false := ⟨"java/lang/Throwable", _, rfl, by decide, rfl, by decide +kernel, Or.inl ⟨rfl, lw_g_in (i := 1178) (by decide +kernel) (by decide +kernel)⟩, Or.inl rfl⟩
theorem fl_Thr_24 : FL "java/lang/Throwable" 24 14 2 (.object "java/util/List") false false := ⟨"java/lang/Throwable", _, rfl, by decide, rfl, by decide +kernel, Or.inl ⟨rfl, lw_g_in (i := 1179) (by decide +kernel) (by decide +kernel)⟩, Or.inl rfl⟩
theorem fl_X14_112 : FL RX14 112 15 0 (.int) false false := ⟨"AlmsHouseModel", _, rfl, by decide, rfl, by decide +kernel, Or.inl ⟨rfl, lw_g_in (i := 1192) (by decide +kernel) (by decide +kernel)⟩, Or.inl rfl⟩
theorem fl_X14_115 : FL RX14 115 15 1 (.int) false false := ⟨"AlmsHouseModel", _, rfl, by decide, rfl, by decide +kernel, Or.inl ⟨rfl, lw_g_in (i := 1193) (by decide +kernel) (by decide +kernel)⟩, Or.inl rfl⟩
theorem fl_X14_9 : FL RX14 9 15 2 (.int) false false := ⟨"AlmsHouseModel", _, rfl, by decide, rfl, by decide +kernel, Or.inl ⟨rfl, lw_g_in (i := 1194) (by decide +kernel) (by decide +kernel)⟩, Or.inl rfl⟩
theorem fl_X14_280 : FL RX14 280 15 3 (.int) false false := ⟨"AlmsHouseModel", _, rfl, by decide, rfl, by decide +kernel, Or.inl ⟨rfl, lw_g_in (i := 1195) (by decide +kernel) (by decide +kernel)⟩, Or.inl rfl⟩
theorem fl_X14_118 : FL RX14 118 15 4 (.int) false false := ⟨"AlmsHouseModel", _, rfl, by decide, rfl, by decide +kernel, Or.inl ⟨rfl, lw_g_in (i := 1196) (by decide +kernel) (by decide +kernel)⟩, Or.inl rfl⟩
theorem fl_X14_283 : FL RX14 283 15 5 (.int) false false := ⟨"AlmsHouseModel", _, rfl, by decide, rfl, by decide +kernel, Or.inl ⟨rfl, lw_g_in (i := 1197) (by decide +kernel) (by decide +kernel)⟩, Or.inl rfl⟩
theorem fl_X14_15 : FL RX14 15 15 6 (.array (.object "AlmsHouseModel$Scheme")) true false := ⟨"AlmsHouseModel", _, rfl, by decide, rfl, by decide +kernel, Or.inl ⟨rfl, lw_g_in (i := 1198) (by decide +kernel) (by decide +kernel)⟩, Or.inl rfl⟩
theorem fl_X14_20 : FL RX14 20 15 7 (.object "AlmsHouseModel$Scheme") true false := ⟨"AlmsHouseModel", _, rfl, by decide, rfl, by decide +kernel, Or.inl ⟨rfl, lw_g_in (i := 1199) (by decide +kernel) (by decide +kernel)⟩, Or.inl rfl⟩
theorem fl_X14_27 : FL RX14 27 15 8 (.object "AlmsHouseModel$Stop") true false := ⟨"AlmsHouseModel", _, rfl, by decide, rfl, by decide +kernel, Or.inl ⟨rfl, lw_g_in (i := 1200) (by decide +kernel) (by decide +kernel)⟩, Or.inl rfl⟩
theorem fl_X14_31 : FL RX14 31 15 9 (.array (.byte)) true false := ⟨"AlmsHouseModel", _, rfl, by decide, rfl, by decide +kernel, Or.inl ⟨rfl, lw_g_in (i := 1201) (by decide +kernel) (by decide +kernel)⟩, Or.inl rfl⟩
theorem fl_X14_270 : FL RX14 270 15 10 (.int) false false := ⟨"AlmsHouseModel", _, rfl, by decide, rfl, by decide +kernel, Or.inl ⟨rfl, lw_g_in (i := 1202) (by decide +kernel) (by decide +kernel)⟩, Or.inl rfl⟩
theorem fl_X14_135 : FL RX14 135 15 11 (.int) false false := ⟨"AlmsHouseModel", _, rfl, by decide, rfl, by decide +kernel, Or.inl ⟨rfl, lw_g_in (i := 1203) (by decide +kernel) (by decide +kernel)⟩, Or.inl rfl⟩
theorem fl_X14_150 : FL RX14 150 15 12 (.int) false false := ⟨"AlmsHouseModel", _, rfl, by decide, rfl, by decide +kernel, Or.inl ⟨rfl, lw_g_in (i := 1204) (by decide +kernel) (by decide +kernel)⟩, Or.inl rfl⟩
theorem fl_X14_156 : FL RX14 156 15 13 (.int) false false := ⟨"AlmsHouseModel", _, rfl, by decide, rfl, by decide +kernel, Or.inl ⟨rfl, lw_g_in (i := 1205) (by decide +kernel) (by decide +kernel)⟩, Or.inl rfl⟩
theorem fl_X14_131 : FL RX14 131 15 14 (.int) false false := ⟨"AlmsHouseModel", _, rfl, by decide, rfl, by decide +kernel, Or.inl ⟨rfl, lw_g_in (i := 1206) (by decide +kernel) (by decide +kernel)⟩, Or.inl rfl⟩
theorem fl_X14_159 : FL RX14 159 15 15 (.int) false false := ⟨"AlmsHouseModel", _, rfl, by decide, rfl, by decide +kernel, Or.inl ⟨rfl, lw_g_in (i := 1207) (by decide +kernel) (by decide +kernel)⟩, Or.inl rfl⟩
theorem fl_X14_173 : FL RX14 173 15 16 (.int) false false := ⟨"AlmsHouseModel", _, rfl, by decide, rfl, by decide +kernel, Or.inl ⟨rfl, lw_g_in (i := 1208) (by decide +kernel) (by decide +kernel)⟩, Or.inl rfl⟩
theorem fl_X14_214 : FL RX14 214 15 17 (.int) false false := ⟨"AlmsHouseModel", _, rfl, by decide, rfl, by decide +kernel, Or.inl ⟨rfl, lw_g_in (i := 1209) (by decide +kernel) (by decide +kernel)⟩, Or.inl rfl⟩
theorem fl_X14_217 : FL RX14 217 15 18 (.int) false false := ⟨"AlmsHouseModel", _, rfl, by decide, rfl, by decide +kernel, Or.inl ⟨rfl, lw_g_in (i := 1210) (by decide +kernel) (by decide +kernel)⟩, Or.inl rfl⟩
theorem fl_X14_166 : FL RX14 166 15 19 (.long) false false := ⟨"AlmsHouseModel", _, rfl, by decide, rfl, by decide +kernel, Or.inl ⟨rfl, lw_g_in (i := 1211) (by decide +kernel) (by decide +kernel)⟩, Or.inl rfl⟩
theorem fl_X14_295 : FL RX14 295 15 20 (.int) false false := ⟨"AlmsHouseModel", _, rfl, by decide, rfl, by decide +kernel, Or.inl ⟨rfl, lw_g_in (i := 1212) (by decide +kernel) (by decide +kernel)⟩, Or.inl rfl⟩
theorem fl_X14_298 : FL RX14 298 15 21 (.int) false false := ⟨"AlmsHouseModel", _, rfl, by decide, rfl, by decide +kernel, Or.inl ⟨rfl, lw_g_in (i := 1213) (by decide +kernel) (by decide +kernel)⟩, Or.inl rfl⟩
theorem fl_X14_308 : FL RX14 308 15 22 (.int) false false := ⟨"AlmsHouseModel", _, rfl, by decide, rfl, by decide +kernel, Or.inl ⟨rfl, lw_g_in (i := 1214) (by decide +kernel) (by decide +kernel)⟩, Or.inl rfl⟩
theorem fl_X14_312 : FL RX14 312 15 23 (.int) false false := ⟨"AlmsHouseModel", _, rfl, by decide, rfl, by decide +kernel, Or.inl ⟨rfl, lw_g_in (i := 1215) (by decide +kernel) (by decide +kernel)⟩, Or.inl rfl⟩
theorem fl_X14_35 : FL RX14 35 15 24 (.array (.int)) true false := ⟨"AlmsHouseModel", _, rfl, by decide, rfl, by decide +kernel, Or.inl ⟨rfl, lw_g_in (i := 1216) (by decide +kernel) (by decide +kernel)⟩, Or.inl rfl⟩
theorem fl_X14_39 : FL RX14 39 15 25 (.array (.int)) true false := ⟨"AlmsHouseModel", _, rfl, by decide, rfl, by decide +kernel, Or.inl ⟨rfl, lw_g_in (i := 1217) (by decide +kernel) (by decide +kernel)⟩, Or.inl rfl⟩
theorem fl_X14_42 : FL RX14 42 15 26 (.array (.int)) true false := ⟨"AlmsHouseModel", _, rfl, by decide, rfl, by decide +kernel, Or.inl ⟨rfl, lw_g_in (i := 1218) (by decide +kernel) (by decide +kernel)⟩, Or.inl rfl⟩
theorem fl_X14_45 : FL RX14 45 15 27 (.array (.int)) true false := ⟨"AlmsHouseModel", _, rfl, by decide, rfl, by decide +kernel, Or.inl ⟨rfl, lw_g_in (i := 1219) (by decide +kernel) (by decide +kernel)⟩, Or.inl rfl⟩
theorem fl_X14_48 : FL RX14 48 15 28 (.array (.int)) true false := ⟨"AlmsHouseModel", _, rfl, by decide, rfl, by decide +kernel, Or.inl ⟨rfl, lw_g_in (i := 1220) (by decide +kernel) (by decide +kernel)⟩, Or.inl rfl⟩
theorem fl_X14_51 : FL RX14 51 15 29 (.array (.int)) true false := ⟨"AlmsHouseModel", _, rfl, by decide, rfl, by decide +kernel, Or.inl ⟨rfl, lw_g_in (i := 1221) (by decide +kernel) (by decide +kernel)⟩, Or.inl rfl⟩
theorem fl_X14_54 : FL RX14 54 15 30 (.array (.int)) true false := ⟨"AlmsHouseModel", _, rfl, by decide, rfl, by decide +kernel, Or.inl ⟨rfl, lw_g_in (i := 1222) (by decide +kernel) (by decide +kernel)⟩, Or.inl rfl⟩
theorem fl_X14_57 : FL RX14 57 15 31 (.array (.int)) true false := ⟨"AlmsHouseModel", _, rfl, by decide, rfl, by decide +kernel, Or.inl ⟨rfl, lw_g_in (i := 1223) (by decide +kernel) (by decide +kernel)⟩, Or.inl rfl⟩
theorem fl_X14_60 : FL RX14 60 15 32 (.array (.boolean)) true false := ⟨"AlmsHouseModel", _, rfl, by decide, rfl, by decide +kernel, Or.inl ⟨rfl, lw_g_in (i := 1224) (by decide +kernel) (by decide +kernel)⟩, Or.inl rfl⟩
theorem fl_X14_64 : FL RX14 64 15 33 (.array (.int)) true false := ⟨"AlmsHouseModel", _, rfl, by decide, rfl, by decide +kernel, Or.inl ⟨rfl, lw_g_in (i := 1225) (by decide +kernel) (by decide +kernel)⟩, Or.inl rfl⟩
theorem fl_X14_67 : FL RX14 67 15 34 (.array (.int)) true false := ⟨"AlmsHouseModel", _, rfl, by decide, rfl, by decide +kernel, Or.inl ⟨rfl, lw_g_in (i := 1226) (by decide +kernel) (by decide +kernel)⟩, Or.inl rfl⟩
theorem fl_X14_70 : FL RX14 70 15 35 (.array (.boolean)) true false := ⟨"AlmsHouseModel", _, rfl, by decide, rfl, by decide +kernel, Or.inl ⟨rfl, lw_g_in (i := 1227) (by decide +kernel) (by decide +kernel)⟩, Or.inl rfl⟩
theorem fl_X14_355 : FL RX14 355 15 36 (.int) false false := ⟨"AlmsHouseModel", _, rfl, by decide, rfl, by decide +kernel, Or.inl ⟨rfl, lw_g_in (i := 1228) (by decide +kernel) (by decide +kernel)⟩, Or.inl rfl⟩
theorem fl_X14_371 : FL RX14 371 15 37 (.int) false false := ⟨"AlmsHouseModel", _, rfl, by decide, rfl, by decide +kernel, Or.inl ⟨rfl, lw_g_in (i := 1229) (by decide +kernel) (by decide +kernel)⟩, Or.inl rfl⟩
theorem fl_X14_358 : FL RX14 358 15 38 (.int) false false := ⟨"AlmsHouseModel", _, rfl, by decide, rfl, by decide +kernel, Or.inl ⟨rfl, lw_g_in (i := 1230) (by decide +kernel) (by decide +kernel)⟩, Or.inl rfl⟩
theorem fl_X14_73 : FL RX14 73 15 39 (.int) false false := ⟨"AlmsHouseModel", _, rfl, by decide, rfl, by decide +kernel, Or.inl ⟨rfl, lw_g_in (i := 1231) (by decide +kernel) (by decide +kernel)⟩, Or.inl rfl⟩
theorem fl_X14_76 : FL RX14 76 15 40 (.array (.int)) true false := ⟨"AlmsHouseModel", _, rfl, by decide, rfl, by decide +kernel, Or.inl ⟨rfl, lw_g_in (i := 1232) (by decide +kernel) (by decide +kernel)⟩, Or.inl rfl⟩
theorem fl_X14_79 : FL RX14 79 15 41 (.array (.int)) true false := ⟨"AlmsHouseModel", _, rfl, by decide, rfl, by decide +kernel, Or.inl ⟨rfl, lw_g_in (i := 1233) (by decide +kernel) (by decide +kernel)⟩, Or.inl rfl⟩
theorem fl_X14_82 : FL RX14 82 15 42 (.array (.int)) true false := ⟨"AlmsHouseModel", _, rfl, by decide, rfl, by decide +kernel, Or.inl ⟨rfl, lw_g_in (i := 1234) (by decide +kernel) (by decide +kernel)⟩, Or.inl rfl⟩
theorem fl_X14_85 : FL RX14 85 15 43 (.array (.int)) true false := ⟨"AlmsHouseModel", _, rfl, by decide, rfl, by decide +kernel, Or.inl ⟨rfl, lw_g_in (i := 1235) (by decide +kernel) (by decide +kernel)⟩, Or.inl rfl⟩
theorem fl_X14_88 : FL RX14 88 15 44 (.array (.int)) true false := ⟨"AlmsHouseModel", _, rfl, by decide, rfl, by decide +kernel, Or.inl ⟨rfl, lw_g_in (i := 1236) (by decide +kernel) (by decide +kernel)⟩, Or.inl rfl⟩
theorem fl_X14_91 : FL RX14 91 15 45 (.array (.int)) true false := ⟨"AlmsHouseModel", _, rfl, by decide, rfl, by decide +kernel, Or.inl ⟨rfl, lw_g_in (i := 1237) (by decide +kernel) (by decide +kernel)⟩, Or.inl rfl⟩
theorem fl_X14_94 : FL RX14 94 15 46 (.array (.int)) true false := ⟨"AlmsHouseModel", _, rfl, by decide, rfl, by decide +kernel, Or.inl ⟨rfl, lw_g_in (i := 1238) (by decide +kernel) (by decide +kernel)⟩, Or.inl rfl⟩
theorem fl_X14_97 : FL RX14 97 15 47 (.array (.boolean)) true false := ⟨"AlmsHouseModel", _, rfl, by decide, rfl, by decide +kernel, Or.inl ⟨rfl, lw_g_in (i := 1239) (by decide +kernel) (by decide +kernel)⟩, Or.inl rfl⟩
theorem fl_X14_377 : FL RX14 377 15 48 (.int) false false := ⟨"AlmsHouseModel", _, rfl, by decide, rfl, by decide +kernel, Or.inl ⟨rfl, lw_g_in (i := 1240) (by decide +kernel) (by decide +kernel)⟩, Or.inl rfl⟩
theorem fl_X14_100 : FL RX14 100 15 49 (.int) false false := ⟨"AlmsHouseModel", _, rfl, by decide, rfl, by decide +kernel, Or.inl ⟨rfl, lw_g_in (i := 1241) (by decide +kernel) (by decide +kernel)⟩, Or.inl rfl⟩
theorem fl_X14_381 : FL RX14 381 15 50 (.int) false false := ⟨"AlmsHouseModel", _, rfl, by decide, rfl, by decide +kernel, Or.inl ⟨rfl, lw_g_in (i := 1242) (by decide +kernel) (by decide +kernel)⟩, Or.inl rfl⟩
theorem fl_X14_389 : FL RX14 389 15 51 (.int) false false := ⟨"AlmsHouseModel", _, rfl, by decide, rfl, by decide +kernel, Or.inl ⟨rfl, lw_g_in (i := 1243) (by decide +kernel) (by decide +kernel)⟩, Or.inl rfl⟩
theorem fl_X14_103 : FL RX14 103 15 52 (.array (.int)) true false := ⟨"AlmsHouseModel", _, rfl, by decide, rfl, by decide +kernel, Or.inl ⟨rfl, lw_g_in (i := 1244) (by decide +kernel) (by decide +kernel)⟩, Or.inl rfl⟩
theorem fl_X14_106 : FL RX14 106 15 53 (.array (.int)) true false := ⟨"AlmsHouseModel", _, rfl, by decide, rfl, by decide +kernel, Or.inl ⟨rfl, lw_g_in (i := 1245) (by decide +kernel) (by decide +kernel)⟩, Or.inl rfl⟩
theorem fl_X14_109 : FL RX14 109 15 54 (.array (.int)) true false := ⟨"AlmsHouseModel", _, rfl, by decide, rfl, by decide +kernel, Or.inl ⟨rfl, lw_g_in (i := 1246) (by decide +kernel) (by decide +kernel)⟩, Or.inl rfl⟩
