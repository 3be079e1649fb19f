theorem nI_6 (a : Nat) : nI a + Int32.ofInt 6 = nI (a + 6) := by rw [show Int32.ofInt 6 = nI 6 by decide]; exact nI_add a 6
set_option maxRecDepth 20000 in
theorem law_1120 (g : G0) {t : Nat} {h : Hp} {rc rs : Nat} (K : V g kfL_law 60 rc rs 18 (LL (t + 1)) [] h QL noE) : V g kfL_law 60 rc rs 1120 (LL t) [] h QL noE := by
  refine v_iinc _ dL_law_1120 rfl rfl (by decide) ?_
  rw [nI_6, show 6 * t + 6 = 6 * (t + 1) by omega]
  refine v_goto 18 dL_law_1123 (by decide) ?_
  exact K
theorem law_gt {t L : Nat} (hL : L ≤ 3072) (ht : 6 * t ≤ L + 6) (c : ¬ nI L - 6 < nI (6 * t)) : 6 * t + 6 ≤ L := by
  rcases Nat.lt_or_ge L 6 with z | z
  · exfalso
    apply c
    have n0 : ¬ nI (6 * t) < 0 := nI_pos (by omega)
    have neg : nI L - 6 < 0 := by
      have : L = 0 ∨ L = 1 ∨ L = 2 ∨ L = 3 ∨ L = 4 ∨ L = 5 := by omega
      rcases this with rfl | rfl | rfl | rfl | rfl | rfl <;> decide
    rw [Int32.lt_iff_toInt_lt] at *
    omega
  · rw [show nI L - 6 = nI (L - 6) from nI_sub (a := L) (b := 6) z] at c
    rcases Nat.lt_or_ge (L - 6) (6 * t) with y | y
    · exact absurd (nI_lt y (by omega)) c
    · omega
set_option maxRecDepth 20000 in
theorem law_sw (g : G0) {t : Nat} {h : Hp} (r : RR h) (hin : 6 * t + 6 ≤ gL g) (hL : gL g ≤ 3072) (ih : ∀ h', RR h' → V g kfL_law 60 (potC h' + 47) (potS h' + 22232) 1120 (LL t) [] h' QL noE) {x : Int32} {k : Nat} (hk : k < 32) (hx : x = nI k) : V g kfL_law 60 (potC h + 47) (potS h + 22232) 33 (LL t) [pI x] h QL noE := by
  subst hx
  match k, hk with
  | 0, _ => exact v_tableIn 168 dL_law_33 (by decide) (by decide) (by rfl) (by decide) (law_0 g r hin hL ih)
  | 1, _ => exact v_tableIn 181 dL_law_33 (by decide) (by decide) (by rfl) (by decide) (law_1 g r hin hL ih)
  | 2, _ => exact v_tableIn 244 dL_law_33 (by decide) (by decide) (by rfl) (by decide) (law_2 g r hin hL ih)
  | 3, _ => exact v_tableIn 287 dL_law_33 (by decide) (by decide) (by rfl) (by decide) (law_3 g r hin hL ih)
  | 4, _ => exact v_tableIn 300 dL_law_33 (by decide) (by decide) (by rfl) (by decide) (law_4 g r hin hL ih)
  | 5, _ => exact v_tableIn 313 dL_law_33 (by decide) (by decide) (by rfl) (by decide) (law_5 g r hin hL ih)
  | 6, _ => exact v_tableIn 356 dL_law_33 (by decide) (by decide) (by rfl) (by decide) (law_6 g r hin hL ih)
  | 7, _ => exact v_tableIn 389 dL_law_33 (by decide) (by decide) (by rfl) (by decide) (law_7 g r hin hL ih)
  | 8, _ => exact v_tableIn 448 dL_law_33 (by decide) (by decide) (by rfl) (by decide) (law_8 g r hin hL ih)
  | 9, _ => exact v_tableIn 491 dL_law_33 (by decide) (by decide) (by rfl) (by decide) (law_9 g r hin hL ih)
  | 10, _ => exact v_tableIn 514 dL_law_33 (by decide) (by decide) (by rfl) (by decide) (law_10 g r hin hL ih)
  | 11, _ => exact v_tableIn 557 dL_law_33 (by decide) (by decide) (by rfl) (by decide) (law_11 g r hin hL ih)
  | 12, _ => exact v_tableIn 600 dL_law_33 (by decide) (by decide) (by rfl) (by decide) (law_12 g r hin hL ih)
  | 13, _ => exact v_tableIn 643 dL_law_33 (by decide) (by decide) (by rfl) (by decide) (law_13 g r hin hL ih)
  | 14, _ => exact v_tableIn 686 dL_law_33 (by decide) (by decide) (by rfl) (by decide) (law_14 g r hin hL ih)
  | 15, _ => exact v_tableIn 719 dL_law_33 (by decide) (by decide) (by rfl) (by decide) (law_15 g r hin hL ih)
  | 16, _ => exact v_tableIn 752 dL_law_33 (by decide) (by decide) (by rfl) (by decide) (law_16 g r hin hL ih)
  | 17, _ => exact v_tableIn 775 dL_law_33 (by decide) (by decide) (by rfl) (by decide) (law_17 g r hin hL ih)
  | 18, _ => exact v_tableIn 788 dL_law_33 (by decide) (by decide) (by rfl) (by decide) (law_18 g r hin hL ih)
  | 19, _ => exact v_tableIn 837 dL_law_33 (by decide) (by decide) (by rfl) (by decide) (law_19 g r hin hL ih)
  | 20, _ => exact v_tableIn 860 dL_law_33 (by decide) (by decide) (by rfl) (by decide) (law_20 g r hin hL ih)
  | 21, _ => exact v_tableIn 883 dL_law_33 (by decide) (by decide) (by rfl) (by decide) (law_21 g r hin hL ih)
  | 22, _ => exact v_tableIn 916 dL_law_33 (by decide) (by decide) (by rfl) (by decide) (law_22 g r hin hL ih)
  | 23, _ => exact v_tableIn 949 dL_law_33 (by decide) (by decide) (by rfl) (by decide) (law_23 g r hin hL ih)
  | 24, _ => exact v_tableIn 992 dL_law_33 (by decide) (by decide) (by rfl) (by decide) (law_24 g r hin hL ih)
  | 25, _ => exact v_tableIn 1015 dL_law_33 (by decide) (by decide) (by rfl) (by decide) (law_25 g r hin hL ih)
  | 26, _ => exact v_tableIn 1038 dL_law_33 (by decide) (by decide) (by rfl) (by decide) (law_26 g r hin hL ih)
  | 27, _ => exact v_tableIn 1061 dL_law_33 (by decide) (by decide) (by rfl) (by decide) (law_27 g r hin hL ih)
  | 28, _ => exact v_tableIn 1084 dL_law_33 (by decide) (by decide) (by rfl) (by decide) (law_28 g r hin hL ih)
  | 29, _ => exact v_tableIn 1107 dL_law_33 (by decide) (by decide) (by rfl) (by decide) (law_29 g r hin hL ih)
  | 30, _ => exact v_tableOut 1120 dL_law_33 (by decide) (by decide) (ih h r)
  | 31, _ => exact v_tableOut 1120 dL_law_33 (by decide) (by decide) (ih h r)
  | n + 32, hk => exact absurd hk (by omega)
set_option maxRecDepth 20000 in
theorem law_head (g : G0) {t : Nat} {h : Hp} (r : RR h) (hL : gL g ≤ 3072) (ht : 6 * t ≤ gL g + 6) (ih : 6 * t + 6 ≤ gL g → ∀ h', RR h' → V g kfL_law 60 (potC h' + 47) (potS h' + 22232) 18 (LL (t + 1)) [] h' QL noE) : V g kfL_law 60 (potC h + 47) (potS h + 22232) 18 (LL t) [] h QL noE := by
  refine v_iload_n dL_law_18 rfl ?_
  refine v_aload_n dL_law_19 rfl ?_
  refine v_scrLen dL_law_20 ?_
  refine v_bipush (6) dL_law_21 (by decide) ?_
  refine v_isub dL_law_23 ?_
  refine v_icmp_gt 1126 dL_law_24 (by decide) (fun c24 => ?_) (fun c24 => ?_)
  · refine v_iconst (1) dL_law_1126 (by decide) ?_
    exact v_ireturn dL_law_1127 rfl rfl rfl
  · have hin := law_gt hL ht c24
    refine v_aload_n dL_law_27 rfl ?_
    refine v_iload_n dL_law_28 rfl ?_
    refine v_scrAt dL_law_29 (vp_in_nI (by omega) (by omega)) ?_
    refine v_bipush (31) dL_law_30 (by decide) ?_
    refine v_iand dL_law_32 ?_
    obtain ⟨k, hk, e⟩ := and31 (gX g (nI (6 * t)).toNatClampNeg)
    exact law_sw g r hin hL (fun h' r' => law_1120 g (ih hin h' r')) hk e
theorem law_loop (g : G0) (hL : gL g ≤ 3072) : ∀ (m t : Nat), gL g < 6 * t + 6 * m + 6 → 6 * t ≤ gL g + 6 → ∀ h, RR h → V g kfL_law 60 (potC h + 47) (potS h + 22232) 18 (LL t) [] h QL noE
  | 0, t, hm, ht, h, r => law_head g r hL ht (fun z => absurd z (by omega))
  | m + 1, t, hm, ht, h, r => law_head g r hL ht (fun z h' r' => law_loop g hL m (t + 1) (by omega) (by omega) h' r')
set_option maxRecDepth 20000 in
/-- the whole body -/
theorem law_all (g : G0) (hL : gL g ≤ 3072) : V g kfL_law 60 601024 7293034 0 [(0, pR (67, 0))] [] emp QL noE := by
  refine v_new 0 601023 7293017 dL_law_0 rfl clL_7 rfl (by decide) (Nat.le_of_ble_eq_true rfl) (Nat.le_of_ble_eq_true rfl) ?_
  refine v_dup dL_law_3 rfl ?_
  change V g _ _ _ _ _ _ _ x_0 _ _
  refine v_invIE 601004 7292014 (m_X_init g) dL_law_4 cwX11_init rfl mlL_9 rfl rfl (by decide) (by decide) (Nat.le_of_ble_eq_true rfl) (Nat.le_of_ble_eq_true rfl) (Nat.le_of_ble_eq_true rfl) ?_
  refine v_astore_n dL_law_7 (by decide) ?_
  refine v_new 32 601003 7291959 dL_law_8 rfl clL_10 rfl (by decide) (Nat.le_of_ble_eq_true rfl) (Nat.le_of_ble_eq_true rfl) ?_
  refine v_dup dL_law_11 rfl ?_
  change V g _ _ _ _ _ _ _ y_0 _ _
  refine v_invIE 600966 7289583 (m_M_init g) dL_law_12 cwX14_init rfl mlL_12 rfl rfl (by decide) (by decide) (Nat.le_of_ble_eq_true rfl) (Nat.le_of_ble_eq_true rfl) (Nat.le_of_ble_eq_true rfl) ?_
  refine v_astore_n dL_law_15 (by decide) ?_
  refine v_iconst (0) dL_law_16 (by decide) ?_
  refine v_istore_n dL_law_17 (by decide) ?_
  have pC : potC hI + 47 ≤ 600966 := by decide +kernel
  have pS : potS hI + 22232 ≤ 7289583 := by decide +kernel
  exact V.room pC pS (law_loop g hL 600 0 (by omega) (by omega) hI RR_I)
