set_option maxRecDepth 20000 in
theorem sch_111N (g : G0) {b : Nat → Int32} {e : Nat} {Z : Hp} {n : Nat} {h c : Hp} {te : Nat} {nm sg nu : Int32} {W M N : Nat → Int32} {w d : Int32} (he : e ≤ 300) (hM : SM h) (r4 : ∀ i, i < e → mb h i = b i) (cs : CS c b 0 0 0 te 0 0 nm sg nu W M N [] []) (hZ : Z = rLp e 301 0 c) (e5 : vi h (32, 0) 5 = nI n) (hn : n < 40) (c33 : cn h 33 = n) (c40 : ∀ i, 40 ≤ i → i < 50 → cn h i = n) : V g kfX14_scheme 54 0 0 111 [(0, pR (32, 0)), (1, pI w), (2, pI d), (3, pI (nI e))] [pR (33, n)] (scI h e n) (QS b e Z n (scN h e n) w d n) (ES g (QS b e Z n (scN h e n) w d n)) := by
  have ncc : (nI n).toNatClampNeg = n := nI_clamp (by omega)
  have e5A : vi (scA h e) (32, 0) 5 = nI n := (scA_5 h e).trans e5
  have n40 : ¬ nI n = 40 := fun z => absurd ((nI_eq (b := 40) (by omega) (by decide)).mp z) (by omega)
  have hMI := scI_SM hM e n
  have e5I : vi (scI h e n) (32, 0) 5 = nI n := (scI_v h e n (by decide) 0 5).trans e5A
  have r3 : vi (scN h e n) (32, 0) 11 = nI e := (scN_v h e n (by decide) 0 11).trans (scA_11 h e)
  have r12 : vi (scN h e n) (32, 0) 12 = nI 0 := (scN_v h e n (by decide) 0 12).trans (scA_12 h e)
  have r5 : vi (scN h e n) (32, 0) 5 = nI n := (scN_v h e n (by decide) 0 5).trans e5A
  have rb : ∀ i, i < e → mb (scN h e n) i = b i := fun i hi => by rw [← r4 i hi, ← scA_mb h e i]; unfold mb; rw [scN_v h e n (by decide)]
  refine v_astore dX14_scheme_111 (by decide) ?_
  refine v_aload_n dX14_scheme_113 rfl ?_
  refine v_getI fl_X14_283 dX14_scheme_114 rfl rfl (Nat.le_of_ble_eq_true rfl) (mh_32_0 hMI) ?_
  rw [e5I]
  refine v_bipush (40) dX14_scheme_117 (by decide) ?_
  refine v_icmp_ge 133 dX14_scheme_119 (by decide) (fun z => absurd z (fun z => absurd (nI_lt (b := 40) hn (by decide)) (Int32.not_lt.mpr z))) (fun _ => ?_)
  refine v_aload_n dX14_scheme_122 rfl ?_
  refine v_getR (some (36, 0)) fl_X14_15 dX14_scheme_123 rfl rfl (Nat.le_of_ble_eq_true rfl) (mh_32_0 hMI) (mr_32_0_6 hMI) ?_
  refine v_aload_n dX14_scheme_126 rfl ?_
  refine v_getI fl_X14_283 dX14_scheme_127 rfl rfl (Nat.le_of_ble_eq_true rfl) (mh_32_0 hMI) ?_
  rw [e5I]
  refine v_aload dX14_scheme_130 rfl ?_
  refine v_aast dX14_scheme_132 rfl (by decide) (by decide) rfl (Nat.le_of_ble_eq_true rfl) (fun b z => by cases z; exact ⟨(show (33 : Nat) < 64 by decide), _, _, rfl, rfl, Or.inr rfl⟩) (mh_36_0 hMI) (by rw [ml_36_0 hMI]; exact vp_in_nI hn (by decide)) ?_
  rw [ncc]
  change V g _ _ _ _ _ _ _ (scN h e n) _ _
  exact sch_133 g he (scN_SM hM e n) (scN_SK c33 c40) r3 r12 rb cs hZ r5 hn
theorem sch_111M (g : G0) {b : Nat → Int32} {e : Nat} {Z : Hp} {n : Nat} {h c : Hp} {te : Nat} {nm sg nu : Int32} {W M N : Nat → Int32} {w d : Int32} {m : Nat} (hm : m = n) (he : e ≤ 300) (hM : SM h) (r4 : ∀ i, i < e → mb h i = b i) (cs : CS c b 0 0 0 te 0 0 nm sg nu W M N [] []) (hZ : Z = rLp e 301 0 c) (e5 : vi h (32, 0) 5 = nI n) (hn : n < 40) (c33 : cn h 33 = n) (c40 : ∀ i, 40 ≤ i → i < 50 → cn h i = n) : V g kfX14_scheme 54 0 0 111 [(0, pR (32, 0)), (1, pI w), (2, pI d), (3, pI (nI e))] [pR (33, m)] (iSch40_9 (nw (scA h e) 33 0) m) (QS b e Z n (scN h e n) w d n) (ES g (QS b e Z n (scN h e n) w d n)) := by
  subst hm
  exact sch_111N g he hM r4 cs hZ e5 hn c33 c40
set_option maxRecDepth 20000 in
theorem sch_64N (g : G0) {b : Nat → Int32} {e : Nat} {Z : Hp} {n : Nat} {h c : Hp} {te : Nat} {nm sg nu : Int32} {W M N : Nat → Int32} {w d : Int32} (he : e ≤ 300) (hM : SM h) (r4 : ∀ i, i < e → mb h i = b i) (cs : CS c b 0 0 0 te 0 0 nm sg nu W M N [] []) (hZ : Z = rLp e 301 0 c) (e5 : vi h (32, 0) 5 = nI n) (hn : n < 40) (c33 : cn h 33 = n) (c40 : ∀ i, 40 ≤ i → i < 50 → cn h i = n) (hnone : vr h (36, 0) n = none) : V g kfX14_scheme 54 11 560 64 [(0, pR (32, 0)), (1, pI w), (2, pI d), (3, pI (nI e))] [] (scA h e) (QS b e Z n (scN h e n) w d n) (ES g (QS b e Z n (scN h e n) w d n)) := by
  have ncc : (nI n).toNatClampNeg = n := nI_clamp (by omega)
  have e5A : vi (scA h e) (32, 0) 5 = nI n := (scA_5 h e).trans e5
  have n40 : ¬ nI n = 40 := fun z => absurd ((nI_eq (b := 40) (by omega) (by decide)).mp z) (by omega)
  have cA : cn (scA h e) 33 = n := (scA_c h e 33).trans c33
  refine v_aload_n dX14_scheme_64 rfl ?_
  refine v_getI fl_X14_283 dX14_scheme_65 rfl rfl (Nat.le_of_ble_eq_true rfl) (mh_32_0 hM) ?_
  rw [e5A]
  refine v_bipush (40) dX14_scheme_68 (by decide) ?_
  refine v_icmp_ne 80 dX14_scheme_70 (by decide) (fun _ => ?_) (fun z => absurd z n40)
  refine v_aload_n dX14_scheme_80 rfl ?_
  refine v_getR (some (36, 0)) fl_X14_15 dX14_scheme_81 rfl rfl (Nat.le_of_ble_eq_true rfl) (mh_32_0 hM) (mr_32_0_6 hM) ?_
  refine v_aload_n dX14_scheme_84 rfl ?_
  refine v_getI fl_X14_283 dX14_scheme_85 rfl rfl (Nat.le_of_ble_eq_true rfl) (mh_32_0 hM) ?_
  rw [e5A]
  refine v_aald (none) dX14_scheme_88 rfl (by decide) (by decide) (Nat.le_of_ble_eq_true rfl) (mh_36_0 hM) (by show vp_in (nI n) (ln h (36, 0)); rw [ml_36_0 hM]; exact vp_in_nI hn (by decide)) (by rw [ncc]; exact hnone) ?_
  refine v_ifnonnull 102 dX14_scheme_89 (by decide) (fun _ => ?_) (fun _ z => by cases z)
  refine v_new 33 10 546 dX14_scheme_92 rfl clX14_13 rfl (by decide) (Nat.le_of_ble_eq_true rfl) (Nat.le_of_ble_eq_true rfl) ?_
  refine v_dup dX14_scheme_95 rfl ?_
  refine v_invIE 0 0 (m_Scheme_init40 g (nw (scA h e) 33 0) (i := cn (scA h e) 33) lt_new) dX14_scheme_96 cwX12_init rfl mlX14_19 rfl rfl (by decide) (by decide) (Nat.le_of_ble_eq_true rfl) (Nat.le_of_ble_eq_true rfl) (Nat.le_of_ble_eq_true rfl) ?_
  refine v_goto 111 dX14_scheme_99 (by decide) ?_
  exact sch_111M g cA he hM r4 cs hZ e5 hn c33 c40
