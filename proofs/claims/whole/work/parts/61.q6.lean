/-! the reference: feed -/
theorem nI_div {a b : Nat} (ha : a < 2 ^ 31) (hb : b < 2 ^ 31) : nI a / nI b = nI (a / b) := by
  have h1 : a / b ≤ a := Nat.div_le_self _ _
  refine Int32.toInt_inj.mp ?_
  rw [Jvm.Kit.i32_div (by rw [nI_toInt ha]; omega), nI_toInt ha, nI_toInt hb, nI_toInt (by omega)]
  rw [← Int.ofNat_tdiv]
theorem nI_rem {a b : Nat} (ha : a < 2 ^ 31) (hb : b < 2 ^ 31) : nI a - nI a / nI b * nI b = nI (a % b) := by
  have h1 : a / b * b ≤ a := Nat.div_mul_le_self a b
  rw [nI_div ha hb, nI_mul, nI_sub h1]
  congr 1
  have := Nat.div_add_mod a b
  rw [Nat.mul_comm] at this
  omega
def fvK (a b c d e x : Int32) : Int32 := if 4 ≤ x then (if 8 ≤ x then (if 12 ≤ x then (if 16 ≤ x then e else d) else c) else b) else a
def mF1 (h : Hp) (x v : Int32) : Hp := sI (sI h (37, 0) (vi h (32, 0) 10).toNatClampNeg (vp_nar .byte ((v >>> ((24 - 8 * (x - x / 4 * 4)) &&& 31)).toInt8.toInt32))) (32, 0) 10 (vi h (32, 0) 10 + 1)
def mFe (a b c d e : Int32) : Nat → Nat → Hp → Hp
  | 0, _, h => h
  | j + 1, k, h => mFe a b c d e j (k + 1) (mF1 h (nI k) (fvK a b c d e (nI k)))
theorem mF1_10 (h : Hp) (x v : Int32) {L : Nat} (e : vi h (32, 0) 10 = nI L) : vi (mF1 h x v) (32, 0) 10 = nI (L + 1) := by
  unfold mF1; rw [vi_sI_eq, e, nI_1]
set_option maxRecDepth 20000 in
theorem M_feed_loop (g : G0) {a b c d e : Int32} : ∀ (j k L : Nat) (x : Int32) (h : Hp), SM h → k + j = 20 → x = nI k → vi h (32, 0) 10 = nI L → L + j ≤ 300 → V g kfX14_feed 12 0 0 23 [(0, pR (32, 0)), (1, pI a), (2, pI b), (3, pI c), (4, pI d), (5, pI e), (6, pI x)] [] h (qE (some (pI (nI (L + j)))) (mFe a b c d e j k h)) (fun _ _ a h' => noX a h') := by
  intro j
  induction j with
  | zero =>
    intro k L x h hM hij hx eL hL
    subst hx
    refine v_iload dX14_feed_23 rfl ?_
    refine v_bipush (20) dX14_feed_25 (by decide) ?_
    refine v_icmp_ge 117 dX14_feed_27 (by decide) (fun _ => ?_) (fun z => absurd (show nI 20 ≤ nI k from nI_le (by omega) (by omega)) z)
    refine v_aload_n dX14_feed_117 rfl ?_
    refine v_getI fl_X14_270 dX14_feed_118 rfl rfl (Nat.le_of_ble_eq_true rfl) (mh_32_0 hM) ?_
    rw [eL]
    refine v_ireturn dX14_feed_121 rfl rfl ?_
    exact ⟨rfl, rfl⟩
  | succ j ih =>
    intro k L x h hM hij hx eL hL
    subst hx
    refine v_iload dX14_feed_23 rfl ?_
    refine v_bipush (20) dX14_feed_25 (by decide) ?_
    refine v_icmp_ge 117 dX14_feed_27 (by decide) (fun z => absurd z (show ¬ nI 20 ≤ nI k from nI_ge (by omega) (by omega))) (fun _ => ?_)
    refine v_iload dX14_feed_30 rfl ?_
    refine v_iconst (4) dX14_feed_32 (by decide) ?_
    refine v_icmp_ge 40 dX14_feed_33 (by decide) (fun c33 => ?_) (fun c33 => ?_)
    · refine v_iload dX14_feed_40 rfl ?_
      refine v_bipush (8) dX14_feed_42 (by decide) ?_
      refine v_icmp_ge 51 dX14_feed_44 (by decide) (fun c44 => ?_) (fun c44 => ?_)
      · refine v_iload dX14_feed_51 rfl ?_
        refine v_bipush (12) dX14_feed_53 (by decide) ?_
        refine v_icmp_ge 62 dX14_feed_55 (by decide) (fun c55 => ?_) (fun c55 => ?_)
        · refine v_iload dX14_feed_62 rfl ?_
          refine v_bipush (16) dX14_feed_64 (by decide) ?_
          refine v_icmp_ge 74 dX14_feed_66 (by decide) (fun c66 => ?_) (fun c66 => ?_)
          · refine v_iload dX14_feed_74 rfl ?_
            refine v_istore dX14_feed_76 (by decide) ?_
            refine v_aload_n dX14_feed_78 rfl ?_
            refine v_getR (some (37, 0)) fl_X14_31 dX14_feed_79 rfl rfl (Nat.le_of_ble_eq_true rfl) (mh_32_0 hM) (mr_32_0_9 hM) ?_
            refine v_aload_n dX14_feed_82 rfl ?_
            refine v_getI fl_X14_270 dX14_feed_83 rfl rfl (Nat.le_of_ble_eq_true rfl) (mh_32_0 hM) ?_
            refine v_iload dX14_feed_86 rfl ?_
            refine v_bipush (24) dX14_feed_88 (by decide) ?_
            refine v_bipush (8) dX14_feed_90 (by decide) ?_
            refine v_iload dX14_feed_92 rfl ?_
            refine v_iconst (4) dX14_feed_94 (by decide) ?_
            refine v_irem dX14_feed_95 (by decide) ?_
            refine v_imul dX14_feed_96 ?_
            refine v_isub dX14_feed_97 ?_
            refine v_ishr dX14_feed_98 ?_
            refine v_i2b dX14_feed_99 ?_
            refine v_bast dX14_feed_100 rfl (Nat.le_of_ble_eq_true rfl) (mh_37_0 hM) (by rw [eL, ml_37_0 hM]; exact vp_in_nI (by omega) (by decide)) ?_
            refine v_aload_n dX14_feed_101 rfl ?_
            refine v_dup dX14_feed_102 rfl ?_
            refine v_getI fl_X14_270 dX14_feed_103 rfl rfl (Nat.le_of_ble_eq_true rfl) (mh_32_0 hM) ?_
            rw [show vi (sI h (37, 0) _ _) (32, 0) 10 = vi h (32, 0) 10 from vi_sI_ne _ _ _ _ (by decide)]
            refine v_iconst (1) dX14_feed_106 (by decide) ?_
            refine v_iadd dX14_feed_107 ?_
            refine v_putI fl_X14_270 (fun z => by cases z) dX14_feed_108 rfl rfl (Nat.le_of_ble_eq_true rfl) rfl rfl (mh_32_0 hM) ?_
            refine v_iinc _ dX14_feed_111 rfl rfl (by decide) ?_
            refine v_goto 23 dX14_feed_114 (by decide) ?_
            rw [show L + (j + 1) = L + 1 + j by omega, mFe, fvK, if_pos c33, if_pos c44, if_pos c55, if_pos c66]
            refine v_loc [(0, pR (32, 0)), (1, pI a), (2, pI b), (3, pI c), (4, pI d), (5, pI e), (6, pI (nI k + 1))] rfl ?_
            exact ih (k + 1) (L + 1) _ (mF1 h (nI k) _) hM (by omega) (nI_1 k) (mF1_10 _ _ _ eL) (by omega)
          · refine v_iload dX14_feed_69 rfl ?_
            refine v_goto 76 dX14_feed_71 (by decide) ?_
            refine v_istore dX14_feed_76 (by decide) ?_
            refine v_aload_n dX14_feed_78 rfl ?_
            refine v_getR (some (37, 0)) fl_X14_31 dX14_feed_79 rfl rfl (Nat.le_of_ble_eq_true rfl) (mh_32_0 hM) (mr_32_0_9 hM) ?_
            refine v_aload_n dX14_feed_82 rfl ?_
            refine v_getI fl_X14_270 dX14_feed_83 rfl rfl (Nat.le_of_ble_eq_true rfl) (mh_32_0 hM) ?_
            refine v_iload dX14_feed_86 rfl ?_
            refine v_bipush (24) dX14_feed_88 (by decide) ?_
            refine v_bipush (8) dX14_feed_90 (by decide) ?_
            refine v_iload dX14_feed_92 rfl ?_
            refine v_iconst (4) dX14_feed_94 (by decide) ?_
            refine v_irem dX14_feed_95 (by decide) ?_
            refine v_imul dX14_feed_96 ?_
            refine v_isub dX14_feed_97 ?_
            refine v_ishr dX14_feed_98 ?_
            refine v_i2b dX14_feed_99 ?_
            refine v_bast dX14_feed_100 rfl (Nat.le_of_ble_eq_true rfl) (mh_37_0 hM) (by rw [eL, ml_37_0 hM]; exact vp_in_nI (by omega) (by decide)) ?_
            refine v_aload_n dX14_feed_101 rfl ?_
            refine v_dup dX14_feed_102 rfl ?_
            refine v_getI fl_X14_270 dX14_feed_103 rfl rfl (Nat.le_of_ble_eq_true rfl) (mh_32_0 hM) ?_
            rw [show vi (sI h (37, 0) _ _) (32, 0) 10 = vi h (32, 0) 10 from vi_sI_ne _ _ _ _ (by decide)]
            refine v_iconst (1) dX14_feed_106 (by decide) ?_
            refine v_iadd dX14_feed_107 ?_
            refine v_putI fl_X14_270 (fun z => by cases z) dX14_feed_108 rfl rfl (Nat.le_of_ble_eq_true rfl) rfl rfl (mh_32_0 hM) ?_
            refine v_iinc _ dX14_feed_111 rfl rfl (by decide) ?_
            refine v_goto 23 dX14_feed_114 (by decide) ?_
            rw [show L + (j + 1) = L + 1 + j by omega, mFe, fvK, if_pos c33, if_pos c44, if_pos c55, if_neg c66]
            refine v_loc [(0, pR (32, 0)), (1, pI a), (2, pI b), (3, pI c), (4, pI d), (5, pI e), (6, pI (nI k + 1))] rfl ?_
            exact ih (k + 1) (L + 1) _ (mF1 h (nI k) _) hM (by omega) (nI_1 k) (mF1_10 _ _ _ eL) (by omega)
        · refine v_iload_n dX14_feed_58 rfl ?_
          refine v_goto 76 dX14_feed_59 (by decide) ?_
          refine v_istore dX14_feed_76 (by decide) ?_
          refine v_aload_n dX14_feed_78 rfl ?_
          refine v_getR (some (37, 0)) fl_X14_31 dX14_feed_79 rfl rfl (Nat.le_of_ble_eq_true rfl) (mh_32_0 hM) (mr_32_0_9 hM) ?_
          refine v_aload_n dX14_feed_82 rfl ?_
          refine v_getI fl_X14_270 dX14_feed_83 rfl rfl (Nat.le_of_ble_eq_true rfl) (mh_32_0 hM) ?_
          refine v_iload dX14_feed_86 rfl ?_
          refine v_bipush (24) dX14_feed_88 (by decide) ?_
          refine v_bipush (8) dX14_feed_90 (by decide) ?_
          refine v_iload dX14_feed_92 rfl ?_
          refine v_iconst (4) dX14_feed_94 (by decide) ?_
          refine v_irem dX14_feed_95 (by decide) ?_
          refine v_imul dX14_feed_96 ?_
          refine v_isub dX14_feed_97 ?_
          refine v_ishr dX14_feed_98 ?_
          refine v_i2b dX14_feed_99 ?_
          refine v_bast dX14_feed_100 rfl (Nat.le_of_ble_eq_true rfl) (mh_37_0 hM) (by rw [eL, ml_37_0 hM]; exact vp_in_nI (by omega) (by decide)) ?_
          refine v_aload_n dX14_feed_101 rfl ?_
          refine v_dup dX14_feed_102 rfl ?_
          refine v_getI fl_X14_270 dX14_feed_103 rfl rfl (Nat.le_of_ble_eq_true rfl) (mh_32_0 hM) ?_
          rw [show vi (sI h (37, 0) _ _) (32, 0) 10 = vi h (32, 0) 10 from vi_sI_ne _ _ _ _ (by decide)]
          refine v_iconst (1) dX14_feed_106 (by decide) ?_
          refine v_iadd dX14_feed_107 ?_
          refine v_putI fl_X14_270 (fun z => by cases z) dX14_feed_108 rfl rfl (Nat.le_of_ble_eq_true rfl) rfl rfl (mh_32_0 hM) ?_
          refine v_iinc _ dX14_feed_111 rfl rfl (by decide) ?_
          refine v_goto 23 dX14_feed_114 (by decide) ?_
          rw [show L + (j + 1) = L + 1 + j by omega, mFe, fvK, if_pos c33, if_pos c44, if_neg c55]
          refine v_loc [(0, pR (32, 0)), (1, pI a), (2, pI b), (3, pI c), (4, pI d), (5, pI e), (6, pI (nI k + 1))] rfl ?_
          exact ih (k + 1) (L + 1) _ (mF1 h (nI k) _) hM (by omega) (nI_1 k) (mF1_10 _ _ _ eL) (by omega)
      · refine v_iload_n dX14_feed_47 rfl ?_
        refine v_goto 76 dX14_feed_48 (by decide) ?_
        refine v_istore dX14_feed_76 (by decide) ?_
        refine v_aload_n dX14_feed_78 rfl ?_
        refine v_getR (some (37, 0)) fl_X14_31 dX14_feed_79 rfl rfl (Nat.le_of_ble_eq_true rfl) (mh_32_0 hM) (mr_32_0_9 hM) ?_
        refine v_aload_n dX14_feed_82 rfl ?_
        refine v_getI fl_X14_270 dX14_feed_83 rfl rfl (Nat.le_of_ble_eq_true rfl) (mh_32_0 hM) ?_
        refine v_iload dX14_feed_86 rfl ?_
        refine v_bipush (24) dX14_feed_88 (by decide) ?_
        refine v_bipush (8) dX14_feed_90 (by decide) ?_
        refine v_iload dX14_feed_92 rfl ?_
        refine v_iconst (4) dX14_feed_94 (by decide) ?_
        refine v_irem dX14_feed_95 (by decide) ?_
        refine v_imul dX14_feed_96 ?_
        refine v_isub dX14_feed_97 ?_
        refine v_ishr dX14_feed_98 ?_
        refine v_i2b dX14_feed_99 ?_
        refine v_bast dX14_feed_100 rfl (Nat.le_of_ble_eq_true rfl) (mh_37_0 hM) (by rw [eL, ml_37_0 hM]; exact vp_in_nI (by omega) (by decide)) ?_
        refine v_aload_n dX14_feed_101 rfl ?_
        refine v_dup dX14_feed_102 rfl ?_
        refine v_getI fl_X14_270 dX14_feed_103 rfl rfl (Nat.le_of_ble_eq_true rfl) (mh_32_0 hM) ?_
        rw [show vi (sI h (37, 0) _ _) (32, 0) 10 = vi h (32, 0) 10 from vi_sI_ne _ _ _ _ (by decide)]
        refine v_iconst (1) dX14_feed_106 (by decide) ?_
        refine v_iadd dX14_feed_107 ?_
        refine v_putI fl_X14_270 (fun z => by cases z) dX14_feed_108 rfl rfl (Nat.le_of_ble_eq_true rfl) rfl rfl (mh_32_0 hM) ?_
        refine v_iinc _ dX14_feed_111 rfl rfl (by decide) ?_
        refine v_goto 23 dX14_feed_114 (by decide) ?_
        rw [show L + (j + 1) = L + 1 + j by omega, mFe, fvK, if_pos c33, if_neg c44]
        refine v_loc [(0, pR (32, 0)), (1, pI a), (2, pI b), (3, pI c), (4, pI d), (5, pI e), (6, pI (nI k + 1))] rfl ?_
        exact ih (k + 1) (L + 1) _ (mF1 h (nI k) _) hM (by omega) (nI_1 k) (mF1_10 _ _ _ eL) (by omega)
    · refine v_iload_n dX14_feed_36 rfl ?_
      refine v_goto 76 dX14_feed_37 (by decide) ?_
      refine v_istore dX14_feed_76 (by decide) ?_
      refine v_aload_n dX14_feed_78 rfl ?_
      refine v_getR (some (37, 0)) fl_X14_31 dX14_feed_79 rfl rfl (Nat.le_of_ble_eq_true rfl) (mh_32_0 hM) (mr_32_0_9 hM) ?_
      refine v_aload_n dX14_feed_82 rfl ?_
      refine v_getI fl_X14_270 dX14_feed_83 rfl rfl (Nat.le_of_ble_eq_true rfl) (mh_32_0 hM) ?_
      refine v_iload dX14_feed_86 rfl ?_
      refine v_bipush (24) dX14_feed_88 (by decide) ?_
      refine v_bipush (8) dX14_feed_90 (by decide) ?_
      refine v_iload dX14_feed_92 rfl ?_
      refine v_iconst (4) dX14_feed_94 (by decide) ?_
      refine v_irem dX14_feed_95 (by decide) ?_
      refine v_imul dX14_feed_96 ?_
      refine v_isub dX14_feed_97 ?_
      refine v_ishr dX14_feed_98 ?_
      refine v_i2b dX14_feed_99 ?_
      refine v_bast dX14_feed_100 rfl (Nat.le_of_ble_eq_true rfl) (mh_37_0 hM) (by rw [eL, ml_37_0 hM]; exact vp_in_nI (by omega) (by decide)) ?_
      refine v_aload_n dX14_feed_101 rfl ?_
      refine v_dup dX14_feed_102 rfl ?_
      refine v_getI fl_X14_270 dX14_feed_103 rfl rfl (Nat.le_of_ble_eq_true rfl) (mh_32_0 hM) ?_
      rw [show vi (sI h (37, 0) _ _) (32, 0) 10 = vi h (32, 0) 10 from vi_sI_ne _ _ _ _ (by decide)]
      refine v_iconst (1) dX14_feed_106 (by decide) ?_
      refine v_iadd dX14_feed_107 ?_
      refine v_putI fl_X14_270 (fun z => by cases z) dX14_feed_108 rfl rfl (Nat.le_of_ble_eq_true rfl) rfl rfl (mh_32_0 hM) ?_
      refine v_iinc _ dX14_feed_111 rfl rfl (by decide) ?_
      refine v_goto 23 dX14_feed_114 (by decide) ?_
      rw [show L + (j + 1) = L + 1 + j by omega, mFe, fvK, if_neg c33]
      refine v_loc [(0, pR (32, 0)), (1, pI a), (2, pI b), (3, pI c), (4, pI d), (5, pI e), (6, pI (nI k + 1))] rfl ?_
      exact ih (k + 1) (L + 1) _ (mF1 h (nI k) _) hM (by omega) (nI_1 k) (mF1_10 _ _ _ eL) (by omega)
def mFeed (h : Hp) (a b c d e : Int32) : Int32 × Hp := if vi h (32, 0) 10 + 20 ≤ 300 then (nI ((vi h (32, 0) 10).toNatClampNeg + 20), mFe a b c d e 20 0 (mZ h)) else (-1, mZ h)
set_option maxRecDepth 20000 in
theorem M_feed (g : G0) (h : Hp) (hM : SM h) {L : Nat} (eL : vi h (32, 0) 10 = nI L) (hL : L ≤ 300) {a b c d e : Int32} : Mx g yX14_feed wX14_feed 12 [pR (32, 0), pI a, pI b, pI c, pI d, pI e] h 0 0 (qE (some (pI (mFeed h a b c d e).1)) (mFeed h a b c d e).2) noX := by
  have hMz : SM (mZ h) := hM
  refine Mx.by kfX14_feed rfl (by decide) (Nat.le_of_ble_eq_true rfl) ?_
  refine v_aload_n dX14_feed_0 rfl ?_
  refine v_iconst (0) dX14_feed_1 (by decide) ?_
  refine v_putI fl_X14_112 (fun z => by cases z) dX14_feed_2 rfl rfl (Nat.le_of_ble_eq_true rfl) rfl rfl (mh_32_0 hM) ?_
  change V g _ _ _ _ _ _ _ (mZ h) _ _
  refine v_aload_n dX14_feed_5 rfl ?_
  refine v_getI fl_X14_270 dX14_feed_6 rfl rfl (Nat.le_of_ble_eq_true rfl) (mh_32_0 hM) ?_
  rw [mZ_v _ _ (by decide)]
  refine v_bipush (20) dX14_feed_9 (by decide) ?_
  refine v_iadd dX14_feed_11 ?_
  refine v_sipush (300) dX14_feed_12 (by decide) ?_
  refine v_icmp_le 20 dX14_feed_15 (by decide) (fun c15 => ?_) (fun c15 => ?_)
  · refine v_iconst (0) dX14_feed_20 (by decide) ?_
    refine v_istore dX14_feed_21 (by decide) ?_
    have h20 : L + 20 ≤ 300 := by rw [eL, show nI L + 20 = nI (L + 20) from nI_add L 20] at c15; exact (nI_leI (by omega) (by decide)).mp c15
    rw [mFeed, if_pos c15, eL, nI_clamp (by omega)]
    refine v_loc [(0, pR (32, 0)), (1, pI a), (2, pI b), (3, pI c), (4, pI d), (5, pI e), (6, pI 0)] rfl ?_
    exact M_feed_loop g 20 0 L 0 (mZ h) hMz (by omega) rfl (by rw [mZ_v _ _ (by decide)]; exact eL) (by omega)
  · refine v_iconst (-1) dX14_feed_18 (by decide) ?_
    refine v_ireturn dX14_feed_19 rfl rfl ?_
    exact ⟨by simp only [mFeed, if_neg c15], by simp only [mFeed, if_neg c15]⟩
/-! the reference: a day -/
def okM (a : Ad) (k : Nat) : Prop := (a = (32, 0) → k ≠ 22 ∧ k ≠ 36 ∧ k ≠ 37 ∧ k ≠ 38 ∧ k ≠ 48) ∧ (a.1 = 38 → a.2 ≠ 7 ∧ a.2 ≠ 11 ∧ a.2 ≠ 14 ∧ a.2 ≠ 6)
theorem MJsI {h : Hp} (m : MJ h) {a : Ad} {k : Nat} {x : Int32} (ok : okM a k) : MJ (sI h a k x) := by
  obtain ⟨⟨m1, m2, m3, m4, m5, m6⟩, n1, n2, n3, n4⟩ := m
  have e : ∀ f, (f = 22 ∨ f = 36 ∨ f = 37 ∨ f = 38 ∨ f = 48) → vi (sI h a k x) (32, 0) f = vi h (32, 0) f := fun f hf => by
    rw [vi_sI, if_neg]; rintro ⟨z1, z2⟩; have := ok.1 z1.symm; omega
  have e2 : ∀ i f, (i = 7 ∨ i = 11 ∨ i = 14 ∨ i = 6) → vi (sI h a k x) (38, i) f = vi h (38, i) f := fun i f hi => by
    rw [vi_sI, if_neg]; rintro ⟨z1, z2⟩; have := ok.2 (by rw [← z1]); rw [← z1] at this; omega
  exact ⟨⟨m1, by rw [e 22 (by omega)]; exact m2, by rw [e 36 (by omega)]; exact m3, by rw [e 37 (by omega)]; exact m4, by rw [e 38 (by omega)]; exact m5, by rw [e 48 (by omega)]; exact m6⟩, fun p hp => by rw [e2 7 _ (by omega)]; exact n1 p hp, fun p hp => by rw [e2 11 _ (by omega)]; exact n2 p hp, fun p hp => by rw [e2 14 _ (by omega)]; exact n3 p hp, fun p hp => by rw [e2 6 _ (by omega)]; exact n4 p hp⟩
def mCh (h : Hp) (k : Nat) : Hp := sI h (32, 0) 50 (if vi h (32, 0) 50 + vi h (38, 17) k < 1000000 then vi h (32, 0) 50 + vi h (38, 17) k else 1000000)
def mRe (h : Hp) (k : Nat) : Hp := sI h (32, 0) 51 (if (vi h (32, 0) 51).toInt64 + (vi h (38, 17) k).toInt64 < 2000000000 then (vi h (32, 0) 51).toInt64 + (vi h (38, 17) k).toInt64 else 2000000000).toInt32
def mB1 (h : Hp) (k : Nat) : Hp := if vi h (32, 0) 23 < vi h (38, 19) k then h else if vi h (32, 0) 23 - vi h (38, 19) k - (vi h (32, 0) 23 - vi h (38, 19) k) / vi h (38, 18) k * vi h (38, 18) k = 0 then mRe (mCh h k) k else h
def mBr : Nat → Nat → Hp → Hp
  | 0, _, h => h
  | j + 1, k, h => mBr j (k + 1) (mB1 h k)
/-- each is not 0; lands n, rooms r -/
def DN (n r : Nat) (h : Hp) : Prop := MJ h ∧ n ≤ 10 ∧ r ≤ 20 ∧ vi h (32, 0) 48 = nI n ∧ vi h (32, 0) 36 = nI r ∧ ∀ l, l < n → ¬ vi h (38, 18) l = 0
def okD (a : Ad) (k : Nat) : Prop := okM a k ∧ (a.1 = 38 → a.2 ≠ 18)
theorem DNsI {n r : Nat} {h : Hp} (m : DN n r h) {a : Ad} {k : Nat} {x : Int32} (ok : okD a k) : DN n r (sI h a k x) := by
  obtain ⟨m1, m2, m3, m4, m5, m6⟩ := m
  refine ⟨MJsI m1 ok.1, m2, m3, ?_, ?_, fun l hl => ?_⟩
  · rw [vi_sI, if_neg]; exact m4; rintro ⟨z1, z2⟩; have := ok.1.1 z1.symm; omega
  · rw [vi_sI, if_neg]; exact m5; rintro ⟨z1, z2⟩; have := ok.1.1 z1.symm; omega
  · rw [vi_sI, if_neg]; exact m6 l hl; rintro ⟨z1, z2⟩; have := ok.2 (by rw [← z1]); rw [← z1] at this; exact this rfl
theorem okD50 : okD (32, 0) 50 := ⟨⟨by decide, by decide⟩, by decide⟩
theorem okD51 : okD (32, 0) 51 := ⟨⟨by decide, by decide⟩, by decide⟩
theorem okD23 : okD (32, 0) 23 := ⟨⟨by decide, by decide⟩, by decide⟩
theorem okDi {i k : Nat} (h1 : i ≠ 7 ∧ i ≠ 11 ∧ i ≠ 14 ∧ i ≠ 6) (h2 : i ≠ 18) : okD (38, i) k := ⟨⟨fun z => (by cases z), fun _ => h1⟩, fun _ => h2⟩
theorem DNch {n r : Nat} {h : Hp} (m : DN n r h) (k : Nat) : DN n r (mCh h k) := DNsI m okD50
theorem DNre {n r : Nat} {h : Hp} (m : DN n r h) (k : Nat) : DN n r (mRe h k) := DNsI m okD51
theorem DNb1 {n r : Nat} {h : Hp} (m : DN n r h) (k : Nat) : DN n r (mB1 h k) := by
  unfold mB1; split
  · exact m
  · split
    · exact DNre (DNch m k) k
    · exact m
theorem DNbr {n r : Nat} : ∀ (j k : Nat) {h : Hp}, DN n r h → DN n r (mBr j k h)
  | 0, _, _, m => m
  | j + 1, k, _, m => DNbr j (k + 1) (DNb1 m k)
set_option maxRecDepth 20000 in
theorem M_day1 (g : G0) {n r : Nat} {Q : Option PV → Hp → Prop} {E : EP} : ∀ (j k : Nat) (x : Int32) (h : Hp), DN n r h → k + j = n → x = nI k → (∀ y, V g kfX14_day 1 0 0 108 [(0, pR (32, 0)), (1, pI y)] [] (mBr j k h) Q E) → V g kfX14_day 1 0 0 12 [(0, pR (32, 0)), (1, pI x)] [] h Q E := by
  intro j
  induction j with
  | zero =>
    intro k x h dn hij hx K
    subst hx
    obtain ⟨mj, n10, r20, en, er, ez⟩ := dn
    have hM := mj.1.1
    refine v_iload_n dX14_day_12 rfl ?_
    refine v_aload_n dX14_day_13 rfl ?_
    refine v_getI fl_X14_377 dX14_day_14 rfl rfl (Nat.le_of_ble_eq_true rfl) (mh_32_0 hM) ?_
    rw [en]
    refine v_icmp_ge 108 dX14_day_17 (by decide) (fun _ => ?_) (fun z => absurd (nI_le (by omega) (by omega)) z)
    exact K _
  | succ j ih =>
    intro k x h dn hij hx K
    subst hx
    have dn2 := DNb1 dn k
    obtain ⟨mj, n10, r20, en, er, ez⟩ := dn
    have hM := mj.1.1
    have nck : (nI k).toNatClampNeg = k := nI_clamp (by omega)
    have ez2 := ez k (by omega)
    refine v_iload_n dX14_day_12 rfl ?_
    refine v_aload_n dX14_day_13 rfl ?_
    refine v_getI fl_X14_377 dX14_day_14 rfl rfl (Nat.le_of_ble_eq_true rfl) (mh_32_0 hM) ?_
    rw [en]
    refine v_icmp_ge 108 dX14_day_17 (by decide) (fun z => absurd z (nI_ge (by omega) (by omega))) (fun _ => ?_)
    refine v_aload_n dX14_day_20 rfl ?_
    refine v_getI fl_X14_312 dX14_day_21 rfl rfl (Nat.le_of_ble_eq_true rfl) (mh_32_0 hM) ?_
    refine v_aload_n dX14_day_24 rfl ?_
    refine v_getR (some (38, 19)) fl_X14_109 dX14_day_25 rfl rfl (Nat.le_of_ble_eq_true rfl) (mh_32_0 hM) (mr_32_0_54 hM) ?_
    refine v_iload_n dX14_day_28 rfl ?_
    refine v_iald dX14_day_29 rfl (Nat.le_of_ble_eq_true rfl) (mh_38_19 hM) (by rw [ml_38_19 hM]; exact vp_in_nI (by omega) (by decide)) ?_
    rw [nck]
    refine v_icmp_lt 102 dX14_day_30 (by decide) (fun c30 => ?_) (fun c30 => ?_)
    · refine v_iinc _ dX14_day_102 rfl rfl (by decide) ?_
      refine v_goto 12 dX14_day_105 (by decide) ?_
      refine v_loc [(0, pR (32, 0)), (1, pI (nI k + 1))] rfl ?_
      refine ih (k + 1) _ _ ?_ (by omega) (nI_1 k) ?_
      · rw [mB1, if_pos c30] at dn2; exact dn2
      · rw [mBr, mB1, if_pos c30] at K; exact K
    · refine v_aload_n dX14_day_33 rfl ?_
      refine v_getI fl_X14_312 dX14_day_34 rfl rfl (Nat.le_of_ble_eq_true rfl) (mh_32_0 hM) ?_
      refine v_aload_n dX14_day_37 rfl ?_
      refine v_getR (some (38, 19)) fl_X14_109 dX14_day_38 rfl rfl (Nat.le_of_ble_eq_true rfl) (mh_32_0 hM) (mr_32_0_54 hM) ?_
      refine v_iload_n dX14_day_41 rfl ?_
      refine v_iald dX14_day_42 rfl (Nat.le_of_ble_eq_true rfl) (mh_38_19 hM) (by rw [ml_38_19 hM]; exact vp_in_nI (by omega) (by decide)) ?_
      rw [nck]
      refine v_isub dX14_day_43 ?_
      refine v_aload_n dX14_day_44 rfl ?_
      refine v_getR (some (38, 18)) fl_X14_106 dX14_day_45 rfl rfl (Nat.le_of_ble_eq_true rfl) (mh_32_0 hM) (mr_32_0_53 hM) ?_
      refine v_iload_n dX14_day_48 rfl ?_
      refine v_iald dX14_day_49 rfl (Nat.le_of_ble_eq_true rfl) (mh_38_18 hM) (by rw [ml_38_18 hM]; exact vp_in_nI (by omega) (by decide)) ?_
      rw [nck]
      refine v_irem dX14_day_50 ez2 ?_
      refine v_if_eq 57 dX14_day_51 (by decide) (fun c51 => ?_) (fun c51 => ?_)
      · refine v_aload_n dX14_day_57 rfl ?_
        refine v_ldcw (1000000) dX14_day_58 ctX14_380 ?_
        refine v_aload_n dX14_day_61 rfl ?_
        refine v_getI fl_X14_381 dX14_day_62 rfl rfl (Nat.le_of_ble_eq_true rfl) (mh_32_0 hM) ?_
        refine v_aload_n dX14_day_65 rfl ?_
        refine v_getR (some (38, 17)) fl_X14_103 dX14_day_66 rfl rfl (Nat.le_of_ble_eq_true rfl) (mh_32_0 hM) (mr_32_0_52 hM) ?_
        refine v_iload_n dX14_day_69 rfl ?_
        refine v_iald dX14_day_70 rfl (Nat.le_of_ble_eq_true rfl) (mh_38_17 hM) (by rw [ml_38_17 hM]; exact vp_in_nI (by omega) (by decide)) ?_
        rw [nck]
        refine v_iadd dX14_day_71 ?_
        refine v_mmin dX14_day_72 mlX14_384 (by decide) (Nat.le_of_ble_eq_true rfl) ?_
        refine v_putI fl_X14_381 (fun z => by cases z) dX14_day_75 rfl rfl (Nat.le_of_ble_eq_true rfl) rfl rfl (mh_32_0 hM) ?_
        change V g _ _ _ _ _ _ _ (mCh h k) _ _
        refine v_aload_n dX14_day_78 rfl ?_
        refine v_ldc2 (2000000000) dX14_day_79 ctX14_387 ?_
        refine v_aload_n dX14_day_82 rfl ?_
        refine v_getI fl_X14_389 dX14_day_83 rfl rfl (Nat.le_of_ble_eq_true rfl) (mh_32_0 hM) ?_
        refine v_i2l dX14_day_86 ?_
        refine v_aload_n dX14_day_87 rfl ?_
        refine v_getR (some (38, 17)) fl_X14_103 dX14_day_88 rfl rfl (Nat.le_of_ble_eq_true rfl) (mh_32_0 hM) (mr_32_0_52 hM) ?_
        refine v_iload_n dX14_day_91 rfl ?_
        refine v_iald dX14_day_92 rfl (Nat.le_of_ble_eq_true rfl) (mh_38_17 hM) (by rw [show ln (mCh h k) (38, 17) = 10 from ml_38_17 hM]; exact vp_in_nI (by omega) (by decide)) ?_
        rw [nck]
        refine v_i2l dX14_day_93 ?_
        refine v_ladd dX14_day_94 ?_
        refine v_mminL dX14_day_95 mlX14_392 (by decide) (Nat.le_of_ble_eq_true rfl) ?_
        refine v_l2i dX14_day_98 ?_
        refine v_putI fl_X14_389 (fun z => by cases z) dX14_day_99 rfl rfl (Nat.le_of_ble_eq_true rfl) rfl rfl (mh_32_0 hM) ?_
        change V g _ _ _ _ _ _ _ (mRe (mCh h k) k) _ _
        refine v_iinc _ dX14_day_102 rfl rfl (by decide) ?_
        refine v_goto 12 dX14_day_105 (by decide) ?_
        refine v_loc [(0, pR (32, 0)), (1, pI (nI k + 1))] rfl ?_
        refine ih (k + 1) _ _ ?_ (by omega) (nI_1 k) ?_
        · rw [mB1, if_neg c30, if_pos c51] at dn2; exact dn2
        · rw [mBr, mB1, if_neg c30, if_pos c51] at K; exact K
      · refine v_goto 102 dX14_day_54 (by decide) ?_
        refine v_iinc _ dX14_day_102 rfl rfl (by decide) ?_
        refine v_goto 12 dX14_day_105 (by decide) ?_
        refine v_loc [(0, pR (32, 0)), (1, pI (nI k + 1))] rfl ?_
        refine ih (k + 1) _ _ ?_ (by omega) (nI_1 k) ?_
        · rw [mB1, if_neg c30, if_neg c51] at dn2; exact dn2
        · rw [mBr, mB1, if_neg c30, if_neg c51] at K; exact K
def mHas (h : Hp) (q : Nat) : Int32 := if vi h (32, 0) 50 < vi h (32, 0) 49 + vi h (38, 4) q then vi h (32, 0) 50 else vi h (32, 0) 49 + vi h (38, 4) q
def mY1 (h : Hp) (q : Nat) : Hp := sI h (32, 0) 50 (vi h (32, 0) 50 - mHas h q)
def mY2 (h : Hp) (q : Nat) : Hp := sI (mY1 h q) (38, 5) q (vi (mY1 h q) (38, 5) q + mHas h q)
def mY3 (h : Hp) (q : Nat) : Hp := sI (mY2 h q) (38, 4) q (vi h (32, 0) 49 + vi h (38, 4) q - mHas h q)
def mPy (h : Hp) (r : Nat) : Hp := if vi h (38, 11) r = -1 then h else mY3 h (vi h (38, 14) (vi h (38, 11) r).toNatClampNeg).toNatClampNeg
def mPs : Nat → Nat → Hp → Hp
  | 0, _, h => h
  | j + 1, r, h => mPs j (r + 1) (mPy h r)
theorem DNpy {n r : Nat} {h : Hp} (m : DN n r h) (k : Nat) : DN n r (mPy h k) := by
  unfold mPy; split
  · exact m
  · exact DNsI (DNsI (DNsI m okD50) (okDi (by decide) (by decide))) (okDi (by decide) (by decide))
theorem DNps {n r : Nat} : ∀ (j k : Nat) {h : Hp}, DN n r h → DN n r (mPs j k h)
  | 0, _, _, m => m
  | j + 1, k, _, m => DNps j (k + 1) (DNpy m k)
theorem mPy_23 (h : Hp) (r : Nat) : vi (mPy h r) (32, 0) 23 = vi h (32, 0) 23 := by
  unfold mPy; split
  · rfl
  · unfold mY3 mY2 mY1; rw [vi_sI_ne _ _ _ _ (by decide), vi_sI_ne _ _ _ _ (by decide), vi_sI_nk _ _ _ (by decide)]
set_option maxRecDepth 20000 in
theorem M_day2 (g : G0) {n r : Nat} : ∀ (j k : Nat) (x : Int32) (h : Hp), DN n r h → k + j = r → x = nI k → vi h (32, 0) 23 - vi h (32, 0) 23 / 7 * 7 = 0 → V g kfX14_day 1 0 0 110 [(0, pR (32, 0)), (1, pI x)] [] h (qE none (mPs j k h)) (fun _ _ a h' => noX a h') := by
  intro j
  induction j with
  | zero =>
    intro k x h dn hij hx K
    subst hx
    obtain ⟨mj, n10, r20, en, er, ez⟩ := dn
    have hM := mj.1.1
    refine v_iload_n dX14_day_110 rfl ?_
    refine v_aload_n dX14_day_111 rfl ?_
    refine v_getI fl_X14_355 dX14_day_112 rfl rfl (Nat.le_of_ble_eq_true rfl) (mh_32_0 hM) ?_
    rw [er]
    refine v_icmp_ge 213 dX14_day_115 (by decide) (fun _ => ?_) (fun z => absurd (nI_le (by omega) (by omega)) z)
    refine v_return dX14_day_213 rfl ?_
    exact ⟨rfl, rfl⟩
  | succ j ih =>
    intro k x h dn hij hx K
    subst hx
    have dn2 := DNpy dn k
    have k2 : vi (mPy h k) (32, 0) 23 - vi (mPy h k) (32, 0) 23 / 7 * 7 = 0 := by rw [mPy_23]; exact K
    obtain ⟨mj, n10, r20, en, er, ez⟩ := dn
    have hM := mj.1.1
    have nck : (nI k).toNatClampNeg = k := nI_clamp (by omega)
    refine v_iload_n dX14_day_110 rfl ?_
    refine v_aload_n dX14_day_111 rfl ?_
    refine v_getI fl_X14_355 dX14_day_112 rfl rfl (Nat.le_of_ble_eq_true rfl) (mh_32_0 hM) ?_
    rw [er]
    refine v_icmp_ge 213 dX14_day_115 (by decide) (fun z => absurd z (nI_ge (by omega) (by omega))) (fun _ => ?_)
    refine v_aload_n dX14_day_118 rfl ?_
    refine v_getI fl_X14_312 dX14_day_119 rfl rfl (Nat.le_of_ble_eq_true rfl) (mh_32_0 hM) ?_
    refine v_bipush (7) dX14_day_122 (by decide) ?_
    refine v_irem dX14_day_124 (by decide) ?_
    refine v_if_ne 213 dX14_day_125 (by decide) (fun z => absurd K z) (fun _ => ?_)
    refine v_aload_n dX14_day_128 rfl ?_
    refine v_getR (some (38, 11)) fl_X14_79 dX14_day_129 rfl rfl (Nat.le_of_ble_eq_true rfl) (mh_32_0 hM) (mr_32_0_41 hM) ?_
    refine v_iload_n dX14_day_132 rfl ?_
    refine v_iald dX14_day_133 rfl (Nat.le_of_ble_eq_true rfl) (mh_38_11 hM) (by rw [ml_38_11 hM]; exact vp_in_nI (by omega) (by decide)) ?_
    rw [nck]
    refine v_iconst (-1) dX14_day_134 (by decide) ?_
    refine v_icmp_ne 141 dX14_day_135 (by decide) (fun c135 => ?_) (fun c135 => ?_)
    · obtain ⟨s, hs, es⟩ := (mj.2.2.1 k (by omega)).resolve_left c135
      obtain ⟨q, hq, ep⟩ := mj.2.2.2.1 s hs
      have ncs : (nI s).toNatClampNeg = s := nI_clamp (by omega)
      have ncq : (nI q).toNatClampNeg = q := nI_clamp (by omega)
      have ePy : mPy h k = mY3 h q := by rw [mPy, if_neg c135, es, ncs, ep, ncq]
      refine v_aload_n dX14_day_141 rfl ?_
      refine v_getR (some (38, 14)) fl_X14_88 dX14_day_142 rfl rfl (Nat.le_of_ble_eq_true rfl) (mh_32_0 hM) (mr_32_0_44 hM) ?_
      refine v_aload_n dX14_day_145 rfl ?_
      refine v_getR (some (38, 11)) fl_X14_79 dX14_day_146 rfl rfl (Nat.le_of_ble_eq_true rfl) (mh_32_0 hM) (mr_32_0_41 hM) ?_
      refine v_iload_n dX14_day_149 rfl ?_
      refine v_iald dX14_day_150 rfl (Nat.le_of_ble_eq_true rfl) (mh_38_11 hM) (by rw [ml_38_11 hM]; exact vp_in_nI (by omega) (by decide)) ?_
      rw [nck]
      rw [es]
      refine v_iald dX14_day_151 rfl (Nat.le_of_ble_eq_true rfl) (mh_38_14 hM) (by rw [ml_38_14 hM]; exact vp_in_nI (by omega) (by decide)) ?_
      rw [ncs, ep]
      refine v_istore_n dX14_day_152 (by decide) ?_
      refine v_aload_n dX14_day_153 rfl ?_
      refine v_getI fl_X14_100 dX14_day_154 rfl rfl (Nat.le_of_ble_eq_true rfl) (mh_32_0 hM) ?_
      refine v_aload_n dX14_day_157 rfl ?_
      refine v_getR (some (38, 4)) fl_X14_48 dX14_day_158 rfl rfl (Nat.le_of_ble_eq_true rfl) (mh_32_0 hM) (mr_32_0_28 hM) ?_
      refine v_iload_n dX14_day_161 rfl ?_
      refine v_iald dX14_day_162 rfl (Nat.le_of_ble_eq_true rfl) (mh_38_4 hM) (by rw [ml_38_4 hM]; exact vp_in_nI (by omega) (by decide)) ?_
      rw [ncq]
      refine v_iadd dX14_day_163 ?_
      refine v_istore_n dX14_day_164 (by decide) ?_
      refine v_iload_n dX14_day_165 rfl ?_
      refine v_aload_n dX14_day_166 rfl ?_
      refine v_getI fl_X14_381 dX14_day_167 rfl rfl (Nat.le_of_ble_eq_true rfl) (mh_32_0 hM) ?_
      refine v_mmin dX14_day_170 mlX14_384 (by decide) (Nat.le_of_ble_eq_true rfl) ?_
      refine v_istore dX14_day_173 (by decide) ?_
      refine v_aload_n dX14_day_175 rfl ?_
      refine v_dup dX14_day_176 rfl ?_
      refine v_getI fl_X14_381 dX14_day_177 rfl rfl (Nat.le_of_ble_eq_true rfl) (mh_32_0 hM) ?_
      refine v_iload dX14_day_180 rfl ?_
      refine v_isub dX14_day_182 ?_
      refine v_putI fl_X14_381 (fun z => by cases z) dX14_day_183 rfl rfl (Nat.le_of_ble_eq_true rfl) rfl rfl (mh_32_0 hM) ?_
      change V g _ _ _ _ _ _ _ (mY1 h q) _ _
      refine v_aload_n dX14_day_186 rfl ?_
      refine v_getR (some (38, 5)) fl_X14_51 dX14_day_187 rfl rfl (Nat.le_of_ble_eq_true rfl) (mh_32_0 hM) (mr_32_0_29 hM) ?_
      refine v_iload_n dX14_day_190 rfl ?_
      refine v_dup2 dX14_day_191 rfl rfl ?_
      refine v_iald dX14_day_192 rfl (Nat.le_of_ble_eq_true rfl) (mh_38_5 hM) (by rw [show ln (mY1 h q) (38, 5) = 40 from ml_38_5 hM]; exact vp_in_nI (by omega) (by decide)) ?_
      rw [ncq]
      refine v_iload dX14_day_193 rfl ?_
      refine v_iadd dX14_day_195 ?_
      refine v_iast dX14_day_196 rfl (Nat.le_of_ble_eq_true rfl) (mh_38_5 hM) (by rw [show ln (mY1 h q) (38, 5) = 40 from ml_38_5 hM]; exact vp_in_nI (by omega) (by decide)) ?_
      rw [ncq]
      change V g _ _ _ _ _ _ _ (mY2 h q) _ _
      refine v_aload_n dX14_day_197 rfl ?_
      refine v_getR (some (38, 4)) fl_X14_48 dX14_day_198 rfl rfl (Nat.le_of_ble_eq_true rfl) (mh_32_0 hM) (mr_32_0_28 hM) ?_
      refine v_iload_n dX14_day_201 rfl ?_
      refine v_iload_n dX14_day_202 rfl ?_
      refine v_iload dX14_day_203 rfl ?_
      refine v_isub dX14_day_205 ?_
      refine v_iast dX14_day_206 rfl (Nat.le_of_ble_eq_true rfl) (mh_38_4 hM) (by rw [show ln (mY2 h q) (38, 4) = 40 from ml_38_4 hM]; exact vp_in_nI (by omega) (by decide)) ?_
      rw [ncq]
      change V g _ _ _ _ _ _ _ (mY3 h q) _ _
      refine v_iinc _ dX14_day_207 rfl rfl (by decide) ?_
      refine v_goto 110 dX14_day_210 (by decide) ?_
      rw [mPs]
      refine v_loc [(0, pR (32, 0)), (1, pI (nI k + 1))] rfl ?_
      first | (rw [ePy] at dn2 k2 ⊢; exact ih (k + 1) _ _ dn2 (by omega) (nI_1 k) k2) | (have ePy : mPy h k = h := (by rw [mPy, if_pos c135]); rw [ePy]; exact ih (k + 1) _ _ (by rw [ePy] at dn2; exact dn2) (by omega) (nI_1 k) K)
    · refine v_goto 207 dX14_day_138 (by decide) ?_
      refine v_iinc _ dX14_day_207 rfl rfl (by decide) ?_
      refine v_goto 110 dX14_day_210 (by decide) ?_
      rw [mPs]
      refine v_loc [(0, pR (32, 0)), (1, pI (nI k + 1))] rfl ?_
      first | (rw [ePy] at dn2 k2 ⊢; exact ih (k + 1) _ _ dn2 (by omega) (nI_1 k) k2) | (have ePy : mPy h k = h := (by rw [mPy, if_pos c135]); rw [ePy]; exact ih (k + 1) _ _ (by rw [ePy] at dn2; exact dn2) (by omega) (nI_1 k) K)
def mTd (h : Hp) : Hp := sI h (32, 0) 23 (vi h (32, 0) 23 + 1)
def mDy1 (n : Nat) (h : Hp) : Hp := mBr n 0 (mTd h)
def mDayH (n r : Nat) (h : Hp) : Hp := if vi (mDy1 n h) (32, 0) 23 - vi (mDy1 n h) (32, 0) 23 / 7 * 7 = 0 then mPs r 0 (mDy1 n h) else mDy1 n h
theorem DNday {n r : Nat} {h : Hp} (m : DN n r h) : DN n r (mDayH n r h) := by
  have m1 : DN n r (mDy1 n h) := DNbr _ _ (DNsI m okD23)
  unfold mDayH; split
  · exact DNps _ _ m1
  · exact m1
set_option maxRecDepth 20000 in
theorem M_day (g : G0) (h : Hp) {n r : Nat} (dn : DN n r h) : Mx g yX14_day wX14_day 1 [pR (32, 0)] h 0 0 (qE none (mDayH n r h)) noX := by
  have hM := dn.1.1.1
  have dn1 : DN n r (mTd h) := DNsI dn okD23
  have dn2 : DN n r (mDy1 n h) := DNbr _ _ dn1
  refine Mx.by kfX14_day rfl (by decide) (Nat.le_of_ble_eq_true rfl) ?_
  refine v_aload_n dX14_day_0 rfl ?_
  refine v_dup dX14_day_1 rfl ?_
  refine v_getI fl_X14_312 dX14_day_2 rfl rfl (Nat.le_of_ble_eq_true rfl) (mh_32_0 hM) ?_
  refine v_iconst (1) dX14_day_5 (by decide) ?_
  refine v_iadd dX14_day_6 ?_
  refine v_putI fl_X14_312 (fun z => by cases z) dX14_day_7 rfl rfl (Nat.le_of_ble_eq_true rfl) rfl rfl (mh_32_0 hM) ?_
  change V g _ _ _ _ _ _ _ (mTd h) _ _
  refine v_iconst (0) dX14_day_10 (by decide) ?_
  refine v_istore_n dX14_day_11 (by decide) ?_
  refine v_loc [(0, pR (32, 0)), (1, pI 0)] rfl ?_
  refine M_day1 g n 0 0 (mTd h) dn1 (by omega) rfl (fun y => ?_)
  change V g _ _ _ _ _ _ _ (mDy1 n h) _ _
  refine v_iconst (0) dX14_day_108 (by decide) ?_
  refine v_istore_n dX14_day_109 (by decide) ?_
  refine v_loc [(0, pR (32, 0)), (1, pI 0)] rfl ?_
  by_cases zz : vi (mDy1 n h) (32, 0) 23 - vi (mDy1 n h) (32, 0) 23 / 7 * 7 = 0
  · rw [mDayH, if_pos zz]; exact M_day2 g r 0 0 _ dn2 (by omega) rfl zz
  · rw [mDayH, if_neg zz]
    obtain ⟨mj, n10, r20, en, er, ez⟩ := dn2
    have hM := mj.1.1
    refine v_iload_n dX14_day_110 rfl ?_
    refine v_aload_n dX14_day_111 rfl ?_
    refine v_getI fl_X14_355 dX14_day_112 rfl rfl (Nat.le_of_ble_eq_true rfl) (mh_32_0 hM) ?_
    rw [er]
    refine v_icmp_ge 213 dX14_day_115 (by decide) (fun c115 => ?_) (fun c115 => ?_)
    · refine v_return dX14_day_213 rfl ?_
      exact ⟨rfl, rfl⟩
    · refine v_aload_n dX14_day_118 rfl ?_
      refine v_getI fl_X14_312 dX14_day_119 rfl rfl (Nat.le_of_ble_eq_true rfl) (mh_32_0 hM) ?_
      refine v_bipush (7) dX14_day_122 (by decide) ?_
      refine v_irem dX14_day_124 (by decide) ?_
      refine v_if_ne 213 dX14_day_125 (by decide) (fun _ => ?_) (fun z => absurd z zz)
      refine v_return dX14_day_213 rfl ?_
      exact ⟨rfl, rfl⟩
def mDays (n r : Nat) : Nat → Hp → Hp
  | 0, h => h
  | j + 1, h => mDays n r j (mDayH n r h)
theorem DNdays {n r : Nat} : ∀ (j : Nat) {h : Hp}, DN n r h → DN n r (mDays n r j h)
  | 0, _, m => m
  | j + 1, _, m => DNdays j (DNday m)
set_option maxRecDepth 20000 in
theorem M_pass_loop (g : G0) {n r m : Nat} (hm : m ≤ 400) : ∀ (j k : Nat) (x : Int32) (h : Hp), DN n r h → k + j = m → x = nI k → V g kfX14_pass 12 0 0 36 [(0, pR (32, 0)), (1, pI (nI m)), (2, pI x)] [] h (qE (some (pI (vi (mDays n r j h) (32, 0) 23))) (mT (mDays n r j h) 0)) (fun _ _ a h' => noX a h') := by
  intro j
  induction j with
  | zero =>
    intro k x h dn hij hx
    subst hx
    have hM := dn.1.1.1
    refine v_iload_n dX14_pass_36 rfl ?_
    refine v_iload_n dX14_pass_37 rfl ?_
    refine v_icmp_ge 51 dX14_pass_38 (by decide) (fun _ => ?_) (fun z => absurd (nI_le (by omega) (by omega)) z)
    refine v_aload_n dX14_pass_51 rfl ?_
    refine v_aload_n dX14_pass_52 rfl ?_
    refine v_getI fl_X14_312 dX14_pass_53 rfl rfl (Nat.le_of_ble_eq_true rfl) (mh_32_0 hM) ?_
    refine v_invVE (M_done g h hM) dX14_pass_56 cwX14_done mlX14_125 (ob_32 _) rfl rfl (by decide) (by decide) (Nat.le_of_ble_eq_true rfl) ?_
    refine v_ireturn dX14_pass_59 rfl rfl ?_
    exact ⟨rfl, rfl⟩
  | succ j ih =>
    intro k x h dn hij hx
    subst hx
    have hM := dn.1.1.1
    refine v_iload_n dX14_pass_36 rfl ?_
    refine v_iload_n dX14_pass_37 rfl ?_
    refine v_icmp_ge 51 dX14_pass_38 (by decide) (fun z => absurd z (nI_ge (by omega) (by omega))) (fun _ => ?_)
    refine v_aload_n dX14_pass_41 rfl ?_
    refine v_invVE (M_day g h dn) dX14_pass_42 cwX14_day mlX14_395 (ob_32 _) rfl rfl (by decide) (by decide) (Nat.le_of_ble_eq_true rfl) ?_
    refine v_iinc _ dX14_pass_45 rfl rfl (by decide) ?_
    refine v_goto 36 dX14_pass_48 (by decide) ?_
    rw [mDays]
    refine v_loc [(0, pR (32, 0)), (1, pI (nI m)), (2, pI (nI k + 1))] rfl ?_
    exact ih (k + 1) _ _ (DNday dn) (by omega) (nI_1 k)
theorem mIn400 {k : Int32} (c : ¬ mIn k 1 400 = 0) : ∃ m, m ≤ 400 ∧ k = nI m := by
  unfold mIn at c
  split at c
  · exact absurd rfl c
  · rename_i c1
    split at c
    · exact absurd rfl c
    · rename_i c2
      exact rng400 c1 c2
def mPass (n r : Nat) (h : Hp) (d : Int32) : Int32 × Hp := if mIn d 1 400 = 0 then (-1, mT (mZ h) 2) else if vi h (32, 0) 23 + d ≤ 40000 then (vi (mDays n r d.toNatClampNeg (mZ h)) (32, 0) 23, mT (mDays n r d.toNatClampNeg (mZ h)) 0) else (-1, mT (mZ h) 2)
theorem DNz {n r : Nat} {h : Hp} (m : DN n r h) : DN n r (mZ h) := DNsI m ⟨⟨by decide, by decide⟩, by decide⟩
set_option maxRecDepth 20000 in
theorem M_pass (g : G0) (h : Hp) {n r : Nat} (dn : DN n r h) {d : Int32} : Mx g yX14_pass wX14_pass 12 [pR (32, 0), pI d] h 0 0 (qE (some (pI (mPass n r h d).1)) (mPass n r h d).2) noX := by
  have hM := dn.1.1.1
  have hMz : SM (mZ h) := hM
  have dnz := DNz dn
  refine Mx.by kfX14_pass rfl (by decide) (Nat.le_of_ble_eq_true rfl) ?_
  refine v_aload_n dX14_pass_0 rfl ?_
  refine v_iconst (0) dX14_pass_1 (by decide) ?_
  refine v_putI fl_X14_112 (fun z => by cases z) dX14_pass_2 rfl rfl (Nat.le_of_ble_eq_true rfl) rfl rfl (mh_32_0 hM) ?_
  change V g _ _ _ _ _ _ _ (mZ h) _ _
  refine v_iload_n dX14_pass_5 rfl ?_
  refine v_iconst (1) dX14_pass_6 (by decide) ?_
  refine v_sipush (400) dX14_pass_7 (by decide) ?_
  refine v_invSE (M_in g (mZ h)) dX14_pass_10 cwX14_in mlX14_231 rfl rfl (by decide) (by decide) (Nat.le_of_ble_eq_true rfl) ?_
  refine v_if_eq 28 dX14_pass_13 (by decide) (fun c13 => ?_) (fun c13 => ?_)
  · refine v_aload_n dX14_pass_28 rfl ?_
    refine v_iconst (2) dX14_pass_29 (by decide) ?_
    refine v_invVE (M_refused g (mZ h) hMz) dX14_pass_30 cwX14_refused mlX14_121 (ob_32 _) rfl rfl (by decide) (by decide) (Nat.le_of_ble_eq_true rfl) ?_
    refine v_ireturn dX14_pass_33 rfl rfl ?_
    exact ⟨by simp only [mPass, if_pos c13], by simp only [mPass, if_pos c13]⟩
  · refine v_aload_n dX14_pass_16 rfl ?_
    refine v_getI fl_X14_312 dX14_pass_17 rfl rfl (Nat.le_of_ble_eq_true rfl) (mh_32_0 hM) ?_
    rw [mZ_v _ _ (by decide)]
    refine v_iload_n dX14_pass_20 rfl ?_
    refine v_iadd dX14_pass_21 ?_
    refine v_ldcw (40000) dX14_pass_22 ctX14_273 ?_
    refine v_icmp_le 34 dX14_pass_25 (by decide) (fun c25 => ?_) (fun c25 => ?_)
    · refine v_iconst (0) dX14_pass_34 (by decide) ?_
      refine v_istore_n dX14_pass_35 (by decide) ?_
      rw [mPass, if_neg c13, if_pos c25]
      obtain ⟨m, hm, rfl⟩ := mIn400 c13
      rw [nI_clamp (by omega)]
      refine v_loc [(0, pR (32, 0)), (1, pI (nI m)), (2, pI 0)] rfl ?_
      exact M_pass_loop g hm m 0 0 _ dnz (by omega) rfl
    · refine v_aload_n dX14_pass_28 rfl ?_
      refine v_iconst (2) dX14_pass_29 (by decide) ?_
      refine v_invVE (M_refused g (mZ h) hMz) dX14_pass_30 cwX14_refused mlX14_121 (ob_32 _) rfl rfl (by decide) (by decide) (Nat.le_of_ble_eq_true rfl) ?_
      refine v_ireturn dX14_pass_33 rfl rfl ?_
      exact ⟨by simp only [mPass, if_neg c13, if_neg c25], by simp only [mPass, if_neg c13, if_neg c25]⟩
