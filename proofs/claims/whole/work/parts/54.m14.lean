def fEnd (h : Hp) (s : Int32 × Int32) : Int32 := if s.1 = -1 then 0 else if vi h (40, s.1.toNatClampNeg) s.2.toNatClampNeg = 1 then 0 else 1
theorem ff_20 (h : Hp) (s : Int32 × Int32) : vi (ff h s) (32, 0) 20 = s.1 := rfl
theorem ff_21 (h : Hp) (s : Int32 × Int32) : vi (ff h s) (32, 0) 21 = s.2 := rfl
theorem ff_5 (h : Hp) (s : Int32 × Int32) : vi (ff h s) (32, 0) 5 = vi h (32, 0) 5 := rfl
set_option maxRecDepth 20000 in
theorem fin_out (g : G0) (h : Hp) (hM : SM h) {n : Nat} (hn : n ≤ 40) (en : vi h (32, 0) 5 = nI n) (hK : ∀ k, k < n → SK h k) {w nu d : Int32} : ∀ (j k : Nat) (x : Int32) (s : Int32 × Int32), k + j = n → x = nI k → sOK n s → V g kfX14_finds 0 0 0 8 [(0, pR (32, 0)), (1, pI w), (2, pI nu), (3, pI d), (4, pI x)] [] (ff h s) (qE (some (pI (fEnd h (fO h w nu d j k s)))) (ff h (fO h w nu d j k s))) (fun _ _ a h' => noX a h') := by
  intro j
  induction j with
  | zero =>
    intro k x s hij hx hs
    subst hx
    refine v_iload dX14_finds_8 rfl ?_
    refine v_aload_n dX14_finds_10 rfl ?_
    refine v_getI fl_X14_283 dX14_finds_11 rfl rfl (Nat.le_of_ble_eq_true rfl) (mh_32_0 (SMff hM _)) ?_
    rw [ff_5, en]
    refine v_icmp_ge 158 dX14_finds_14 (by decide) (fun _ => ?_) (fun z => absurd (nI_le (by omega) (by omega)) z)
    refine v_aload_n dX14_finds_158 rfl ?_
    refine v_getI fl_X14_295 dX14_finds_159 rfl rfl (Nat.le_of_ble_eq_true rfl) (mh_32_0 (SMff hM _)) ?_
    rw [ff_20]
    refine v_iconst (-1) dX14_finds_162 (by decide) ?_
    refine v_icmp_eq 191 dX14_finds_163 (by decide) (fun c163 => ?_) (fun c163 => ?_)
    · refine v_iconst (0) dX14_finds_191 (by decide) ?_
      refine v_ireturn dX14_finds_192 rfl rfl ?_
      refine ⟨?_, rfl⟩
      show some (pI _) = some (pI (fEnd h s))
      first | (rw [fEnd, if_pos c163]; done) | (rw [fEnd, if_neg c163, hq1, ncq, if_pos c184]; done) | (rw [fEnd, if_neg c163, hq1, ncq, if_neg c184]; done)
    · obtain ⟨q, c, hqn, hc, hq1, hc1⟩ := hs.resolve_left c163
      have hq := hK q hqn
      have ncq : (nI q).toNatClampNeg = q := nI_clamp (by omega)
      refine v_aload_n dX14_finds_166 rfl ?_
      refine v_getR (some (36, 0)) fl_X14_15 dX14_finds_167 rfl rfl (Nat.le_of_ble_eq_true rfl) (mh_32_0 (SMff hM _)) (mr_32_0_6 (SMff hM _)) ?_
      refine v_aload_n dX14_finds_170 rfl ?_
      refine v_getI fl_X14_295 dX14_finds_171 rfl rfl (Nat.le_of_ble_eq_true rfl) (mh_32_0 (SMff hM _)) ?_
      rw [ff_20]
      refine v_aald (some (33, q)) dX14_finds_174 rfl (by decide) (by decide) (Nat.le_of_ble_eq_true rfl) (mh_36_0 (SMff hM _)) (by rw [hq1, ml_36_0 (SMff hM _)]; exact vp_in_nI (by omega) (by decide)) (by rw [hq1, nI_clamp (by omega)]; exact hq.2.1) ?_
      refine v_getR (some (40, q)) fl_X14_223 dX14_finds_175 rfl rfl (Nat.le_of_ble_eq_true rfl) hq.1 hq.2.2.2.1.1 ?_
      refine v_aload_n dX14_finds_178 rfl ?_
      refine v_getI fl_X14_298 dX14_finds_179 rfl rfl (Nat.le_of_ble_eq_true rfl) (mh_32_0 (SMff hM _)) ?_
      rw [ff_21]
      refine v_iald dX14_finds_182 rfl (Nat.le_of_ble_eq_true rfl) hq.2.2.1.1 (by rw [hc1, show ln (ff h s) (40, q) = 12 from hq.2.2.2.2.1.1]; exact vp_in_nI hc (by decide)) ?_
      rw [ff33 _ _ _ _ _ (by decide)]
      refine v_iconst (1) dX14_finds_183 (by decide) ?_
      refine v_icmp_eq 191 dX14_finds_184 (by decide) (fun c184 => ?_) (fun c184 => ?_)
      · refine v_iconst (0) dX14_finds_191 (by decide) ?_
        refine v_ireturn dX14_finds_192 rfl rfl ?_
        refine ⟨?_, rfl⟩
        show some (pI _) = some (pI (fEnd h s))
        first | (rw [fEnd, if_pos c163]; done) | (rw [fEnd, if_neg c163, hq1, ncq, if_pos c184]; done) | (rw [fEnd, if_neg c163, hq1, ncq, if_neg c184]; done)
      · refine v_iconst (1) dX14_finds_187 (by decide) ?_
        refine v_goto 192 dX14_finds_188 (by decide) ?_
        refine v_ireturn dX14_finds_192 rfl rfl ?_
        refine ⟨?_, rfl⟩
        show some (pI _) = some (pI (fEnd h s))
        first | (rw [fEnd, if_pos c163]; done) | (rw [fEnd, if_neg c163, hq1, ncq, if_pos c184]; done) | (rw [fEnd, if_neg c163, hq1, ncq, if_neg c184]; done)
  | succ j ih =>
    intro k x s hij hx hs
    subst hx
    have hkn : k < n := by omega
    have hk := hK k hkn
    obtain ⟨m, hm, em⟩ := hk.2.2.2.2.2
    have eN : chN h k = m := by rw [chN, em, nI_clamp (by omega)]
    have nck : (nI k).toNatClampNeg = k := nI_clamp (by omega)
    refine v_iload dX14_finds_8 rfl ?_
    refine v_aload_n dX14_finds_10 rfl ?_
    refine v_getI fl_X14_283 dX14_finds_11 rfl rfl (Nat.le_of_ble_eq_true rfl) (mh_32_0 (SMff hM _)) ?_
    rw [ff_5, en]
    refine v_icmp_ge 158 dX14_finds_14 (by decide) (fun z => absurd z (nI_ge (by omega) (by omega))) (fun _ => ?_)
    refine v_aload_n dX14_finds_17 rfl ?_
    refine v_getR (some (36, 0)) fl_X14_15 dX14_finds_18 rfl rfl (Nat.le_of_ble_eq_true rfl) (mh_32_0 (SMff hM _)) (mr_32_0_6 (SMff hM _)) ?_
    refine v_iload dX14_finds_21 rfl ?_
    refine v_aald (some (33, k)) dX14_finds_23 rfl (by decide) (by decide) (Nat.le_of_ble_eq_true rfl) (mh_36_0 (SMff hM _)) (by rw [ml_36_0 (SMff hM _)]; exact vp_in_nI (by omega) (by decide)) (by rw [nck]; exact hk.2.1) ?_
    refine v_astore dX14_finds_24 (by decide) ?_
    refine v_aload dX14_finds_26 rfl ?_
    refine v_getI fl_X14_289 dX14_finds_28 rfl rfl (Nat.le_of_ble_eq_true rfl) hk.1 ?_
    rw [ff33 _ _ _ _ _ (by decide)]
    refine v_iload_n dX14_finds_31 rfl ?_
    refine v_icmp_ne 152 dX14_finds_32 (by decide) (fun c32 => ?_) (fun c32 => ?_)
    · refine v_iinc _ dX14_finds_152 rfl rfl (by decide) ?_
      refine v_goto 8 dX14_finds_155 (by decide) ?_
      first | rw [fO, if_neg c32] | (rw [← ncq] at c69; rw [fO, if_neg c32])
      refine v_loc [(0, pR (32, 0)), (1, pI w), (2, pI nu), (3, pI d), (4, pI (nI k + 1))] rfl ?_
      exact ih (k + 1) _ _ (by omega) (nI_1 k) hs
    · refine v_aload dX14_finds_35 rfl ?_
      refine v_getI fl_X14_292 dX14_finds_37 rfl rfl (Nat.le_of_ble_eq_true rfl) hk.1 ?_
      rw [ff33 _ _ _ _ _ (by decide)]
      refine v_iload_n dX14_finds_40 rfl ?_
      refine v_icmp_gt 152 dX14_finds_41 (by decide) (fun c41 => ?_) (fun c41 => ?_)
      · refine v_iinc _ dX14_finds_152 rfl rfl (by decide) ?_
        refine v_goto 8 dX14_finds_155 (by decide) ?_
        first | rw [fO, if_pos c32, if_pos c41] | (rw [← ncq] at c69; rw [fO, if_pos c32, if_pos c41])
        refine v_loc [(0, pR (32, 0)), (1, pI w), (2, pI nu), (3, pI d), (4, pI (nI k + 1))] rfl ?_
        exact ih (k + 1) _ _ (by omega) (nI_1 k) hs
      · refine v_aload_n dX14_finds_44 rfl ?_
        refine v_getI fl_X14_295 dX14_finds_45 rfl rfl (Nat.le_of_ble_eq_true rfl) (mh_32_0 (SMff hM _)) ?_
        rw [ff_20]
        refine v_iconst (-1) dX14_finds_48 (by decide) ?_
        refine v_icmp_eq 75 dX14_finds_49 (by decide) (fun c49 => ?_) (fun c49 => ?_)
        · refine v_iconst (0) dX14_finds_75 (by decide) ?_
          refine v_istore dX14_finds_76 (by decide) ?_
          first | rw [fO, if_pos c32, if_neg c41, if_pos c49, eN] | (rw [← ncq] at c69; rw [fO, if_pos c32, if_neg c41, if_pos c49, eN])
          refine v_loc [(0, pR (32, 0)), (1, pI w), (2, pI nu), (3, pI d), (4, pI (nI k)), (5, pR (33, k)), (6, pI 0)] rfl ?_
          refine fin_in g h hM hk hm em m 0 0 s (by omega) rfl ?_
          refine v_iinc _ dX14_finds_152 rfl rfl (by decide) ?_
          refine v_goto 8 dX14_finds_155 (by decide) ?_
          refine v_loc [(0, pR (32, 0)), (1, pI w), (2, pI nu), (3, pI d), (4, pI (nI k + 1))] rfl ?_
          exact ih (k + 1) _ _ (by omega) (nI_1 k) (fC_ok h hkn nu m 0 s (by omega) hs)
        · obtain ⟨q, c, hqn, hc, hq1, hc1⟩ := hs.resolve_left c49
          have hq := hK q hqn
          have ncq : s.1.toNatClampNeg = q := by rw [hq1, nI_clamp (by omega)]
          refine v_aload dX14_finds_52 rfl ?_
          refine v_getI fl_X14_292 dX14_finds_54 rfl rfl (Nat.le_of_ble_eq_true rfl) hk.1 ?_
          rw [ff33 _ _ _ _ _ (by decide)]
          refine v_aload_n dX14_finds_57 rfl ?_
          refine v_getR (some (36, 0)) fl_X14_15 dX14_finds_58 rfl rfl (Nat.le_of_ble_eq_true rfl) (mh_32_0 (SMff hM _)) (mr_32_0_6 (SMff hM _)) ?_
          refine v_aload_n dX14_finds_61 rfl ?_
          refine v_getI fl_X14_295 dX14_finds_62 rfl rfl (Nat.le_of_ble_eq_true rfl) (mh_32_0 (SMff hM _)) ?_
          rw [ff_20]
          refine v_aald (some (33, q)) dX14_finds_65 rfl (by decide) (by decide) (Nat.le_of_ble_eq_true rfl) (mh_36_0 (SMff hM _)) (by rw [hq1, ml_36_0 (SMff hM _)]; exact vp_in_nI (by omega) (by decide)) (by rw [hq1, nI_clamp (by omega)]; exact hq.2.1) ?_
          refine v_getI fl_X14_292 dX14_finds_66 rfl rfl (Nat.le_of_ble_eq_true rfl) hq.1 ?_
          rw [ff33 _ _ _ _ _ (by decide)]
          refine v_icmp_ge 75 dX14_finds_69 (by decide) (fun c69 => ?_) (fun c69 => ?_)
          · refine v_iconst (0) dX14_finds_75 (by decide) ?_
            refine v_istore dX14_finds_76 (by decide) ?_
            first | rw [fO, if_pos c32, if_neg c41, if_neg c49, if_pos c69, eN] | (rw [← ncq] at c69; rw [fO, if_pos c32, if_neg c41, if_neg c49, if_pos c69, eN])
            refine v_loc [(0, pR (32, 0)), (1, pI w), (2, pI nu), (3, pI d), (4, pI (nI k)), (5, pR (33, k)), (6, pI 0)] rfl ?_
            refine fin_in g h hM hk hm em m 0 0 s (by omega) rfl ?_
            refine v_iinc _ dX14_finds_152 rfl rfl (by decide) ?_
            refine v_goto 8 dX14_finds_155 (by decide) ?_
            refine v_loc [(0, pR (32, 0)), (1, pI w), (2, pI nu), (3, pI d), (4, pI (nI k + 1))] rfl ?_
            exact ih (k + 1) _ _ (by omega) (nI_1 k) (fC_ok h hkn nu m 0 s (by omega) hs)
          · refine v_goto 152 dX14_finds_72 (by decide) ?_
            refine v_iinc _ dX14_finds_152 rfl rfl (by decide) ?_
            refine v_goto 8 dX14_finds_155 (by decide) ?_
            first | rw [fO, if_pos c32, if_neg c41, if_neg c49, if_neg c69] | (rw [← ncq] at c69; rw [fO, if_pos c32, if_neg c41, if_neg c49, if_neg c69])
            refine v_loc [(0, pR (32, 0)), (1, pI w), (2, pI nu), (3, pI d), (4, pI (nI k + 1))] rfl ?_
            exact ih (k + 1) _ _ (by omega) (nI_1 k) hs
set_option maxRecDepth 20000 in
theorem M_finds (g : G0) (h : Hp) (hM : SM h) {n : Nat} (hn : n ≤ 40) (en : vi h (32, 0) 5 = nI n) (hK : ∀ k, k < n → SK h k) {w nu d : Int32} : Mx g yX14_finds wX14_finds 0 [pR (32, 0), pI w, pI nu, pI d] h 0 0 (qE (some (pI (fEnd h (fO h w nu d n 0 (-1, vi h (32, 0) 21))))) (ff h (fO h w nu d n 0 (-1, vi h (32, 0) 21)))) noX := by
  refine Mx.by kfX14_finds rfl (by decide) (Nat.le_of_ble_eq_true rfl) ?_
  refine v_aload_n dX14_finds_0 rfl ?_
  refine v_iconst (-1) dX14_finds_1 (by decide) ?_
  refine v_putI fl_X14_295 (fun z => by cases z) dX14_finds_2 rfl rfl (Nat.le_of_ble_eq_true rfl) rfl rfl (mh_32_0 hM) ?_
  rw [ff_0]
  refine v_iconst (0) dX14_finds_5 (by decide) ?_
  refine v_istore dX14_finds_6 (by decide) ?_
  refine v_loc [(0, pR (32, 0)), (1, pI w), (2, pI nu), (3, pI d), (4, pI 0)] rfl ?_
  exact fin_out g h hM hn en hK n 0 0 _ (by omega) rfl (Or.inl rfl)
