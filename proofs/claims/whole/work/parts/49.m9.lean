theorem mML_ok (h : Hp) (day : Int32) (N : Nat) : ∀ (j k : Nat) (b : Int32), k + j ≤ N → (b = -1 ∨ ∃ q, q < N ∧ b = nI q) → mML h day j k b = -1 ∨ ∃ q, q < N ∧ mML h day j k b = nI q
  | 0, _, b, _, hb => hb
  | j + 1, k, b, hk, hb => by
    rw [mML]
    have n : (nI k = -1 ∨ ∃ q, q < N ∧ nI k = nI q) := Or.inr ⟨k, by omega, rfl⟩
    split
    · exact mML_ok h day N j (k + 1) b (by omega) hb
    · split
      · exact mML_ok h day N j (k + 1) _ (by omega) n
      · split
        · exact mML_ok h day N j (k + 1) b (by omega) hb
        · exact mML_ok h day N j (k + 1) _ (by omega) n
set_option maxRecDepth 20000 in
theorem M_mean_loop (g : G0) (h : Hp) (hM : SM h) {p t : Nat} (hp : p < 40) (ht : t ≤ 6) (e : vi h (38, 7) p = nI t) (day : Int32) : ∀ (j k : Nat) (b x : Int32), k + j = 6 * p + t → x = nI k → (b = -1 ∨ ∃ q, q < 240 ∧ b = nI q) → V g kfX14_factOf 1 0 0 95 [(0, pR (32, 0)), (1, pI (nI p)), (2, pI day), (4, pI b), (5, pI x)] [] h (qE (some (pI (if mML h day j k b = -1 then 0 else vi h (38, 9) (mML h day j k b).toNatClampNeg))) h) (fun _ _ a h' => noX a h') := by
  have ncp : (nI p).toNatClampNeg = p := nI_clamp (by omega)
  have e6 : (6 : Int32) * nI p + nI t = nI (6 * p + t) := by show nI 6 * nI p + nI t = _; rw [nI_mul, nI_add]
  intro j
  induction j with
  | zero =>
    intro k b x hij hx hb
    subst hx
    refine v_iload dX14_factOf_95 rfl ?_
    refine v_bipush (6) dX14_factOf_97 (by decide) ?_
    refine v_iload_n dX14_factOf_99 rfl ?_
    refine v_imul dX14_factOf_100 ?_
    refine v_aload_n dX14_factOf_101 rfl ?_
    refine v_getR (some (38, 7)) fl_X14_57 dX14_factOf_102 rfl rfl (Nat.le_of_ble_eq_true rfl) (mh_32_0 hM) (mr_32_0_31 hM) ?_
    refine v_iload_n dX14_factOf_105 rfl ?_
    refine v_iald dX14_factOf_106 rfl (Nat.le_of_ble_eq_true rfl) (mh_38_7 hM) (by rw [ml_38_7 hM]; exact vp_in_nI hp (by decide)) ?_
    rw [ncp, e]
    refine v_iadd dX14_factOf_107 ?_
    rw [e6]
    refine v_icmp_ge 155 dX14_factOf_108 (by decide) (fun _ => ?_) (fun z => absurd (nI_le (by omega) (by omega)) z)
    refine v_iload dX14_factOf_155 rfl ?_
    refine v_iconst (-1) dX14_factOf_157 (by decide) ?_
    refine v_icmp_ne 165 dX14_factOf_158 (by decide) (fun c158 => ?_) (fun c158 => ?_)
    · obtain ⟨q, hq, rfl⟩ := hb.resolve_left c158
      refine v_aload_n dX14_factOf_165 rfl ?_
      refine v_getR (some (38, 9)) fl_X14_67 dX14_factOf_166 rfl rfl (Nat.le_of_ble_eq_true rfl) (mh_32_0 hM) (mr_32_0_34 hM) ?_
      refine v_iload dX14_factOf_169 rfl ?_
      refine v_iald dX14_factOf_171 rfl (Nat.le_of_ble_eq_true rfl) (mh_38_9 hM) (by rw [ml_38_9 hM]; exact vp_in_nI hq (by decide)) ?_
      refine v_ireturn dX14_factOf_172 rfl rfl ?_
      exact ⟨by rw [mML, if_neg c158], rfl⟩
    · refine v_iconst (0) dX14_factOf_161 (by decide) ?_
      refine v_goto 172 dX14_factOf_162 (by decide) ?_
      refine v_ireturn dX14_factOf_172 rfl rfl ?_
      exact ⟨by rw [mML, if_pos c158], rfl⟩
  | succ j ih =>
    intro k b x hij hx hb
    subst hx
    have nck : (nI k).toNatClampNeg = k := nI_clamp (by omega)
    have hk : k < 240 := by omega
    have hbk : (nI k = -1 ∨ ∃ q, q < 240 ∧ nI k = nI q) := Or.inr ⟨k, hk, rfl⟩
    refine v_iload dX14_factOf_95 rfl ?_
    refine v_bipush (6) dX14_factOf_97 (by decide) ?_
    refine v_iload_n dX14_factOf_99 rfl ?_
    refine v_imul dX14_factOf_100 ?_
    refine v_aload_n dX14_factOf_101 rfl ?_
    refine v_getR (some (38, 7)) fl_X14_57 dX14_factOf_102 rfl rfl (Nat.le_of_ble_eq_true rfl) (mh_32_0 hM) (mr_32_0_31 hM) ?_
    refine v_iload_n dX14_factOf_105 rfl ?_
    refine v_iald dX14_factOf_106 rfl (Nat.le_of_ble_eq_true rfl) (mh_38_7 hM) (by rw [ml_38_7 hM]; exact vp_in_nI hp (by decide)) ?_
    rw [ncp, e]
    refine v_iadd dX14_factOf_107 ?_
    rw [e6]
    refine v_icmp_ge 155 dX14_factOf_108 (by decide) (fun z => absurd z (nI_ge (by omega) (by omega))) (fun _ => ?_)
    refine v_aload_n dX14_factOf_111 rfl ?_
    refine v_getR (some (38, 8)) fl_X14_64 dX14_factOf_112 rfl rfl (Nat.le_of_ble_eq_true rfl) (mh_32_0 hM) (mr_32_0_33 hM) ?_
    refine v_iload dX14_factOf_115 rfl ?_
    refine v_iald dX14_factOf_117 rfl (Nat.le_of_ble_eq_true rfl) (mh_38_8 hM) (by rw [ml_38_8 hM]; exact vp_in_nI hk (by decide)) ?_
    rw [nck]
    refine v_iload_n dX14_factOf_118 rfl ?_
    refine v_icmp_gt 149 dX14_factOf_119 (by decide) (fun c119 => ?_) (fun c119 => ?_)
    · refine v_iinc _ dX14_factOf_149 rfl rfl (by decide) ?_
      refine v_goto 95 dX14_factOf_152 (by decide) ?_
      rw [mML, if_pos c119]
      first | (refine v_loc [(0, pR (32, 0)), (1, pI (nI p)), (2, pI day), (4, pI b), (5, pI (nI k + 1))] rfl ?_; exact ih (k + 1) _ _ (by omega) (nI_1 k) hb) | (refine v_loc [(0, pR (32, 0)), (1, pI (nI p)), (2, pI day), (4, pI (nI k)), (5, pI (nI k + 1))] rfl ?_; exact ih (k + 1) _ _ (by omega) (nI_1 k) hbk)
    · refine v_iload dX14_factOf_122 rfl ?_
      refine v_iconst (-1) dX14_factOf_124 (by decide) ?_
      refine v_icmp_eq 145 dX14_factOf_125 (by decide) (fun c125 => ?_) (fun c125 => ?_)
      · refine v_iload dX14_factOf_145 rfl ?_
        refine v_istore dX14_factOf_147 (by decide) ?_
        refine v_iinc _ dX14_factOf_149 rfl rfl (by decide) ?_
        refine v_goto 95 dX14_factOf_152 (by decide) ?_
        rw [mML, if_neg c119, if_pos c125]
        first | (refine v_loc [(0, pR (32, 0)), (1, pI (nI p)), (2, pI day), (4, pI b), (5, pI (nI k + 1))] rfl ?_; exact ih (k + 1) _ _ (by omega) (nI_1 k) hb) | (refine v_loc [(0, pR (32, 0)), (1, pI (nI p)), (2, pI day), (4, pI (nI k)), (5, pI (nI k + 1))] rfl ?_; exact ih (k + 1) _ _ (by omega) (nI_1 k) hbk)
      · have hbq := hb.resolve_left c125
        refine v_aload_n dX14_factOf_128 rfl ?_
        refine v_getR (some (38, 8)) fl_X14_64 dX14_factOf_129 rfl rfl (Nat.le_of_ble_eq_true rfl) (mh_32_0 hM) (mr_32_0_33 hM) ?_
        refine v_iload dX14_factOf_132 rfl ?_
        refine v_iald dX14_factOf_134 rfl (Nat.le_of_ble_eq_true rfl) (mh_38_8 hM) (by rw [ml_38_8 hM]; exact vp_in_nI hk (by decide)) ?_
        rw [nck]
        refine v_aload_n dX14_factOf_135 rfl ?_
        refine v_getR (some (38, 8)) fl_X14_64 dX14_factOf_136 rfl rfl (Nat.le_of_ble_eq_true rfl) (mh_32_0 hM) (mr_32_0_33 hM) ?_
        refine v_iload dX14_factOf_139 rfl ?_
        refine v_iald dX14_factOf_141 rfl (Nat.le_of_ble_eq_true rfl) (mh_38_8 hM) (by obtain ⟨q, hq, rfl⟩ := hbq; rw [ml_38_8 hM]; exact vp_in_nI hq (by decide)) ?_
        refine v_icmp_lt 149 dX14_factOf_142 (by decide) (fun c142 => ?_) (fun c142 => ?_)
        · refine v_iinc _ dX14_factOf_149 rfl rfl (by decide) ?_
          refine v_goto 95 dX14_factOf_152 (by decide) ?_
          rw [mML, if_neg c119, if_neg c125, if_pos c142]
          first | (refine v_loc [(0, pR (32, 0)), (1, pI (nI p)), (2, pI day), (4, pI b), (5, pI (nI k + 1))] rfl ?_; exact ih (k + 1) _ _ (by omega) (nI_1 k) hb) | (refine v_loc [(0, pR (32, 0)), (1, pI (nI p)), (2, pI day), (4, pI (nI k)), (5, pI (nI k + 1))] rfl ?_; exact ih (k + 1) _ _ (by omega) (nI_1 k) hbk)
        · refine v_iload dX14_factOf_145 rfl ?_
          refine v_istore dX14_factOf_147 (by decide) ?_
          refine v_iinc _ dX14_factOf_149 rfl rfl (by decide) ?_
          refine v_goto 95 dX14_factOf_152 (by decide) ?_
          rw [mML, if_neg c119, if_neg c125, if_neg c142]
          first | (refine v_loc [(0, pR (32, 0)), (1, pI (nI p)), (2, pI day), (4, pI b), (5, pI (nI k + 1))] rfl ?_; exact ih (k + 1) _ _ (by omega) (nI_1 k) hb) | (refine v_loc [(0, pR (32, 0)), (1, pI (nI p)), (2, pI day), (4, pI (nI k)), (5, pI (nI k + 1))] rfl ?_; exact ih (k + 1) _ _ (by omega) (nI_1 k) hbk)
set_option maxRecDepth 20000 in
theorem M_factOf2 (g : G0) (h : Hp) (hM : SM h) {p t : Nat} (hp : p < 40) (ht : t ≤ 6) (e : vi h (38, 7) p = nI t) {day : Int32} : Mx g yX14_factOf wX14_factOf 1 [pR (32, 0), pI (nI p), pI day, pI (nI 2)] h 0 0 (qE (some (pI (mFc h p 2 day))) h) noX := by
  have ncl : (nI p).toNatClampNeg = p := nI_clamp (by omega)
  have e6 : (6 : Int32) * nI p = nI (6 * p) := nI_mul 6 p
  refine Mx.by kfX14_factOf rfl (by decide) (Nat.le_of_ble_eq_true rfl) ?_
  refine v_iload_n dX14_factOf_0 rfl ?_
  refine v_tableIn 86 dX14_factOf_1 (by decide) (by decide) (by rfl) (by decide) ?_
  refine v_iconst (-1) dX14_factOf_86 (by decide) ?_
  refine v_istore dX14_factOf_87 (by decide) ?_
  refine v_bipush (6) dX14_factOf_89 (by decide) ?_
  refine v_iload_n dX14_factOf_91 rfl ?_
  refine v_imul dX14_factOf_92 ?_
  rw [e6]
  refine v_istore dX14_factOf_93 (by decide) ?_
  refine v_loc [(0, pR (32, 0)), (1, pI (nI p)), (2, pI day), (4, pI (-1)), (5, pI (nI (6 * p)))] rfl ?_
  have K := M_mean_loop g h hM hp ht e day t (6 * p) (-1) (nI (6 * p)) (by omega) rfl (Or.inl rfl)
  have em : mFc h p 2 day = (if mML h day t (6 * p) (-1) = -1 then 0 else vi h (38, 9) (mML h day t (6 * p) (-1)).toNatClampNeg) := by show mMean h p day = _; rw [mMean, e, nI_clamp (by omega)]
  rw [em]
  exact K
theorem M_factOf (g : G0) (h : Hp) (i : MJ h) {p k : Nat} (hp : p < 40) (hk : k < 5) {day : Int32} : Mx g yX14_factOf wX14_factOf 1 [pR (32, 0), pI (nI p), pI day, pI (nI k)] h 0 0 (qE (some (pI (mFc h p k day))) h) noX := by
  obtain ⟨t, ht, e⟩ := i.2.1 p hp
  have : k = 0 ∨ k = 1 ∨ k = 2 ∨ k = 3 ∨ k = 4 := by omega
  rcases this with rfl | rfl | rfl | rfl | rfl
  · exact M_factOf0 g h i.1.1 hp
  · exact M_factOf1 g h i.1.1 hp
  · exact M_factOf2 g h i.1.1 hp ht e
  · exact M_factOf3 g h i.1.1 hp
  · exact M_factOf4 g h i.1.1 hp
