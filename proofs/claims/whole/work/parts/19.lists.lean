/-! ArrayList: list j holds n things of pool q, in the order of their numbers -/
def ALa (h : Hp) (j q n e : Nat) : Prop := vr h (7, j) 1 = some (16, e) ∧ e < cn h 16 ∧ n ≤ ln h (16, e) ∧ 10 ≤ ln h (16, e) ∧ ln h (16, e) ≤ 1500 ∧ ∀ i, i < n → vr h (16, e) i = some (q, i)
def AL (h : Hp) (j q n : Nat) : Prop := vi h (7, j) 2 = nI n ∧ n ≤ 1000 ∧ ((n = 0 ∧ vr h (7, j) 1 = some (66, 0)) ∨ ∃ e, ALa h j q n e)
theorem cl0 : (0 : Int32).toNatClampNeg = 0 := by decide
/-- the pools of the lists: class, its word -/
def pq (q : Nat) (ci : Nat) (c : vw_C) : Prop := q < 64 ∧ pk q = .inl ci ∧ vwCl[ci]? = some c ∧ Cond.castable c.1 "java/lang/Object" ∈ lw_n
set_option maxRecDepth 20000 in
theorem m_size (g : G0) (h : Hp) {j : Nat} (hj : j < cn h 7) : Mx g yJx4a65c_size_8abf5 wJx4a65c_size_8abf5 0 [pR (7, j)] h 0 0 (qE (some (pI (vi h (7, j) 2))) h) noX := by
  refine Mx.by kfJx4a65c_size_8abf5 rfl (by decide) (Nat.le_of_ble_eq_true rfl) ?_
  refine v_aload_n dJx4a65c_size_8abf5_0 rfl ?_
  refine v_getI fl_Jx4a65c_48 dJx4a65c_size_8abf5_1 rfl rfl (Nat.le_of_ble_eq_true rfl) hj ?_
  refine v_ireturn dJx4a65c_size_8abf5_4 rfl rfl ?_
  exact ⟨rfl, rfl⟩
set_option maxRecDepth 20000 in
theorem m_elem (g : G0) (h : Hp) {j q n i : Nat} (hj : j < cn h 7) (hA : AL h j q n) (hi : i < n) : Mx g yJx4a65c_elementData_915e3 wJx4a65c_elementData_915e3 0 [pR (7, j), pI (nI i)] h 0 0 (qE (some (pR (q, i))) h) noX := by
  obtain ⟨hs, hn, hA⟩ := hA
  obtain ⟨e, h1, h2, h3, h4, h5, h6⟩ : ∃ e, ALa h j q n e := by
    rcases hA with z | z
    · omega
    · exact z
  refine Mx.by kfJx4a65c_elementData_915e3 rfl (by decide) (Nat.le_of_ble_eq_true rfl) ?_
  refine v_aload_n dJx4a65c_elementData_915e3_0 rfl ?_
  refine v_getR (some (16, e)) fl_Jx4a65c_9 dJx4a65c_elementData_915e3_1 rfl rfl (Nat.le_of_ble_eq_true rfl) hj h1 ?_
  refine v_iload_n dJx4a65c_elementData_915e3_4 rfl ?_
  refine v_aald (some (q, i)) dJx4a65c_elementData_915e3_5 rfl (by decide) (by decide) (Nat.le_of_ble_eq_true rfl) h2 (vp_in_nI (by omega) (by omega)) (by rw [nI_clamp (by omega)]; exact h6 i hi) ?_
  refine v_areturn dJx4a65c_elementData_915e3_6 rfl (Or.inl ⟨_, rfl⟩) ?_
  exact ⟨rfl, rfl⟩
set_option maxRecDepth 20000 in
theorem m_get (g : G0) (h : Hp) {j q n i : Nat} (hj : j < cn h 7) (hA : AL h j q n) (hi : i < n) : Mx g yJx4a65c_get_915e3 wJx4a65c_get_915e3 2 [pR (7, j), pI (nI i)] h 0 0 (qE (some (pR (q, i))) h) noX := by
  refine Mx.by kfJx4a65c_get_915e3 rfl (by decide) (Nat.le_of_ble_eq_true rfl) ?_
  refine v_iload_n dJx4a65c_get_915e3_0 rfl ?_
  refine v_aload_n dJx4a65c_get_915e3_1 rfl ?_
  refine v_getI fl_Jx4a65c_48 dJx4a65c_get_915e3_2 rfl rfl (Nat.le_of_ble_eq_true rfl) hj ?_
  refine v_invSE (m_ochk g h (nI_pos (by have := hA.2.1; omega)) (by rw [hA.1]; exact nI_lt hi (by have := hA.2.1; omega))) dJx4a65c_get_915e3_5 cwJ15_checkIndex_7cf53 mlJx4a65c_118 rfl rfl (by decide) (by decide) (Nat.le_of_ble_eq_true rfl) ?_
  refine v_pop dJx4a65c_get_915e3_8 rfl ?_
  refine v_aload_n dJx4a65c_get_915e3_9 rfl ?_
  refine v_iload_n dJx4a65c_get_915e3_10 rfl ?_
  refine v_invVE (m_elem g h hj hA hi) dJx4a65c_get_915e3_11 cwJx4a65c_elementData_915e3 mlJx4a65c_123 (ob_7 _) rfl rfl (by decide) (by decide) (Nat.le_of_ble_eq_true rfl) ?_
  refine v_areturn dJx4a65c_get_915e3_14 rfl (Or.inl ⟨_, rfl⟩) ?_
  exact ⟨rfl, rfl⟩
set_option maxRecDepth 20000 in
theorem m_newLen (g : G0) (h : Hp) {a b c n : Nat} (hb : 0 < a) (hn : n = a + (if b < c then c else b)) (hbd : n < 100000) : Mx g yJ8_newLength_cabcc wJ8_newLength_cabcc 1 [pI (nI a), pI (nI b), pI (nI c)] h 0 0 (qE (some (pI (nI n))) h) noX := by
  have e1 : nI a + (if nI b < nI c then nI c else nI b) = nI n := by
    by_cases z : b < c
    · rw [if_pos z] at hn
      rw [if_pos (nI_lt z (by omega)), nI_add, hn]
    · rw [if_neg z] at hn
      rw [if_neg (nI_nlt (by omega) (by omega)), nI_add, hn]
  refine Mx.by kfJ8_newLength_cabcc rfl (by decide) (Nat.le_of_ble_eq_true rfl) ?_
  refine v_iload_n dJ8_newLength_cabcc_0 rfl ?_
  refine v_iload_n dJ8_newLength_cabcc_1 rfl ?_
  refine v_iload_n dJ8_newLength_cabcc_2 rfl ?_
  refine v_mmax dJ8_newLength_cabcc_3 mlJ8_194 (by decide) (Nat.le_of_ble_eq_true rfl) ?_
  refine v_iadd dJ8_newLength_cabcc_6 ?_
  rw [e1]
  refine v_istore_n dJ8_newLength_cabcc_7 (by decide) ?_
  refine v_iconst (0) dJ8_newLength_cabcc_8 (by decide) ?_
  refine v_iload_n dJ8_newLength_cabcc_9 rfl ?_
  refine v_icmp_ge 21 dJ8_newLength_cabcc_10 (by decide) (fun z => absurd z (nI_nle (by omega) (by omega))) (fun _ => ?_)
  refine v_iload_n dJ8_newLength_cabcc_13 rfl ?_
  refine v_ldc (2147483639) dJ8_newLength_cabcc_14 ctJ8_200 ?_
  refine v_icmp_gt 21 dJ8_newLength_cabcc_16 (by decide) (fun z => absurd z (show ¬ nI 2147483639 < nI n from nI_nlt (by omega) (by decide))) (fun _ => ?_)
  refine v_iload_n dJ8_newLength_cabcc_19 rfl ?_
  refine v_ireturn dJ8_newLength_cabcc_20 rfl rfl ?_
  exact ⟨rfl, rfl⟩
set_option maxRecDepth 20000 in
theorem m_copyOf3 (g : G0) (h : Hp) {e n N q ci : Nat} {c : vw_C} (hq : pq q ci c) (he : e < cn h 16) (hl : ln h (16, e) = n) (hN : n ≤ N) (hbd : N ≤ 1500) (hel : ∀ i, i < n → ∃ b, vr h (16, e) i = some (q, b)) : Mx g yJ7_copyOf_6403c wJ7_copyOf_6403c 1 [pR (16, e), pI (nI N), pR (68, 0)] h 1 1500 (qE (some (pR (16, cn h 16))) (sRs (nw h 16 N) (16, cn h 16) (fun i => if i < n then vr h (16, e) i else none))) noX := by
  have hne : ((16, e) : Ad) ≠ (16, cn h 16) := fun z => by have := congrArg Prod.snd z; simp at this; omega
  have hcl : (nI N).toNatClampNeg = N := nI_clamp (by omega)
  have hcn : (nI n).toNatClampNeg = n := nI_clamp (by omega)
  refine Mx.by kfJ7_copyOf_6403c rfl (by decide) (Nat.le_of_ble_eq_true rfl) ?_
  refine v_aload_n dJ7_copyOf_6403c_0 rfl ?_
  refine v_ldcM rfl dJ7_copyOf_6403c_1 ?_
  refine v_acmpne_same 13 dJ7_copyOf_6403c_3 (by decide) ?_
  refine v_iload_n dJ7_copyOf_6403c_6 rfl ?_
  refine v_anew 16 0 0 dJ7_copyOf_6403c_7 rfl clJ7_2 (by decide) (by decide) rfl (by decide) (nI_pos (by omega)) (by rw [hcl]; omega) (Nat.le_refl _) (by rw [hcl]; omega) ?_
  rw [hcl]
  refine v_goto 24 dJ7_copyOf_6403c_10 (by decide) ?_
  refine v_astore_n dJ7_copyOf_6403c_24 (by decide) ?_
  refine v_aload_n dJ7_copyOf_6403c_25 rfl ?_
  refine v_iconst (0) dJ7_copyOf_6403c_26 (by decide) ?_
  refine v_aload_n dJ7_copyOf_6403c_27 rfl ?_
  refine v_iconst (0) dJ7_copyOf_6403c_28 (by decide) ?_
  refine v_aload_n dJ7_copyOf_6403c_29 rfl ?_
  refine v_alen dJ7_copyOf_6403c_30 rfl (by decide) (Nat.le_of_ble_eq_true rfl) (show e < cn (nw h 16 N) 16 by rw [cn_nw, if_pos rfl]; omega) ?_
  rw [ln_nw, if_neg hne, hl]
  refine v_iload_n dJ7_copyOf_6403c_31 rfl ?_
  refine v_mmin dJ7_copyOf_6403c_32 mlJ7_304 (by decide) (Nat.le_of_ble_eq_true rfl) ?_
  rw [if_neg (nI_nlt (by omega) (by omega))]
  refine v_copyR (a0 := (16, e)) (a1 := (16, cn h 16)) (sp := 0) (dp := 0) (n := nI n) (ci := ci) (q := c) rfl dJ7_copyOf_6403c_35 rfl rfl ⟨Nat.le_of_ble_eq_true rfl, Nat.le_of_ble_eq_true rfl⟩ (by show e < cn (nw h 16 N) 16; rw [cn_nw, if_pos rfl]; omega) (by show cn h 16 < cn (nw h 16 N) 16; rw [cn_nw, if_pos rfl]; omega) hne (by decide) (by decide) (nI_pos (by omega)) (by rw [cl0, hcn, ln_nw, if_neg hne]; omega) (by rw [cl0, hcn, ln_nw, if_pos rfl]; omega) hq.2.2.1 hq.2.2.2 (fun i hi b hb => ?_) (by decide) (Nat.le_of_ble_eq_true rfl) ?_
  · rw [cl0, Nat.zero_add, vr_nw, if_neg hne] at hb
    rw [hcn] at hi
    obtain ⟨b2, hb2⟩ := hel i hi
    cases hb.symm.trans hb2
    exact ⟨hq.1, hq.2.1⟩
  refine v_aload_n dJ7_copyOf_6403c_38 rfl ?_
  refine v_areturn dJ7_copyOf_6403c_39 rfl (Or.inr ⟨_, rfl⟩) ?_
  refine ⟨rfl, congrArg (sRs _ _) (funext fun i => ?_)⟩
  unfold cpy va_cpy
  rw [cl0, hcn]
  by_cases z : i < n
  · rw [if_pos ⟨Nat.zero_le _, by omega⟩, if_pos z, vr_nw, Nat.zero_add, Nat.sub_zero, if_neg hne]
  · rw [if_neg (fun y => z (by omega)), if_neg z, vr_nw, if_pos rfl]
set_option maxRecDepth 20000 in
theorem m_copyOf (g : G0) (h : Hp) {e n N q ci : Nat} {c : vw_C} (hq : pq q ci c) (he : e < cn h 16) (hl : ln h (16, e) = n) (hN : n ≤ N) (hbd : N ≤ 1500) (hel : ∀ i, i < n → ∃ b, vr h (16, e) i = some (q, b)) : Mx g yJ7_copyOf_1904c wJ7_copyOf_1904c 2 [pR (16, e), pI (nI N)] h 1 1500 (qE (some (pR (16, cn h 16))) (sRs (nw h 16 N) (16, cn h 16) (fun i => if i < n then vr h (16, e) i else none))) noX := by
  refine Mx.by kfJ7_copyOf_1904c rfl (by decide) (Nat.le_of_ble_eq_true rfl) ?_
  refine v_aload_n dJ7_copyOf_1904c_0 rfl ?_
  refine v_iload_n dJ7_copyOf_1904c_1 rfl ?_
  refine v_aload_n dJ7_copyOf_1904c_2 rfl ?_
  refine v_getC rfl dJ7_copyOf_1904c_3 rfl (Nat.le_of_ble_eq_true rfl) he (by decide) (Nat.le_of_ble_eq_true rfl) ?_
  refine v_invS 0 0 (m_copyOf3 g h hq he hl hN hbd hel) dJ7_copyOf_1904c_6 cwJ7_copyOf_6403c mlJ7_300 rfl rfl (by decide) (by decide) (Nat.le_of_ble_eq_true rfl) (Nat.le_refl _) (Nat.le_refl _) (fun r h2 hq2 => ?_) (fun _ _ z => z.elim)
  obtain ⟨rfl, rfl⟩ := hq2
  refine v_areturn dJ7_copyOf_1904c_9 rfl (Or.inr ⟨_, rfl⟩) ?_
  exact ⟨rfl, rfl⟩
set_option maxRecDepth 20000 in
theorem m_growI0 (g : G0) (h : Hp) {j : Nat} (hj : j < cn h 7) (h1 : vr h (7, j) 1 = some (66, 0)) : Mx g yJx4a65c_grow_92f84 wJx4a65c_grow_92f84 3 [pR (7, j), pI 1] h 1 1500 (qE (some (pR (16, cn h 16))) (sR (nw h 16 10) (7, j) 1 (some (16, cn h 16)))) noX := by
  refine Mx.by kfJx4a65c_grow_92f84 rfl (by decide) (Nat.le_of_ble_eq_true rfl) ?_
  refine v_aload_n dJx4a65c_grow_92f84_0 rfl ?_
  refine v_getR (some (66, 0)) fl_Jx4a65c_9 dJx4a65c_grow_92f84_1 rfl rfl (Nat.le_of_ble_eq_true rfl) hj h1 ?_
  refine v_len0 dJx4a65c_grow_92f84_4 ?_
  refine v_istore_n dJx4a65c_grow_92f84_5 (by decide) ?_
  refine v_iload_n dJx4a65c_grow_92f84_6 rfl ?_
  refine v_if_gt 20 dJx4a65c_grow_92f84_7 (by decide) (fun z => absurd z (by decide)) (fun _ => ?_)
  refine v_aload_n dJx4a65c_grow_92f84_10 rfl ?_
  refine v_getR (some (66, 0)) fl_Jx4a65c_9 dJx4a65c_grow_92f84_11 rfl rfl (Nat.le_of_ble_eq_true rfl) hj h1 ?_
  refine v_getst (v := pR (66, 0)) dJx4a65c_grow_92f84_14 (lw_g_in (i := 224) (by decide +kernel) (by decide +kernel)) (fun s hs => hs.2.2.2.1) (fun a z => by cases z <;> decide) ?_
  refine v_acmpeq_same 45 dJx4a65c_grow_92f84_17 (by decide) ?_
  refine v_aload_n dJx4a65c_grow_92f84_45 rfl ?_
  refine v_bipush (10) dJx4a65c_grow_92f84_46 (by decide) ?_
  refine v_iload_n dJx4a65c_grow_92f84_48 rfl ?_
  refine v_mmax dJx4a65c_grow_92f84_49 mlJx4a65c_79 (by decide) (Nat.le_of_ble_eq_true rfl) ?_
  rw [if_neg (show ¬ (10 : Int32) < 1 by decide)]
  refine v_anew 16 0 0 dJx4a65c_grow_92f84_52 rfl clJx4a65c_7 (by decide) (by decide) rfl (by decide) (by decide) (by decide) (Nat.le_of_ble_eq_true rfl) (Nat.le_of_ble_eq_true rfl) ?_
  rw [show (10 : Int32).toNatClampNeg = 10 by decide]
  refine v_dup_x1 dJx4a65c_grow_92f84_55 rfl rfl ?_
  refine v_putR fl_Jx4a65c_9 (fun z => by cases z) dJx4a65c_grow_92f84_56 rfl rfl (Nat.le_of_ble_eq_true rfl) rfl (show j < cn (nw h 16 10) 7 from hj) ?_
  refine v_areturn dJx4a65c_grow_92f84_59 rfl (Or.inr ⟨_, rfl⟩) ?_
  exact ⟨rfl, rfl⟩
set_option maxRecDepth 20000 in
theorem m_growI (g : G0) (h : Hp) {j e n q ci : Nat} {c : vw_C} (hq : pq q ci c) (hj : j < cn h 7) (hA : ALa h j q n e) (hl : ln h (16, e) = n) (hn : n ≤ 1000) : Mx g yJx4a65c_grow_92f84 wJx4a65c_grow_92f84 3 [pR (7, j), pI (nI (n + 1))] h 1 1500 (qE (some (pR (16, cn h 16))) (sR (sRs (nw h 16 (n + n / 2)) (16, cn h 16) (fun i => if i < n then vr h (16, e) i else none)) (7, j) 1 (some (16, cn h 16)))) noX := by
  obtain ⟨h1, h2, h3, h4, h5, h6⟩ := hA
  have e1 : nI (n + 1) - nI n = nI 1 := by rw [pk_sub (by omega)]; congr 1; omega
  have e2 : nI n >>> ((1 : Int32) &&& 31) = nI (n / 2) := by
    have z := pk_shrN (n := n) (by omega) ((1 : Int32) &&& 31) 1 (by decide)
    rw [Nat.pow_one] at z
    exact z
  refine Mx.by kfJx4a65c_grow_92f84 rfl (by decide) (Nat.le_of_ble_eq_true rfl) ?_
  refine v_aload_n dJx4a65c_grow_92f84_0 rfl ?_
  refine v_getR (some (16, e)) fl_Jx4a65c_9 dJx4a65c_grow_92f84_1 rfl rfl (Nat.le_of_ble_eq_true rfl) hj h1 ?_
  refine v_alen dJx4a65c_grow_92f84_4 rfl (by decide) (Nat.le_of_ble_eq_true rfl) h2 ?_
  rw [hl]
  refine v_istore_n dJx4a65c_grow_92f84_5 (by decide) ?_
  refine v_iload_n dJx4a65c_grow_92f84_6 rfl ?_
  refine v_if_gt 20 dJx4a65c_grow_92f84_7 (by decide) (fun _ => ?_) (fun z => absurd (show 0 < nI n from nI_lt (a := 0) (by omega) (by omega)) z)
  refine v_iload_n dJx4a65c_grow_92f84_20 rfl ?_
  refine v_iload_n dJx4a65c_grow_92f84_21 rfl ?_
  refine v_iload_n dJx4a65c_grow_92f84_22 rfl ?_
  refine v_isub dJx4a65c_grow_92f84_23 ?_
  rw [e1]
  refine v_iload_n dJx4a65c_grow_92f84_24 rfl ?_
  refine v_iconst (1) dJx4a65c_grow_92f84_25 (by decide) ?_
  refine v_ishr dJx4a65c_grow_92f84_26 ?_
  rw [e2]
  refine v_invSE (m_newLen g h (n := n + n / 2) (by omega) (by split <;> omega) (by omega)) dJx4a65c_grow_92f84_27 cwJ8_newLength_cabcc mlJx4a65c_73 rfl rfl (by decide) (by decide) (Nat.le_of_ble_eq_true rfl) ?_
  refine v_istore_n dJx4a65c_grow_92f84_30 (by decide) ?_
  refine v_aload_n dJx4a65c_grow_92f84_31 rfl ?_
  refine v_aload_n dJx4a65c_grow_92f84_32 rfl ?_
  refine v_getR (some (16, e)) fl_Jx4a65c_9 dJx4a65c_grow_92f84_33 rfl rfl (Nat.le_of_ble_eq_true rfl) hj h1 ?_
  refine v_iload_n dJx4a65c_grow_92f84_36 rfl ?_
  refine v_invS 0 0 (m_copyOf g h (N := n + n / 2) hq h2 hl (by omega) (by omega) (fun i hi => ⟨i, h6 i hi⟩)) dJx4a65c_grow_92f84_37 cwJ7_copyOf_1904c mlJx4a65c_66 rfl rfl (by decide) (by decide) (Nat.le_of_ble_eq_true rfl) (Nat.le_refl _) (Nat.le_refl _) (fun r h9 hq2 => ?_) (fun _ _ z => z.elim)
  obtain ⟨rfl, rfl⟩ := hq2
  refine v_dup_x1 dJx4a65c_grow_92f84_40 rfl rfl ?_
  refine v_putR fl_Jx4a65c_9 (fun z => by cases z) dJx4a65c_grow_92f84_41 rfl rfl (Nat.le_of_ble_eq_true rfl) rfl (show j < cn (nw h 16 (n + n / 2)) 7 from hj) ?_
  refine v_areturn dJx4a65c_grow_92f84_44 rfl (Or.inr ⟨_, rfl⟩) ?_
  exact ⟨rfl, rfl⟩
set_option maxRecDepth 20000 in
theorem m_grow0 (g : G0) (h : Hp) {j : Nat} (hj : j < cn h 7) (hs : vi h (7, j) 2 = nI 0) (h1 : vr h (7, j) 1 = some (66, 0)) : Mx g yJx4a65c_grow_d5877 wJx4a65c_grow_d5877 4 [pR (7, j)] h 1 1500 (qE (some (pR (16, cn h 16))) (sR (nw h 16 10) (7, j) 1 (some (16, cn h 16)))) noX := by
  refine Mx.by kfJx4a65c_grow_d5877 rfl (by decide) (Nat.le_of_ble_eq_true rfl) ?_
  refine v_aload_n dJx4a65c_grow_d5877_0 rfl ?_
  refine v_aload_n dJx4a65c_grow_d5877_1 rfl ?_
  refine v_getI fl_Jx4a65c_48 dJx4a65c_grow_d5877_2 rfl rfl (Nat.le_of_ble_eq_true rfl) hj ?_
  rw [hs]
  refine v_iconst (1) dJx4a65c_grow_d5877_5 (by decide) ?_
  refine v_iadd dJx4a65c_grow_d5877_6 ?_
  refine v_invV 0 0 (m_growI0 g h hj h1) dJx4a65c_grow_d5877_7 cwJx4a65c_grow_92f84 mlJx4a65c_69 (ob_7 _) rfl rfl (by decide) (by decide) (Nat.le_of_ble_eq_true rfl) (Nat.le_refl _) (Nat.le_refl _) (fun r h9 hq2 => ?_) (fun _ _ z => z.elim)
  obtain ⟨rfl, rfl⟩ := hq2
  refine v_areturn dJx4a65c_grow_d5877_10 rfl (Or.inr ⟨_, rfl⟩) ?_
  exact ⟨rfl, rfl⟩
set_option maxRecDepth 20000 in
theorem m_grow (g : G0) (h : Hp) {j e n q ci : Nat} {c : vw_C} (hq : pq q ci c) (hj : j < cn h 7) (hs : vi h (7, j) 2 = nI n) (hA : ALa h j q n e) (hl : ln h (16, e) = n) (hn : n ≤ 1000) : Mx g yJx4a65c_grow_d5877 wJx4a65c_grow_d5877 4 [pR (7, j)] h 1 1500 (qE (some (pR (16, cn h 16))) (sR (sRs (nw h 16 (n + n / 2)) (16, cn h 16) (fun i => if i < n then vr h (16, e) i else none)) (7, j) 1 (some (16, cn h 16)))) noX := by
  refine Mx.by kfJx4a65c_grow_d5877 rfl (by decide) (Nat.le_of_ble_eq_true rfl) ?_
  refine v_aload_n dJx4a65c_grow_d5877_0 rfl ?_
  refine v_aload_n dJx4a65c_grow_d5877_1 rfl ?_
  refine v_getI fl_Jx4a65c_48 dJx4a65c_grow_d5877_2 rfl rfl (Nat.le_of_ble_eq_true rfl) hj ?_
  rw [hs]
  refine v_iconst (1) dJx4a65c_grow_d5877_5 (by decide) ?_
  refine v_iadd dJx4a65c_grow_d5877_6 ?_
  rw [nI_1]
  refine v_invV 0 0 (m_growI g h hq hj hA hl hn) dJx4a65c_grow_d5877_7 cwJx4a65c_grow_92f84 mlJx4a65c_69 (ob_7 _) rfl rfl (by decide) (by decide) (Nat.le_of_ble_eq_true rfl) (Nat.le_refl _) (Nat.le_refl _) (fun r h9 hq2 => ?_) (fun _ _ z => z.elim)
  obtain ⟨rfl, rfl⟩ := hq2
  refine v_areturn dJx4a65c_grow_d5877_10 rfl (Or.inr ⟨_, rfl⟩) ?_
  exact ⟨rfl, rfl⟩
/-- what an added thing leaves as it was -/
def AddF (h h' : Hp) (j : Nat) : Prop := (∀ p, p ≠ 16 → cn h' p = cn h p) ∧ cn h 16 ≤ cn h' 16 ∧ (∀ a : Ad, (a.1 ≠ 16 ∨ a.2 < cn h 16) → ln h' a = ln h a) ∧ (∀ (a : Ad) k, a ≠ (7, j) → a.1 ≠ 16 → vi h' a k = vi h a k) ∧ (∀ (a : Ad) k, a.1 ≠ 16 → vl h' a k = vl h a k) ∧ (∀ (a : Ad) k, a.1 ≠ 16 → a ≠ (7, j) → vr h' a k = vr h a k) ∧
  (∀ e, e < cn h 16 → vr h (7, j) 1 ≠ some (16, e) → ∀ k, vr h' (16, e) k = vr h (16, e) k) ∧ ∀ e, vr h' (7, j) 1 = some (16, e) → e = cn h 16 ∨ vr h (7, j) 1 = some (16, e)
set_option maxRecDepth 20000 in
theorem m_add3 (g : G0) (h : Hp) {j n q ci : Nat} {o : Option Ad} {c : vw_C} (hq : pq q ci c) (hj : j < cn h 7) (hA : AL h j q n) (hn : n ≤ 900) (ho : vr h (7, j) 1 = o) : Mx g yJx4a65c_add_72be8 wJx4a65c_add_72be8 5 [pR (7, j), pR (q, n), pO o, pI (nI n)] h 1 1500 (fun r h' => r = none ∧ AL h' j q (n + 1) ∧ AddF h h' j) noX := by
  refine Mx.by kfJx4a65c_add_72be8 rfl (by decide) (Nat.le_of_ble_eq_true rfl) ?_
  obtain ⟨hs, hn0, hA⟩ := hA
  have ncl : (nI n).toNatClampNeg = n := nI_clamp (by omega)
  have n7 : ∀ x y : Nat, ((16, x) : Ad) ≠ (7, y) := fun x y z => by cases z
  have n16 : ∀ x y : Nat, ((7, x) : Ad) ≠ (16, y) := fun x y z => by cases z
  rcases hA with ⟨rfl, h1⟩ | ⟨e, hA⟩
  · obtain rfl : o = some (66, 0) := ho.symm.trans h1
    refine v_iload_n dJx4a65c_add_72be8_0 rfl ?_
    refine v_aload_n dJx4a65c_add_72be8_1 rfl ?_
    refine v_len0 dJx4a65c_add_72be8_2 ?_
    refine v_icmp_ne 11 dJx4a65c_add_72be8_3 (by decide) (fun z => absurd rfl z) (fun _ => ?_)
    refine v_aload_n dJx4a65c_add_72be8_6 rfl ?_
    refine v_invV 0 0 (m_grow0 g h hj hs h1) dJx4a65c_add_72be8_7 cwJx4a65c_grow_d5877 mlJx4a65c_129 (ob_7 _) rfl rfl (by decide) (by decide) (Nat.le_of_ble_eq_true rfl) (Nat.le_refl _) (Nat.le_refl _) (fun r h9 hq2 => ?_) (fun _ _ z => z.elim)
    obtain ⟨rfl, rfl⟩ := hq2
    refine v_astore_n dJx4a65c_add_72be8_10 (by decide) ?_
    refine v_aload_n dJx4a65c_add_72be8_11 rfl ?_
    refine v_iload_n dJx4a65c_add_72be8_12 rfl ?_
    refine v_aload_n dJx4a65c_add_72be8_13 rfl ?_
    refine v_aast dJx4a65c_add_72be8_14 rfl (by decide) (by decide) rfl (Nat.le_of_ble_eq_true rfl) (fun b hb => by cases hb; exact ⟨hq.1, ci, c, hq.2.1, hq.2.2.1, Or.inl hq.2.2.2⟩) (show cn h 16 < cn (nw h 16 10) 16 by rw [cn_nw, if_pos rfl]; omega) (vp_in_nI (show 0 < ln (nw h 16 10) (16, cn h 16) by rw [ln_nw, if_pos rfl]; decide) (show ln (nw h 16 10) (16, cn h 16) < 2 ^ 31 by rw [ln_nw, if_pos rfl]; decide)) ?_
    refine v_aload_n dJx4a65c_add_72be8_15 rfl ?_
    refine v_iload_n dJx4a65c_add_72be8_16 rfl ?_
    refine v_iconst (1) dJx4a65c_add_72be8_17 (by decide) ?_
    refine v_iadd dJx4a65c_add_72be8_18 ?_
    rw [nI_1]
    refine v_putI fl_Jx4a65c_48 (fun z => by cases z) dJx4a65c_add_72be8_19 rfl rfl (Nat.le_of_ble_eq_true rfl) rfl rfl (show j < cn (nw h 16 10) 7 from hj) ?_
    refine v_return dJx4a65c_add_72be8_22 rfl ?_
    rw [ncl]
    refine ⟨rfl, ⟨by rw [vi_sI, if_pos ⟨rfl, rfl⟩], by omega, Or.inr ⟨cn h 16, ?_⟩⟩, ?_⟩
    · refine ⟨?_, ?_, ?_, ?_, ?_, fun i hi => ?_⟩
      · rw [vr_sI, vr_sR, if_neg (fun z => n16 _ _ z.1), vr_sR, if_pos ⟨rfl, rfl⟩]
      · show cn h 16 < cn (nw h 16 10) 16; rw [cn_nw, if_pos rfl]; omega
      · show _ ≤ ln (nw h 16 10) (16, cn h 16); rw [ln_nw, if_pos rfl]; decide
      · show _ ≤ ln (nw h 16 10) (16, cn h 16); rw [ln_nw, if_pos rfl]; decide
      · show ln (nw h 16 10) (16, cn h 16) ≤ _; rw [ln_nw, if_pos rfl]; decide
      · obtain rfl : i = 0 := by omega
        rw [vr_sI, vr_sR, if_pos ⟨rfl, rfl⟩]
    · refine ⟨fun p hp => ?_, ?_, fun a ha => ?_, fun a k hk hk2 => ?_, fun a k hk => ?_, fun a k hk hk2 => ?_, fun e he hne k => ?_, fun e he => ?_⟩
      · show cn (nw h 16 10) p = _; rw [cn_nw, if_neg hp]
      · show _ ≤ cn (nw h 16 10) 16; rw [cn_nw, if_pos rfl]; omega
      · show ln (nw h 16 10) a = _; rw [ln_nw, if_neg (fun z => ?_)]; rw [z] at ha; simp at ha
      · rw [vi_sI, if_neg (fun z => hk z.1)]; show vi (nw h 16 10) a k = _; rw [vi_nw, if_neg (fun z => hk2 (by rw [z]))]
      · show vl (nw h 16 10) a k = _; rw [vl_nw, if_neg (fun z => hk (by rw [z]))]
      · rw [vr_sI, vr_sR, if_neg (fun z => hk (by rw [z.1])), vr_sR, if_neg (fun z => hk2 z.1), vr_nw, if_neg (fun z => hk (by rw [z]))]
      · have hne2 : ((16, e) : Ad) ≠ (16, cn h 16) := fun z => by have := congrArg Prod.snd z; simp at this; omega
        rw [vr_sI, vr_sR, if_neg (fun z => hne2 z.1), vr_sR, if_neg (fun z => n7 _ _ z.1), vr_nw, if_neg hne2]
      · rw [vr_sI, vr_sR, if_neg (fun z => n16 _ _ z.1), vr_sR, if_pos ⟨rfl, rfl⟩] at he
        cases he; exact Or.inl rfl
  · have hA2 := hA
    obtain ⟨h1, h2, h3, h4, h5, h6⟩ := hA
    obtain rfl : o = some (16, e) := ho.symm.trans h1
    by_cases hfull : ln h (16, e) = n
    · have hneC : ((16, e) : Ad) ≠ (16, cn h 16) := fun z => by have := congrArg Prod.snd z; simp at this; omega
      refine v_iload_n dJx4a65c_add_72be8_0 rfl ?_
      refine v_aload_n dJx4a65c_add_72be8_1 rfl ?_
      refine v_alen dJx4a65c_add_72be8_2 rfl (by decide) (Nat.le_of_ble_eq_true rfl) h2 ?_
      rw [hfull]
      refine v_icmp_ne 11 dJx4a65c_add_72be8_3 (by decide) (fun z => absurd rfl z) (fun _ => ?_)
      refine v_aload_n dJx4a65c_add_72be8_6 rfl ?_
      refine v_invV 0 0 (m_grow g h hq hj hs hA2 hfull hn0) dJx4a65c_add_72be8_7 cwJx4a65c_grow_d5877 mlJx4a65c_129 (ob_7 _) rfl rfl (by decide) (by decide) (Nat.le_of_ble_eq_true rfl) (Nat.le_refl _) (Nat.le_refl _) (fun r h9 hq2 => ?_) (fun _ _ z => z.elim)
      obtain ⟨rfl, rfl⟩ := hq2
      refine v_astore_n dJx4a65c_add_72be8_10 (by decide) ?_
      refine v_aload_n dJx4a65c_add_72be8_11 rfl ?_
      refine v_iload_n dJx4a65c_add_72be8_12 rfl ?_
      refine v_aload_n dJx4a65c_add_72be8_13 rfl ?_
      refine v_aast dJx4a65c_add_72be8_14 rfl (by decide) (by decide) rfl (Nat.le_of_ble_eq_true rfl) (fun b hb => by cases hb; exact ⟨hq.1, ci, c, hq.2.1, hq.2.2.1, Or.inl hq.2.2.2⟩) (show cn h 16 < cn (nw h 16 (n + n / 2)) 16 by rw [cn_nw, if_pos rfl]; omega) (vp_in_nI (show n < ln (nw h 16 (n + n / 2)) (16, cn h 16) by rw [ln_nw, if_pos rfl]; omega) (show ln (nw h 16 (n + n / 2)) (16, cn h 16) < 2 ^ 31 by rw [ln_nw, if_pos rfl]; omega)) ?_
      refine v_aload_n dJx4a65c_add_72be8_15 rfl ?_
      refine v_iload_n dJx4a65c_add_72be8_16 rfl ?_
      refine v_iconst (1) dJx4a65c_add_72be8_17 (by decide) ?_
      refine v_iadd dJx4a65c_add_72be8_18 ?_
      rw [nI_1]
      refine v_putI fl_Jx4a65c_48 (fun z => by cases z) dJx4a65c_add_72be8_19 rfl rfl (Nat.le_of_ble_eq_true rfl) rfl rfl (show j < cn (nw h 16 (n + n / 2)) 7 from hj) ?_
      refine v_return dJx4a65c_add_72be8_22 rfl ?_
      rw [ncl]
      refine ⟨rfl, ⟨by rw [vi_sI, if_pos ⟨rfl, rfl⟩], by omega, Or.inr ⟨cn h 16, ?_⟩⟩, ?_⟩
      · refine ⟨?_, ?_, ?_, ?_, ?_, fun i hi => ?_⟩
        · rw [vr_sI, vr_sR, if_neg (fun z => n16 _ _ z.1), vr_sR, if_pos ⟨rfl, rfl⟩]
        · show cn h 16 < cn (nw h 16 (n + n / 2)) 16; rw [cn_nw, if_pos rfl]; omega
        · show _ ≤ ln (nw h 16 (n + n / 2)) (16, cn h 16); rw [ln_nw, if_pos rfl]; omega
        · show _ ≤ ln (nw h 16 (n + n / 2)) (16, cn h 16); rw [ln_nw, if_pos rfl]; omega
        · show ln (nw h 16 (n + n / 2)) (16, cn h 16) ≤ _; rw [ln_nw, if_pos rfl]; omega
        · rw [vr_sI, vr_sR]
          by_cases z : i = n
          · rw [if_pos ⟨rfl, z⟩, z]
          · rw [if_neg (fun y => z y.2), vr_sR, if_neg (fun y => n7 _ _ y.1), vr_sRs, if_pos rfl, if_pos (by omega)]
            exact h6 i (by omega)
      · refine ⟨fun p hp => ?_, ?_, fun a ha => ?_, fun a k hk hk2 => ?_, fun a k hk => ?_, fun a k hk hk2 => ?_, fun e2 he hne k => ?_, fun e2 he => ?_⟩
        · show cn (nw h 16 (n + n / 2)) p = _; rw [cn_nw, if_neg hp]
        · show _ ≤ cn (nw h 16 (n + n / 2)) 16; rw [cn_nw, if_pos rfl]; omega
        · show ln (nw h 16 (n + n / 2)) a = _; rw [ln_nw, if_neg (fun z => ?_)]; rw [z] at ha; simp at ha
        · rw [vi_sI, if_neg (fun z => hk z.1)]; show vi (nw h 16 (n + n / 2)) a k = _; rw [vi_nw, if_neg (fun z => hk2 (by rw [z]))]
        · show vl (nw h 16 (n + n / 2)) a k = _; rw [vl_nw, if_neg (fun z => hk (by rw [z]))]
        · rw [vr_sI, vr_sR, if_neg (fun z => hk (by rw [z.1])), vr_sR, if_neg (fun z => hk2 z.1), vr_sRs, if_neg (fun z => hk (by rw [z])), vr_nw, if_neg (fun z => hk (by rw [z]))]
        · have hne2 : ((16, e2) : Ad) ≠ (16, cn h 16) := fun z => by have := congrArg Prod.snd z; simp at this; omega
          rw [vr_sI, vr_sR, if_neg (fun z => hne2 z.1), vr_sR, if_neg (fun z => n7 _ _ z.1), vr_sRs, if_neg hne2, vr_nw, if_neg hne2]
        · rw [vr_sI, vr_sR, if_neg (fun z => n16 _ _ z.1), vr_sR, if_pos ⟨rfl, rfl⟩] at he
          cases he; exact Or.inl rfl
    · have hlt : n < ln h (16, e) := by omega
      refine v_iload_n dJx4a65c_add_72be8_0 rfl ?_
      refine v_aload_n dJx4a65c_add_72be8_1 rfl ?_
      refine v_alen dJx4a65c_add_72be8_2 rfl (by decide) (Nat.le_of_ble_eq_true rfl) h2 ?_
      refine v_icmp_ne 11 dJx4a65c_add_72be8_3 (by decide) (fun _ => ?_) (fun z => absurd z (fun z => hfull ((nI_eq (by omega) (by omega)).mp z.symm)))
      refine v_aload_n dJx4a65c_add_72be8_11 rfl ?_
      refine v_iload_n dJx4a65c_add_72be8_12 rfl ?_
      refine v_aload_n dJx4a65c_add_72be8_13 rfl ?_
      refine v_aast dJx4a65c_add_72be8_14 rfl (by decide) (by decide) rfl (Nat.le_of_ble_eq_true rfl) (fun b hb => by cases hb; exact ⟨hq.1, ci, c, hq.2.1, hq.2.2.1, Or.inl hq.2.2.2⟩) h2 (vp_in_nI hlt (by omega)) ?_
      refine v_aload_n dJx4a65c_add_72be8_15 rfl ?_
      refine v_iload_n dJx4a65c_add_72be8_16 rfl ?_
      refine v_iconst (1) dJx4a65c_add_72be8_17 (by decide) ?_
      refine v_iadd dJx4a65c_add_72be8_18 ?_
      rw [nI_1]
      refine v_putI fl_Jx4a65c_48 (fun z => by cases z) dJx4a65c_add_72be8_19 rfl rfl (Nat.le_of_ble_eq_true rfl) rfl rfl hj ?_
      refine v_return dJx4a65c_add_72be8_22 rfl ?_
      rw [ncl]
      refine ⟨rfl, ⟨by rw [vi_sI, if_pos ⟨rfl, rfl⟩], by omega, Or.inr ⟨e, ?_⟩⟩, ?_⟩
      · refine ⟨?_, h2, hlt, h4, h5, fun i hi => ?_⟩
        · rw [vr_sI, vr_sR, if_neg (fun z => n16 _ _ z.1)]; exact h1
        · rw [vr_sI, vr_sR]
          by_cases z : i = n
          · rw [if_pos ⟨rfl, z⟩, z]
          · rw [if_neg (fun y => z y.2)]; exact h6 i (by omega)
      · refine ⟨fun p hp => rfl, Nat.le_refl _, fun a ha => rfl, fun a k hk hk2 => ?_, fun a k hk => rfl, fun a k hk hk2 => ?_, fun e2 he hne k => ?_, fun e2 he => ?_⟩
        · rw [vi_sI, if_neg (fun z => hk z.1)]; rfl
        · rw [vr_sI, vr_sR, if_neg (fun z => hk (by rw [z.1]))]
        · rw [vr_sI, vr_sR, if_neg (fun z => hne (by rw [z.1]; exact h1))]
        · rw [vr_sI, vr_sR, if_neg (fun z => n16 _ _ z.1)] at he
          exact Or.inr he
set_option maxRecDepth 20000 in
theorem m_add (g : G0) (h : Hp) {j n q ci : Nat} {c : vw_C} (hq : pq q ci c) (hj : j < cn h 7) (hA : AL h j q n) (hn : n ≤ 900) : Mx g yJx4a65c_add_9ea2d wJx4a65c_add_9ea2d 6 [pR (7, j), pR (q, n)] h 1 1500 (fun r h' => r = some (pI 1) ∧ AL h' j q (n + 1) ∧ AddF h h' j) noX := by
  have hA1 : AL (sI h (7, j) 0 (vi h (7, j) 0 + 1)) j q n := ⟨by rw [vi_sI, if_neg (fun z => by cases z.2)]; exact hA.1, hA.2.1, hA.2.2⟩
  refine Mx.by kfJx4a65c_add_9ea2d rfl (by decide) (Nat.le_of_ble_eq_true rfl) ?_
  refine v_aload_n dJx4a65c_add_9ea2d_0 rfl ?_
  refine v_dup dJx4a65c_add_9ea2d_1 rfl ?_
  refine v_getI fl_Jx4a65c_63 dJx4a65c_add_9ea2d_2 rfl rfl (Nat.le_of_ble_eq_true rfl) hj ?_
  refine v_iconst (1) dJx4a65c_add_9ea2d_5 (by decide) ?_
  refine v_iadd dJx4a65c_add_9ea2d_6 ?_
  refine v_putI fl_Jx4a65c_63 (fun z => by cases z) dJx4a65c_add_9ea2d_7 rfl rfl (Nat.le_of_ble_eq_true rfl) rfl rfl hj ?_
  refine v_aload_n dJx4a65c_add_9ea2d_10 rfl ?_
  refine v_aload_n dJx4a65c_add_9ea2d_11 rfl ?_
  refine v_aload_n dJx4a65c_add_9ea2d_12 rfl ?_
  refine v_getR (_) fl_Jx4a65c_9 dJx4a65c_add_9ea2d_13 rfl rfl (Nat.le_of_ble_eq_true rfl) hj rfl ?_
  refine v_aload_n dJx4a65c_add_9ea2d_16 rfl ?_
  refine v_getI fl_Jx4a65c_48 dJx4a65c_add_9ea2d_17 rfl rfl (Nat.le_of_ble_eq_true rfl) hj ?_
  rw [hA1.1]
  refine v_invV 0 0 (m_add3 g (sI h (7, j) 0 (vi h (7, j) 0 + 1)) hq hj hA1 hn rfl) dJx4a65c_add_9ea2d_20 cwJx4a65c_add_72be8 mlJx4a65c_131 (ob_7 _) rfl rfl (by decide) (by decide) (Nat.le_of_ble_eq_true rfl) (Nat.le_refl _) (Nat.le_refl _) (fun r h9 hq2 => ?_) (fun _ _ z => z.elim)
  obtain ⟨rfl, hB, hF⟩ := hq2
  refine v_iconst (1) dJx4a65c_add_9ea2d_23 (by decide) ?_
  refine v_ireturn dJx4a65c_add_9ea2d_24 rfl rfl ?_
  refine ⟨rfl, hB, hF.1, hF.2.1, hF.2.2.1, fun a k hk hk2 => (hF.2.2.2.1 a k hk hk2).trans ?_, hF.2.2.2.2⟩
  rw [vi_sI, if_neg (fun z => hk z.1)]
