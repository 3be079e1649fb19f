theorem m_coder (g : G0) (h : Hp) {j : Nat} (hj : j < 11) : Mx g yJ0_coder_7d493 wJ0_coder_7d493 0 [pR (64, j)] h 0 0 (qE (some (pI 0)) h) noX := by
  refine Mx.by kfJ0_coder_7d493 rfl (by decide) (Nat.le_of_ble_eq_true rfl) ?_
  refine v_getst (v := pI 1) dJ0_coder_7d493_0 (lw_g_in (i := 423) (by decide +kernel) (by decide +kernel)) (fun s hs => hs.2.2.1) (fun a z => by cases z <;> decide) ?_
  refine v_if_eq 13 dJ0_coder_7d493_3 (by decide) (fun z => absurd z (by decide)) (fun _ => ?_)
  refine v_aload_n dJ0_coder_7d493_6 rfl ?_
  refine v_strCod dJ0_coder_7d493_7 (lw_g_in (i := 1663) (by decide +kernel) (by decide +kernel)) hj ?_
  refine v_goto 14 dJ0_coder_7d493_10 (by decide) ?_
  refine v_ireturn dJ0_coder_7d493_14 rfl rfl ?_
  exact ⟨rfl, rfl⟩
theorem m_isLatin1 (g : G0) (h : Hp) {j : Nat} (hj : j < 11) : Mx g yJ0_isLatin1_aae02 wJ0_isLatin1_aae02 0 [pR (64, j)] h 0 0 (qE (some (pI 1)) h) noX := by
  refine Mx.by kfJ0_isLatin1_aae02 rfl (by decide) (Nat.le_of_ble_eq_true rfl) ?_
  refine v_getst (v := pI 1) dJ0_isLatin1_aae02_0 (lw_g_in (i := 423) (by decide +kernel) (by decide +kernel)) (fun s hs => hs.2.2.1) (fun a z => by cases z <;> decide) ?_
  refine v_if_eq 17 dJ0_isLatin1_aae02_3 (by decide) (fun z => absurd z (by decide)) (fun _ => ?_)
  refine v_aload_n dJ0_isLatin1_aae02_6 rfl ?_
  refine v_strCod dJ0_isLatin1_aae02_7 (lw_g_in (i := 1663) (by decide +kernel) (by decide +kernel)) hj ?_
  refine v_if_ne 17 dJ0_isLatin1_aae02_10 (by decide) (fun z => absurd rfl z) (fun _ => ?_)
  refine v_iconst (1) dJ0_isLatin1_aae02_13 (by decide) ?_
  refine v_goto 18 dJ0_isLatin1_aae02_14 (by decide) ?_
  refine v_ireturn dJ0_isLatin1_aae02_18 rfl rfl ?_
  exact ⟨rfl, rfl⟩
theorem lenS_ok : ∀ j, j < 11 → nI (lenS.getD j 0) >>> ((0 : Int32) &&& 31) = nI (lenS.getD j 0) ∧ lenS.getD j 0 < 9 := by decide +kernel
theorem m_strlen (g : G0) (h : Hp) {j : Nat} (hj : j < 11) : Mx g yJ0_length_8abf5 wJ0_length_8abf5 1 [pR (64, j)] h 0 0 (qE (some (pI (nI (lenS.getD j 0)))) h) noX := by
  refine Mx.by kfJ0_length_8abf5 rfl (by decide) (Nat.le_of_ble_eq_true rfl) ?_
  refine v_aload_n dJ0_length_8abf5_0 rfl ?_
  refine v_strVal dJ0_length_8abf5_1 (lw_g_in (i := 1662) (by decide +kernel) (by decide +kernel)) hj ?_
  refine v_strLen dJ0_length_8abf5_4 hj ?_
  refine v_aload_n dJ0_length_8abf5_5 rfl ?_
  refine v_invStr (m_coder g h hj) dJ0_length_8abf5_6 cwJ0_coder_7d493 mlJ0_335 rfl hj rfl rfl (by decide) (by decide) (Nat.le_of_ble_eq_true rfl) ?_
  refine v_ishr dJ0_length_8abf5_9 ?_
  refine v_ireturn dJ0_length_8abf5_10 rfl rfl ?_
  exact ⟨by rw [(lenS_ok j hj).1], rfl⟩
theorem m_pchk (g : G0) (h : Hp) {i n : Int32} {o : Option Ad} (h0 : ¬ i < 0) (h1 : i < n) : Mx g yJ3_checkIndex_8e157 wJ3_checkIndex_8e157 0 [pI i, pI n, pO o] h 0 0 (qE (some (pI i)) h) noX := by
  refine Mx.by kfJ3_checkIndex_8e157 rfl (by decide) (Nat.le_of_ble_eq_true rfl) ?_
  refine v_iload_n dJ3_checkIndex_8e157_0 rfl ?_
  refine v_if_lt 9 dJ3_checkIndex_8e157_1 (by decide) (fun z => absurd z h0) (fun _ => ?_)
  refine v_iload_n dJ3_checkIndex_8e157_4 rfl ?_
  refine v_iload_n dJ3_checkIndex_8e157_5 rfl ?_
  refine v_icmp_lt 16 dJ3_checkIndex_8e157_6 (by decide) (fun _ => ?_) (fun z => absurd h1 z)
  refine v_iload_n dJ3_checkIndex_8e157_16 rfl ?_
  refine v_ireturn dJ3_checkIndex_8e157_17 rfl rfl ?_
  exact ⟨rfl, rfl⟩
theorem m_ochk (g : G0) (h : Hp) {i n : Int32} (h0 : ¬ i < 0) (h1 : i < n) : Mx g yJ15_checkIndex_7cf53 wJ15_checkIndex_7cf53 1 [pI i, pI n] h 0 0 (qE (some (pI i)) h) noX := by
  refine Mx.by kfJ15_checkIndex_7cf53 rfl (by decide) (Nat.le_of_ble_eq_true rfl) ?_
  refine v_iload_n dJ15_checkIndex_7cf53_0 rfl ?_
  refine v_iload_n dJ15_checkIndex_7cf53_1 rfl ?_
  refine v_null dJ15_checkIndex_7cf53_2 ?_
  refine v_invSE (m_pchk g h (o := none) h0 h1) dJ15_checkIndex_7cf53_3 cwJ3_checkIndex_8e157 mlJ15_105 rfl rfl (by decide) (by decide) (Nat.le_of_ble_eq_true rfl) ?_
  refine v_ireturn dJ15_checkIndex_7cf53_6 rfl rfl ?_
  exact ⟨rfl, rfl⟩
theorem m_schk (g : G0) (h : Hp) {i n : Int32} (h0 : ¬ i < 0) (h1 : i < n) : Mx g yJ0_checkIndex_df160 wJ0_checkIndex_df160 1 [pI i, pI n] h 0 0 (qE none h) noX := by
  refine Mx.by kfJ0_checkIndex_df160 rfl (by decide) (Nat.le_of_ble_eq_true rfl) ?_
  refine v_iload_n dJ0_checkIndex_df160_0 rfl ?_
  refine v_iload_n dJ0_checkIndex_df160_1 rfl ?_
  refine v_getst (v := pO (gN g 0)) dJ0_checkIndex_df160_2 (lw_g_in (i := 439) (by decide +kernel) (by decide +kernel)) (fun s hs => hs.2.2.2.2.2.1) (fun a z => ?_) ?_
  · unfold gN at z; split at z <;> cases z; exact Nat.le_of_ble_eq_true rfl
  refine v_invSE (m_pchk g h (o := gN g 0) h0 h1) dJ0_checkIndex_df160_5 cwJ3_checkIndex_8e157 mlJ0_1059 rfl rfl (by decide) (by decide) (Nat.le_of_ble_eq_true rfl) ?_
  refine v_pop dJ0_checkIndex_df160_8 rfl ?_
  refine v_return dJ0_checkIndex_df160_9 rfl ?_
  exact ⟨rfl, rfl⟩
/-- the sign at k of text j -/
def chS (j k : Nat) : Int32 := (bytS.getD j []).getD k 0
theorem chS_ok : ∀ j, j < 11 → ∀ k, k < lenS.getD j 0 → (((bytS.getD j []).getD k 0 &&& 255).toUInt32 % 65536).toInt32 = (bytS.getD j []).getD k 0 ∧ narrow .char (.int ((bytS.getD j []).getD k 0)) = .int ((bytS.getD j []).getD k 0) := by decide +kernel
theorem m_lat (g : G0) (h : Hp) {j k : Nat} (hj : j < 11) (hk : k < lenS.getD j 0) : Mx g yJ1_charAt_3b067 wJ1_charAt_3b067 2 [pR (65, j), pI (nI k)] h 0 0 (qE (some (pI ((bytS.getD j []).getD k 0))) h) noX := by
  refine Mx.by kfJ1_charAt_3b067 rfl (by decide) (Nat.le_of_ble_eq_true rfl) ?_
  refine v_iload_n dJ1_charAt_3b067_0 rfl ?_
  refine v_aload_n dJ1_charAt_3b067_1 rfl ?_
  refine v_strLen dJ1_charAt_3b067_2 hj ?_
  refine v_invSE (m_schk g h (nI_pos (by have := (lenS_ok j hj).2; omega)) (nI_lt hk (by have := (lenS_ok j hj).2; omega))) dJ1_charAt_3b067_3 cwJ0_checkIndex_df160 mlJ1_9 rfl rfl (by decide) (by decide) (Nat.le_of_ble_eq_true rfl) ?_
  refine v_aload_n dJ1_charAt_3b067_6 rfl ?_
  refine v_iload_n dJ1_charAt_3b067_7 rfl ?_
  refine v_strAt dJ1_charAt_3b067_8 hj (vp_in_nI hk (by have := (lenS_ok j hj).2; omega)) ?_
  rw [nI_clamp (by have := (lenS_ok j hj).2; omega)]
  refine v_sipush (255) dJ1_charAt_3b067_9 (by decide) ?_
  refine v_iand dJ1_charAt_3b067_12 ?_
  refine v_i2c dJ1_charAt_3b067_13 ?_
  refine v_ireturn dJ1_charAt_3b067_14 rfl (by rw [(chS_ok j hj k hk).1]; exact (chS_ok j hj k hk).2) ?_
  exact ⟨by rw [(chS_ok j hj k hk).1], rfl⟩
theorem m_charAt (g : G0) (h : Hp) {j k : Nat} (hj : j < 11) (hk : k < lenS.getD j 0) : Mx g yJ0_charAt_5068e wJ0_charAt_5068e 3 [pR (64, j), pI (nI k)] h 0 0 (qE (some (pI ((bytS.getD j []).getD k 0))) h) noX := by
  refine Mx.by kfJ0_charAt_5068e rfl (by decide) (Nat.le_of_ble_eq_true rfl) ?_
  refine v_aload_n dJ0_charAt_5068e_0 rfl ?_
  refine v_invStr (m_isLatin1 g h hj) dJ0_charAt_5068e_1 cwJ0_isLatin1_aae02 mlJ0_492 rfl hj rfl rfl (by decide) (by decide) (Nat.le_of_ble_eq_true rfl) ?_
  refine v_if_eq 16 dJ0_charAt_5068e_4 (by decide) (fun z => absurd z (by decide)) (fun _ => ?_)
  refine v_aload_n dJ0_charAt_5068e_7 rfl ?_
  refine v_strVal dJ0_charAt_5068e_8 (lw_g_in (i := 1662) (by decide +kernel) (by decide +kernel)) hj ?_
  refine v_iload_n dJ0_charAt_5068e_11 rfl ?_
  refine v_invSE (m_lat g h hj hk) dJ0_charAt_5068e_12 cwJ1_charAt_3b067 mlJ0_495 rfl rfl (by decide) (by decide) (Nat.le_of_ble_eq_true rfl) ?_
  refine v_ireturn dJ0_charAt_5068e_15 rfl (chS_ok j hj k hk).2 ?_
  exact ⟨rfl, rfl⟩
