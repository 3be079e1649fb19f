theorem nI_mul (a b : Nat) : nI a * nI b = nI (a * b) := (Int32.ofNat_mul a b).symm
def mML (h : Hp) (day : Int32) : Nat → Nat → Int32 → Int32
  | 0, _, b => b
  | j + 1, k, b => if day < vi h (38, 8) k then mML h day j (k + 1) b else if b = -1 then mML h day j (k + 1) (nI k) else if vi h (38, 8) k < vi h (38, 8) b.toNatClampNeg then mML h day j (k + 1) b else mML h day j (k + 1) (nI k)
def mMean (h : Hp) (p : Nat) (day : Int32) : Int32 := if mML h day (vi h (38, 7) p).toNatClampNeg (6 * p) (-1) = -1 then 0 else vi h (38, 9) (mML h day (vi h (38, 7) p).toNatClampNeg (6 * p) (-1)).toNatClampNeg
def mFc (h : Hp) (p k : Nat) (day : Int32) : Int32 := match k with
  | 0 => if vi h (38, 0) p ≤ day then (day - vi h (38, 0) p) / 365 else 0
  | 1 => if vi h (38, 1) p ≤ day then (day - vi h (38, 1) p) / 365 else 0
  | 2 => mMean h p day
  | 3 => if vi h (39, 0) p = 0 then 0 else 1
  | _ => if 0 < day - vi h (38, 2) p then day - vi h (38, 2) p else 0
set_option maxRecDepth 20000 in
theorem M_factOf0 (g : G0) (h : Hp) (hM : SM h) {p : Nat} (hp : p < 40) {day : Int32} : Mx g yX14_factOf wX14_factOf 1 [pR (32, 0), pI (nI p), pI day, pI (nI 0)] h 0 0 (qE (some (pI (mFc h p 0 day))) h) noX := by
  have ncl : (nI p).toNatClampNeg = p := nI_clamp (by omega)
  refine Mx.by kfX14_factOf rfl (by decide) (Nat.le_of_ble_eq_true rfl) ?_
  refine v_iload_n dX14_factOf_0 rfl ?_
  refine v_tableIn 32 dX14_factOf_1 (by decide) (by decide) (by rfl) (by decide) ?_
  refine v_iload_n dX14_factOf_32 rfl ?_
  refine v_aload_n dX14_factOf_33 rfl ?_
  refine v_getR (some (38, 0)) fl_X14_35 dX14_factOf_34 rfl rfl (Nat.le_of_ble_eq_true rfl) (mh_32_0 hM) (mr_32_0_24 hM) ?_
  refine v_iload_n dX14_factOf_37 rfl ?_
  refine v_iald dX14_factOf_38 rfl (Nat.le_of_ble_eq_true rfl) (mh_38_0 hM) (by rw [ml_38_0 hM]; exact vp_in_nI hp (by decide)) ?_
  rw [ncl]
  refine v_icmp_ge 46 dX14_factOf_39 (by decide) (fun c39 => ?_) (fun c39 => ?_)
  · refine v_iload_n dX14_factOf_46 rfl ?_
    refine v_aload_n dX14_factOf_47 rfl ?_
    refine v_getR (some (38, 0)) fl_X14_35 dX14_factOf_48 rfl rfl (Nat.le_of_ble_eq_true rfl) (mh_32_0 hM) (mr_32_0_24 hM) ?_
    refine v_iload_n dX14_factOf_51 rfl ?_
    refine v_iald dX14_factOf_52 rfl (Nat.le_of_ble_eq_true rfl) (mh_38_0 hM) (by rw [ml_38_0 hM]; exact vp_in_nI hp (by decide)) ?_
    rw [ncl]
    refine v_isub dX14_factOf_53 ?_
    refine v_sipush (365) dX14_factOf_54 (by decide) ?_
    refine v_idiv dX14_factOf_57 (by decide) ?_
    refine v_ireturn dX14_factOf_58 rfl rfl ?_
    exact ⟨by simp only [mFc, if_pos c39], rfl⟩
  · refine v_iconst (0) dX14_factOf_42 (by decide) ?_
    refine v_goto 58 dX14_factOf_43 (by decide) ?_
    refine v_ireturn dX14_factOf_58 rfl rfl ?_
    exact ⟨by simp only [mFc, if_neg c39], rfl⟩
set_option maxRecDepth 20000 in
theorem M_factOf1 (g : G0) (h : Hp) (hM : SM h) {p : Nat} (hp : p < 40) {day : Int32} : Mx g yX14_factOf wX14_factOf 1 [pR (32, 0), pI (nI p), pI day, pI (nI 1)] h 0 0 (qE (some (pI (mFc h p 1 day))) h) noX := by
  have ncl : (nI p).toNatClampNeg = p := nI_clamp (by omega)
  refine Mx.by kfX14_factOf rfl (by decide) (Nat.le_of_ble_eq_true rfl) ?_
  refine v_iload_n dX14_factOf_0 rfl ?_
  refine v_tableIn 59 dX14_factOf_1 (by decide) (by decide) (by rfl) (by decide) ?_
  refine v_iload_n dX14_factOf_59 rfl ?_
  refine v_aload_n dX14_factOf_60 rfl ?_
  refine v_getR (some (38, 1)) fl_X14_39 dX14_factOf_61 rfl rfl (Nat.le_of_ble_eq_true rfl) (mh_32_0 hM) (mr_32_0_25 hM) ?_
  refine v_iload_n dX14_factOf_64 rfl ?_
  refine v_iald dX14_factOf_65 rfl (Nat.le_of_ble_eq_true rfl) (mh_38_1 hM) (by rw [ml_38_1 hM]; exact vp_in_nI hp (by decide)) ?_
  rw [ncl]
  refine v_icmp_ge 73 dX14_factOf_66 (by decide) (fun c66 => ?_) (fun c66 => ?_)
  · refine v_iload_n dX14_factOf_73 rfl ?_
    refine v_aload_n dX14_factOf_74 rfl ?_
    refine v_getR (some (38, 1)) fl_X14_39 dX14_factOf_75 rfl rfl (Nat.le_of_ble_eq_true rfl) (mh_32_0 hM) (mr_32_0_25 hM) ?_
    refine v_iload_n dX14_factOf_78 rfl ?_
    refine v_iald dX14_factOf_79 rfl (Nat.le_of_ble_eq_true rfl) (mh_38_1 hM) (by rw [ml_38_1 hM]; exact vp_in_nI hp (by decide)) ?_
    rw [ncl]
    refine v_isub dX14_factOf_80 ?_
    refine v_sipush (365) dX14_factOf_81 (by decide) ?_
    refine v_idiv dX14_factOf_84 (by decide) ?_
    refine v_ireturn dX14_factOf_85 rfl rfl ?_
    exact ⟨by simp only [mFc, if_pos c66], rfl⟩
  · refine v_iconst (0) dX14_factOf_69 (by decide) ?_
    refine v_goto 85 dX14_factOf_70 (by decide) ?_
    refine v_ireturn dX14_factOf_85 rfl rfl ?_
    exact ⟨by simp only [mFc, if_neg c66], rfl⟩
set_option maxRecDepth 20000 in
theorem M_factOf3 (g : G0) (h : Hp) (hM : SM h) {p : Nat} (hp : p < 40) {day : Int32} : Mx g yX14_factOf wX14_factOf 1 [pR (32, 0), pI (nI p), pI day, pI (nI 3)] h 0 0 (qE (some (pI (mFc h p 3 day))) h) noX := by
  have ncl : (nI p).toNatClampNeg = p := nI_clamp (by omega)
  refine Mx.by kfX14_factOf rfl (by decide) (Nat.le_of_ble_eq_true rfl) ?_
  refine v_iload_n dX14_factOf_0 rfl ?_
  refine v_tableIn 173 dX14_factOf_1 (by decide) (by decide) (by rfl) (by decide) ?_
  refine v_aload_n dX14_factOf_173 rfl ?_
  refine v_getR (some (39, 0)) fl_X14_60 dX14_factOf_174 rfl rfl (Nat.le_of_ble_eq_true rfl) (mh_32_0 hM) (mr_32_0_32 hM) ?_
  refine v_iload_n dX14_factOf_177 rfl ?_
  refine v_zald dX14_factOf_178 rfl (Nat.le_of_ble_eq_true rfl) (mh_39_0 hM) (by rw [ml_39_0 hM]; exact vp_in_nI hp (by decide)) ?_
  rw [ncl]
  refine v_if_eq 186 dX14_factOf_179 (by decide) (fun c179 => ?_) (fun c179 => ?_)
  · refine v_iconst (0) dX14_factOf_186 (by decide) ?_
    refine v_ireturn dX14_factOf_187 rfl rfl ?_
    exact ⟨by simp only [mFc, if_pos c179], rfl⟩
  · refine v_iconst (1) dX14_factOf_182 (by decide) ?_
    refine v_goto 187 dX14_factOf_183 (by decide) ?_
    refine v_ireturn dX14_factOf_187 rfl rfl ?_
    exact ⟨by simp only [mFc, if_neg c179], rfl⟩
set_option maxRecDepth 20000 in
theorem M_factOf4 (g : G0) (h : Hp) (hM : SM h) {p : Nat} (hp : p < 40) {day : Int32} : Mx g yX14_factOf wX14_factOf 1 [pR (32, 0), pI (nI p), pI day, pI (nI 4)] h 0 0 (qE (some (pI (mFc h p 4 day))) h) noX := by
  have ncl : (nI p).toNatClampNeg = p := nI_clamp (by omega)
  refine Mx.by kfX14_factOf rfl (by decide) (Nat.le_of_ble_eq_true rfl) ?_
  refine v_iload_n dX14_factOf_0 rfl ?_
  refine v_tableOut 188 dX14_factOf_1 (by decide) (by decide) ?_
  refine v_iconst (0) dX14_factOf_188 (by decide) ?_
  refine v_iload_n dX14_factOf_189 rfl ?_
  refine v_aload_n dX14_factOf_190 rfl ?_
  refine v_getR (some (38, 2)) fl_X14_42 dX14_factOf_191 rfl rfl (Nat.le_of_ble_eq_true rfl) (mh_32_0 hM) (mr_32_0_26 hM) ?_
  refine v_iload_n dX14_factOf_194 rfl ?_
  refine v_iald dX14_factOf_195 rfl (Nat.le_of_ble_eq_true rfl) (mh_38_2 hM) (by rw [ml_38_2 hM]; exact vp_in_nI hp (by decide)) ?_
  rw [ncl]
  refine v_isub dX14_factOf_196 ?_
  refine v_mmax dX14_factOf_197 mlX14_318 (by decide) (Nat.le_of_ble_eq_true rfl) ?_
  refine v_ireturn dX14_factOf_200 rfl rfl ?_
  exact ⟨rfl, rfl⟩
