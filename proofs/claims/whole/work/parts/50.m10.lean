def mFact (h : Hp) (p d k : Int32) : Int32 × Hp := if mPb (mZ h) p = 0 then (-1, mZ h) else if mDy d = 0 then (-1, mZ h) else if mIn k 0 4 = 0 then (-1, mZ h) else (mFc (mZ h) p.toNatClampNeg k.toNatClampNeg d, mZ h)
theorem mIn04 {k : Int32} (c : ¬ mIn k 0 4 = 0) : ∃ m, m < 5 ∧ k = nI m := by
  unfold mIn at c
  split at c
  · exact absurd rfl c
  · rename_i c1
    split at c
    · exact absurd rfl c
    · rename_i c2
      obtain ⟨j, hj, e⟩ := nI_of2 (M := 4) (n := 4) (by decide) c1 (Int32.not_lt.mp c2)
      exact ⟨j, by omega, e⟩
set_option maxRecDepth 20000 in
theorem M_fact (g : G0) (h : Hp) (i : MJ h) {p d k : Int32} : Mx g yX14_fact wX14_fact 12 [pR (32, 0), pI p, pI d, pI k] h 0 0 (qE (some (pI (mFact h p d k).1)) (mFact h p d k).2) noX := by
  have hM : SM (mZ h) := i.1.1
  have i2 := MJz i
  refine Mx.by kfX14_fact rfl (by decide) (Nat.le_of_ble_eq_true rfl) ?_
  refine v_aload_n dX14_fact_0 rfl ?_
  refine v_iconst (0) dX14_fact_1 (by decide) ?_
  refine v_putI fl_X14_112 (fun z => by cases z) dX14_fact_2 rfl rfl (Nat.le_of_ble_eq_true rfl) rfl rfl (mh_32_0 hM) ?_
  change V g _ _ _ _ _ _ _ (mZ h) _ _
  refine v_aload_n dX14_fact_5 rfl ?_
  refine v_iload_n dX14_fact_6 rfl ?_
  refine v_invVE (M_isPerson g (mZ h) hM) dX14_fact_7 cwX14_isPerson mlX14_315 (ob_32 _) rfl rfl (by decide) (by decide) (Nat.le_of_ble_eq_true rfl) ?_
  refine v_if_eq 39 dX14_fact_10 (by decide) (fun c10 => ?_) (fun c10 => ?_)
  · refine v_iconst (-1) dX14_fact_39 (by decide) ?_
    refine v_ireturn dX14_fact_40 rfl rfl ?_
    refine ⟨?_, ?_⟩ <;> first | (simp only [mFact, if_pos c10]; done) | (simp only [mFact, if_pos c10, nI_clamp (show j < 2 ^ 31 by omega), nI_clamp (show m < 2 ^ 31 by omega)]; done)
  · refine v_iload_n dX14_fact_13 rfl ?_
    refine v_invSE (M_isDay g (mZ h)) dX14_fact_14 cwX14_isDay mlX14_277 rfl rfl (by decide) (by decide) (Nat.le_of_ble_eq_true rfl) ?_
    refine v_if_eq 39 dX14_fact_17 (by decide) (fun c17 => ?_) (fun c17 => ?_)
    · refine v_iconst (-1) dX14_fact_39 (by decide) ?_
      refine v_ireturn dX14_fact_40 rfl rfl ?_
      refine ⟨?_, ?_⟩ <;> first | (simp only [mFact, if_neg c10, if_pos c17]; done) | (simp only [mFact, if_neg c10, if_pos c17, nI_clamp (show j < 2 ^ 31 by omega), nI_clamp (show m < 2 ^ 31 by omega)]; done)
    · refine v_iload_n dX14_fact_20 rfl ?_
      refine v_iconst (0) dX14_fact_21 (by decide) ?_
      refine v_iconst (4) dX14_fact_22 (by decide) ?_
      refine v_invSE (M_in g (mZ h)) dX14_fact_23 cwX14_in mlX14_231 rfl rfl (by decide) (by decide) (Nat.le_of_ble_eq_true rfl) ?_
      refine v_if_eq 39 dX14_fact_26 (by decide) (fun c26 => ?_) (fun c26 => ?_)
      · refine v_iconst (-1) dX14_fact_39 (by decide) ?_
        refine v_ireturn dX14_fact_40 rfl rfl ?_
        refine ⟨?_, ?_⟩ <;> first | (simp only [mFact, if_neg c10, if_neg c17, if_pos c26]; done) | (simp only [mFact, if_neg c10, if_neg c17, if_pos c26, nI_clamp (show j < 2 ^ 31 by omega), nI_clamp (show m < 2 ^ 31 by omega)]; done)
      · obtain ⟨j, hj, rfl, -⟩ := mPb_in i2.1 c10
        obtain ⟨m, hm, rfl⟩ := mIn04 c26
        refine v_aload_n dX14_fact_29 rfl ?_
        refine v_iload_n dX14_fact_30 rfl ?_
        refine v_iload_n dX14_fact_31 rfl ?_
        refine v_iload_n dX14_fact_32 rfl ?_
        refine v_invVE (M_factOf g (mZ h) i2 hj hm) dX14_fact_33 cwX14_factOf mlX14_323 (ob_32 _) rfl rfl (by decide) (by decide) (Nat.le_of_ble_eq_true rfl) ?_
        refine v_goto 40 dX14_fact_36 (by decide) ?_
        refine v_ireturn dX14_fact_40 rfl rfl ?_
        refine ⟨?_, ?_⟩ <;> first | (simp only [mFact, if_neg c10, if_neg c17, if_neg c26]; done) | (simp only [mFact, if_neg c10, if_neg c17, if_neg c26, nI_clamp (show j < 2 ^ 31 by omega), nI_clamp (show m < 2 ^ 31 by omega)]; done)
