set_option maxRecDepth 20000 in
theorem sum_bodyA_s (g : G0) {b : Nat → Int32} {e : Nat} {Z : Hp} {ch cp dp : Nat} {W M N : Nat → Int32} {cd hd : List Int32} {k c0 : Nat} {h0 : Hp} {rl : List mOp} {d te q : Nat} {h : Hp} (he : e ≤ 300) (hq : q ≤ e) (hc0 : c0 < 12) (hrl : 3 * rl.length ≤ q) (r : RS_s h k b e q dp cp rl) (s : SH_s b e Z ch cp dp W M N cd hd k c0 h q te) (ht : te ≤ 4) (e44 : vi h (54, 0) c0 = nI te) (F : FrS_s k c0 h0 h) (ih : te + 1 ≤ 4 → ∀ (q2 : Nat) (h2 : Hp) (y4 y5 : Int32), q + 1 ≤ q2 → q2 ≤ e → RS_s h2 k b e q2 dp cp rl → SH_s b e Z ch cp dp W M N cd hd k c0 h2 q2 (te + 1) → vi h2 (54, 0) c0 = nI (te + 1) → FrS_s k c0 h0 h2 → V g kfX14_readSum (d + 8) 0 0 2 [(3, pI 1), (5, pI y5), (4, pI y4), (0, pR (32, 0)), (1, pR (34, 0)), (2, pI (nI c0))] [] h2 (PQS_s b e Z ch cp dp W M N cd hd k c0 h0 rl) (fun _ _ a h' => PXr_s k Z h0 a h')) : V g kfX14_readSum (d + 8) 0 0 2 [(3, pI 1), (0, pR (32, 0)), (1, pR (34, 0)), (2, pI (nI c0))] [] h (PQS_s b e Z ch cp dp W M N cd hd k c0 h0 rl) (fun _ _ a h' => PXr_s k Z h0 a h') := by
  have hM := r.1
  have t := r.2.2.2.2.1
  have ncc : (nI c0).toNatClampNeg = c0 := nI_clamp (by omega)
  refine v_iload_n dX14_readSum_2 rfl ?_
  refine v_if_eq 150 dX14_readSum_3 (by decide) (fun z => absurd z (by decide)) (fun _ => ?_)
  refine v_aload_n dX14_readSum_6 rfl ?_
  refine v_getI fl_X14_156 dX14_readSum_7 rfl rfl (Nat.le_of_ble_eq_true rfl) (mh_32_0 hM) ?_
  refine v_iconst (3) dX14_readSum_10 (by decide) ?_
  refine v_icmp_ne 18 dX14_readSum_11 (by decide) (fun c11 => ?_) (fun c11 => ?_)
  · refine v_aload_n dX14_readSum_18 rfl ?_
    refine v_invV 0 0 (M_nameHere g h hM t) dX14_readSum_19 cwX14_nameHere mlX14_261 (ob_32 _) rfl rfl (by omega) (by decide) (Nat.le_of_ble_eq_true rfl) (Nat.le_of_ble_eq_true rfl) (Nat.le_of_ble_eq_true rfl) (fun rv h2 q2 => ?_) (fun a1 h2 q2 => (by obtain ⟨rfl, rfl, n4⟩ := q2; exact PXr_st_s F.1 r.2.1 t (SH_ce_s s he hq (fun y => c11 (t.num.mpr y)) n4)))
    obtain ⟨k4, rfl, e1⟩ := q2
    obtain ⟨m, hm, hv, q3⟩ := tok_name t he hq k4
    rw [e1]
    change V g _ _ _ _ _ _ (pI (tok b e q).2.2.2 :: _) h _ _
    rw [hv]
    refine v_istore dX14_readSum_22 (by decide) ?_
    refine v_aload_n dX14_readSum_24 rfl ?_
    refine v_getR (some (54, 0)) fl_X14_228 dX14_readSum_25 rfl rfl (Nat.le_of_ble_eq_true rfl) r.2.1.1 r.2.1.2.2.2.1.2.2.2.2.1 ?_
    refine v_iload_n dX14_readSum_28 rfl ?_
    refine v_iald dX14_readSum_29 rfl (Nat.le_of_ble_eq_true rfl) r.2.1.2.2.1.2.2.2.2.1 (by rw [show ln h (54, 0) = 12 from r.2.1.2.2.2.2.1.2.2.2.2.1]; exact vp_in_nI hc0 (by decide)) ?_
    rw [ncc, e44]
    refine v_iconst (4) dX14_readSum_30 (by decide) ?_
    refine v_icmp_ne 40 dX14_readSum_31 (by decide) (fun c31 => ?_) (fun c31 => ?_)
    · refine v_iconst (4) dX14_readSum_40 (by decide) ?_
      refine v_iload_n dX14_readSum_41 rfl ?_
      refine v_imul dX14_readSum_42 ?_
      refine v_aload_n dX14_readSum_43 rfl ?_
      refine v_getR (some (54, 0)) fl_X14_228 dX14_readSum_44 rfl rfl (Nat.le_of_ble_eq_true rfl) r.2.1.1 r.2.1.2.2.2.1.2.2.2.2.1 ?_
      refine v_iload_n dX14_readSum_47 rfl ?_
      refine v_iald dX14_readSum_48 rfl (Nat.le_of_ble_eq_true rfl) r.2.1.2.2.1.2.2.2.2.1 (by rw [show ln h (54, 0) = 12 from r.2.1.2.2.2.2.1.2.2.2.2.1]; exact vp_in_nI hc0 (by decide)) ?_
      rw [ncc, e44]
      refine v_iadd dX14_readSum_49 ?_
      rw [nI_4]
      refine v_istore dX14_readSum_50 (by decide) ?_
      have t4 : ¬ te = 4 := fun z => c31 (by rw [z]; rfl)
      first | exact sum_name_s g he hq hc0 hrl r s (by omega) e44 F k4 hm hv (ih (by omega)) | exact sum_num_s g he hq hc0 hrl r s (by omega) e44 F (t.num.mp c11) (ih (by omega))
    · refine v_aload_n dX14_readSum_34 rfl ?_
      refine v_iconst (4) dX14_readSum_35 (by decide) ?_
      refine v_invVE (M_stop g h hM) dX14_readSum_36 cwX14_stop mlX14_196 (ob_32 _) rfl rfl (by omega) (by decide) (Nat.le_of_ble_eq_true rfl) ?_
      refine v_athrow dX14_readSum_39 ?_
      first | exact PXr_st_s F.1 r.2.1 t (SH_many_s s he hq (Or.inr k4) ((nI_eq (b := 4) (by omega) (by decide)).mp c31)) | exact PXr_st_s F.1 r.2.1 t (SH_many_s s he hq (Or.inl (t.num.mp c11)) ((nI_eq (b := 4) (by omega) (by decide)).mp c31))
  · refine v_iconst (-1) dX14_readSum_14 (by decide) ?_
    refine v_goto 22 dX14_readSum_15 (by decide) ?_
    refine v_istore dX14_readSum_22 (by decide) ?_
    refine v_aload_n dX14_readSum_24 rfl ?_
    refine v_getR (some (54, 0)) fl_X14_228 dX14_readSum_25 rfl rfl (Nat.le_of_ble_eq_true rfl) r.2.1.1 r.2.1.2.2.2.1.2.2.2.2.1 ?_
    refine v_iload_n dX14_readSum_28 rfl ?_
    refine v_iald dX14_readSum_29 rfl (Nat.le_of_ble_eq_true rfl) r.2.1.2.2.1.2.2.2.2.1 (by rw [show ln h (54, 0) = 12 from r.2.1.2.2.2.2.1.2.2.2.2.1]; exact vp_in_nI hc0 (by decide)) ?_
    rw [ncc, e44]
    refine v_iconst (4) dX14_readSum_30 (by decide) ?_
    refine v_icmp_ne 40 dX14_readSum_31 (by decide) (fun c31 => ?_) (fun c31 => ?_)
    · refine v_iconst (4) dX14_readSum_40 (by decide) ?_
      refine v_iload_n dX14_readSum_41 rfl ?_
      refine v_imul dX14_readSum_42 ?_
      refine v_aload_n dX14_readSum_43 rfl ?_
      refine v_getR (some (54, 0)) fl_X14_228 dX14_readSum_44 rfl rfl (Nat.le_of_ble_eq_true rfl) r.2.1.1 r.2.1.2.2.2.1.2.2.2.2.1 ?_
      refine v_iload_n dX14_readSum_47 rfl ?_
      refine v_iald dX14_readSum_48 rfl (Nat.le_of_ble_eq_true rfl) r.2.1.2.2.1.2.2.2.2.1 (by rw [show ln h (54, 0) = 12 from r.2.1.2.2.2.2.1.2.2.2.2.1]; exact vp_in_nI hc0 (by decide)) ?_
      rw [ncc, e44]
      refine v_iadd dX14_readSum_49 ?_
      rw [nI_4]
      refine v_istore dX14_readSum_50 (by decide) ?_
      have t4 : ¬ te = 4 := fun z => c31 (by rw [z]; rfl)
      first | exact sum_name_s g he hq hc0 hrl r s (by omega) e44 F k4 hm hv (ih (by omega)) | exact sum_num_s g he hq hc0 hrl r s (by omega) e44 F (t.num.mp c11) (ih (by omega))
    · refine v_aload_n dX14_readSum_34 rfl ?_
      refine v_iconst (4) dX14_readSum_35 (by decide) ?_
      refine v_invVE (M_stop g h hM) dX14_readSum_36 cwX14_stop mlX14_196 (ob_32 _) rfl rfl (by omega) (by decide) (Nat.le_of_ble_eq_true rfl) ?_
      refine v_athrow dX14_readSum_39 ?_
      first | exact PXr_st_s F.1 r.2.1 t (SH_many_s s he hq (Or.inr k4) ((nI_eq (b := 4) (by omega) (by decide)).mp c31)) | exact PXr_st_s F.1 r.2.1 t (SH_many_s s he hq (Or.inl (t.num.mp c11)) ((nI_eq (b := 4) (by omega) (by decide)).mp c31))
set_option maxRecDepth 20000 in
theorem sum_bodyB_s (g : G0) {b : Nat → Int32} {e : Nat} {Z : Hp} {ch cp dp : Nat} {W M N : Nat → Int32} {cd hd : List Int32} {k c0 : Nat} {h0 : Hp} {rl : List mOp} {d te q : Nat} {h : Hp} {y4 y5 : Int32} (he : e ≤ 300) (hq : q ≤ e) (hc0 : c0 < 12) (hrl : 3 * rl.length ≤ q) (r : RS_s h k b e q dp cp rl) (s : SH_s b e Z ch cp dp W M N cd hd k c0 h q te) (ht : te ≤ 4) (e44 : vi h (54, 0) c0 = nI te) (F : FrS_s k c0 h0 h) (ih : te + 1 ≤ 4 → ∀ (q2 : Nat) (h2 : Hp) (y4 y5 : Int32), q + 1 ≤ q2 → q2 ≤ e → RS_s h2 k b e q2 dp cp rl → SH_s b e Z ch cp dp W M N cd hd k c0 h2 q2 (te + 1) → vi h2 (54, 0) c0 = nI (te + 1) → FrS_s k c0 h0 h2 → V g kfX14_readSum (d + 8) 0 0 2 [(3, pI 1), (5, pI y5), (4, pI y4), (0, pR (32, 0)), (1, pR (34, 0)), (2, pI (nI c0))] [] h2 (PQS_s b e Z ch cp dp W M N cd hd k c0 h0 rl) (fun _ _ a h' => PXr_s k Z h0 a h')) : V g kfX14_readSum (d + 8) 0 0 2 [(3, pI 1), (5, pI y5), (4, pI y4), (0, pR (32, 0)), (1, pR (34, 0)), (2, pI (nI c0))] [] h (PQS_s b e Z ch cp dp W M N cd hd k c0 h0 rl) (fun _ _ a h' => PXr_s k Z h0 a h') := by
  have hM := r.1
  have t := r.2.2.2.2.1
  have ncc : (nI c0).toNatClampNeg = c0 := nI_clamp (by omega)
  refine v_iload_n dX14_readSum_2 rfl ?_
  refine v_if_eq 150 dX14_readSum_3 (by decide) (fun z => absurd z (by decide)) (fun _ => ?_)
  refine v_aload_n dX14_readSum_6 rfl ?_
  refine v_getI fl_X14_156 dX14_readSum_7 rfl rfl (Nat.le_of_ble_eq_true rfl) (mh_32_0 hM) ?_
  refine v_iconst (3) dX14_readSum_10 (by decide) ?_
  refine v_icmp_ne 18 dX14_readSum_11 (by decide) (fun c11 => ?_) (fun c11 => ?_)
  · refine v_aload_n dX14_readSum_18 rfl ?_
    refine v_invV 0 0 (M_nameHere g h hM t) dX14_readSum_19 cwX14_nameHere mlX14_261 (ob_32 _) rfl rfl (by omega) (by decide) (Nat.le_of_ble_eq_true rfl) (Nat.le_of_ble_eq_true rfl) (Nat.le_of_ble_eq_true rfl) (fun rv h2 q2 => ?_) (fun a1 h2 q2 => (by obtain ⟨rfl, rfl, n4⟩ := q2; exact PXr_st_s F.1 r.2.1 t (SH_ce_s s he hq (fun y => c11 (t.num.mpr y)) n4)))
    obtain ⟨k4, rfl, e1⟩ := q2
    obtain ⟨m, hm, hv, q3⟩ := tok_name t he hq k4
    rw [e1]
    change V g _ _ _ _ _ _ (pI (tok b e q).2.2.2 :: _) h _ _
    rw [hv]
    refine v_istore dX14_readSum_22 (by decide) ?_
    refine v_aload_n dX14_readSum_24 rfl ?_
    refine v_getR (some (54, 0)) fl_X14_228 dX14_readSum_25 rfl rfl (Nat.le_of_ble_eq_true rfl) r.2.1.1 r.2.1.2.2.2.1.2.2.2.2.1 ?_
    refine v_iload_n dX14_readSum_28 rfl ?_
    refine v_iald dX14_readSum_29 rfl (Nat.le_of_ble_eq_true rfl) r.2.1.2.2.1.2.2.2.2.1 (by rw [show ln h (54, 0) = 12 from r.2.1.2.2.2.2.1.2.2.2.2.1]; exact vp_in_nI hc0 (by decide)) ?_
    rw [ncc, e44]
    refine v_iconst (4) dX14_readSum_30 (by decide) ?_
    refine v_icmp_ne 40 dX14_readSum_31 (by decide) (fun c31 => ?_) (fun c31 => ?_)
    · refine v_iconst (4) dX14_readSum_40 (by decide) ?_
      refine v_iload_n dX14_readSum_41 rfl ?_
      refine v_imul dX14_readSum_42 ?_
      refine v_aload_n dX14_readSum_43 rfl ?_
      refine v_getR (some (54, 0)) fl_X14_228 dX14_readSum_44 rfl rfl (Nat.le_of_ble_eq_true rfl) r.2.1.1 r.2.1.2.2.2.1.2.2.2.2.1 ?_
      refine v_iload_n dX14_readSum_47 rfl ?_
      refine v_iald dX14_readSum_48 rfl (Nat.le_of_ble_eq_true rfl) r.2.1.2.2.1.2.2.2.2.1 (by rw [show ln h (54, 0) = 12 from r.2.1.2.2.2.2.1.2.2.2.2.1]; exact vp_in_nI hc0 (by decide)) ?_
      rw [ncc, e44]
      refine v_iadd dX14_readSum_49 ?_
      rw [nI_4]
      refine v_istore dX14_readSum_50 (by decide) ?_
      have t4 : ¬ te = 4 := fun z => c31 (by rw [z]; rfl)
      first | exact sum_name_s g he hq hc0 hrl r s (by omega) e44 F k4 hm hv (ih (by omega)) | exact sum_num_s g he hq hc0 hrl r s (by omega) e44 F (t.num.mp c11) (ih (by omega))
    · refine v_aload_n dX14_readSum_34 rfl ?_
      refine v_iconst (4) dX14_readSum_35 (by decide) ?_
      refine v_invVE (M_stop g h hM) dX14_readSum_36 cwX14_stop mlX14_196 (ob_32 _) rfl rfl (by omega) (by decide) (Nat.le_of_ble_eq_true rfl) ?_
      refine v_athrow dX14_readSum_39 ?_
      first | exact PXr_st_s F.1 r.2.1 t (SH_many_s s he hq (Or.inr k4) ((nI_eq (b := 4) (by omega) (by decide)).mp c31)) | exact PXr_st_s F.1 r.2.1 t (SH_many_s s he hq (Or.inl (t.num.mp c11)) ((nI_eq (b := 4) (by omega) (by decide)).mp c31))
  · refine v_iconst (-1) dX14_readSum_14 (by decide) ?_
    refine v_goto 22 dX14_readSum_15 (by decide) ?_
    refine v_istore dX14_readSum_22 (by decide) ?_
    refine v_aload_n dX14_readSum_24 rfl ?_
    refine v_getR (some (54, 0)) fl_X14_228 dX14_readSum_25 rfl rfl (Nat.le_of_ble_eq_true rfl) r.2.1.1 r.2.1.2.2.2.1.2.2.2.2.1 ?_
    refine v_iload_n dX14_readSum_28 rfl ?_
    refine v_iald dX14_readSum_29 rfl (Nat.le_of_ble_eq_true rfl) r.2.1.2.2.1.2.2.2.2.1 (by rw [show ln h (54, 0) = 12 from r.2.1.2.2.2.2.1.2.2.2.2.1]; exact vp_in_nI hc0 (by decide)) ?_
    rw [ncc, e44]
    refine v_iconst (4) dX14_readSum_30 (by decide) ?_
    refine v_icmp_ne 40 dX14_readSum_31 (by decide) (fun c31 => ?_) (fun c31 => ?_)
    · refine v_iconst (4) dX14_readSum_40 (by decide) ?_
      refine v_iload_n dX14_readSum_41 rfl ?_
      refine v_imul dX14_readSum_42 ?_
      refine v_aload_n dX14_readSum_43 rfl ?_
      refine v_getR (some (54, 0)) fl_X14_228 dX14_readSum_44 rfl rfl (Nat.le_of_ble_eq_true rfl) r.2.1.1 r.2.1.2.2.2.1.2.2.2.2.1 ?_
      refine v_iload_n dX14_readSum_47 rfl ?_
      refine v_iald dX14_readSum_48 rfl (Nat.le_of_ble_eq_true rfl) r.2.1.2.2.1.2.2.2.2.1 (by rw [show ln h (54, 0) = 12 from r.2.1.2.2.2.2.1.2.2.2.2.1]; exact vp_in_nI hc0 (by decide)) ?_
      rw [ncc, e44]
      refine v_iadd dX14_readSum_49 ?_
      rw [nI_4]
      refine v_istore dX14_readSum_50 (by decide) ?_
      have t4 : ¬ te = 4 := fun z => c31 (by rw [z]; rfl)
      first | exact sum_name_s g he hq hc0 hrl r s (by omega) e44 F k4 hm hv (ih (by omega)) | exact sum_num_s g he hq hc0 hrl r s (by omega) e44 F (t.num.mp c11) (ih (by omega))
    · refine v_aload_n dX14_readSum_34 rfl ?_
      refine v_iconst (4) dX14_readSum_35 (by decide) ?_
      refine v_invVE (M_stop g h hM) dX14_readSum_36 cwX14_stop mlX14_196 (ob_32 _) rfl rfl (by omega) (by decide) (Nat.le_of_ble_eq_true rfl) ?_
      refine v_athrow dX14_readSum_39 ?_
      first | exact PXr_st_s F.1 r.2.1 t (SH_many_s s he hq (Or.inr k4) ((nI_eq (b := 4) (by omega) (by decide)).mp c31)) | exact PXr_st_s F.1 r.2.1 t (SH_many_s s he hq (Or.inl (t.num.mp c11)) ((nI_eq (b := 4) (by omega) (by decide)).mp c31))
