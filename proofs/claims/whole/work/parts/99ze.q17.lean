set_option maxRecDepth 20000 in
theorem sum_name_s (g : G0) {b : Nat → Int32} {e : Nat} {Z : Hp} {ch cp dp : Nat} {W M N : Nat → Int32} {cd hd : List Int32} {k c0 : Nat} {h0 : Hp} {rl : List mOp} {d te q m : Nat} {h : Hp} (he : e ≤ 300) (hq : q ≤ e) (hc0 : c0 < 12) (hrl : 3 * rl.length ≤ q) (r : RS_s h k b e q dp cp rl) (s : SH_s b e Z ch cp dp W M N cd hd k c0 h q te) (ht : te + 1 ≤ 4) (e44 : vi h (54, 0) c0 = nI te) (F : FrS_s k c0 h0 h) (k4 : (tok b e q).2.2.1 = 4) (hm : m < 5) (hv : (tok b e q).2.2.2 = nI m) (ih : ∀ (q2 : Nat) (h2 : Hp) (y4 y5 : Int32), q + 1 ≤ q2 → q2 ≤ e → RS_s h2 k b e q2 dp cp rl → SH_s b e Z ch cp dp W M N cd hd k c0 h2 q2 (te + 1) → vi h2 (54, 0) c0 = nI (te + 1) → FrS_s k c0 h0 h2 → V g kfX14_readSum (d + 8) 0 0 2 [(3, pI 1), (5, pI y5), (4, pI y4), (0, pR (32, 0)), (1, pR (34, 0)), (2, pI (nI c0))] [] h2 (PQS_s b e Z ch cp dp W M N cd hd k c0 h0 rl) (fun _ _ a h' => PXr_s k Z h0 a h')) : V g kfX14_readSum (d + 8) 0 0 52 [(5, pI (nI (4 * c0 + te))), (4, pI (nI m)), (3, pI 1), (0, pR (32, 0)), (1, pR (34, 0)), (2, pI (nI c0))] [] h (PQS_s b e Z ch cp dp W M N cd hd k c0 h0 rl) (fun _ _ a h' => PXr_s k Z h0 a h') := by
  have hM := r.1
  have t := r.2.2.2.2.1
  have ncc : (nI (4 * c0 + te)).toNatClampNeg = 4 * c0 + te := nI_clamp (by omega)
  have n3 : ¬ vi h (32, 0) 13 = 3 := fun z => absurd (k4.symm.trans (t.num.mp z)) (by decide)
  have nm1 : ¬ nI m = -1 := by rcases (show m = 0 ∨ m = 1 ∨ m = 2 ∨ m = 3 ∨ m = 4 by omega) with z | z | z | z | z <;> (rw [z]; decide)
  have ad := tok_adv he hq (by rw [k4]; decide)
  have q1 := tok_end (b := b) he hq
  refine v_aload_n dX14_readSum_52 rfl ?_
  refine v_getR (some (59, 0)) fl_X14_264 dX14_readSum_53 rfl rfl (Nat.le_of_ble_eq_true rfl) r.2.1.1 r.2.1.2.2.2.1.2.2.2.2.2.2.2.2.2 ?_
  refine v_iload dX14_readSum_56 rfl ?_
  refine v_aload_n dX14_readSum_58 rfl ?_
  refine v_getI fl_X14_156 dX14_readSum_59 rfl rfl (Nat.le_of_ble_eq_true rfl) (mh_32_0 hM) ?_
  refine v_iconst (3) dX14_readSum_62 (by decide) ?_
  refine v_icmp_ne 73 dX14_readSum_63 (by decide) (fun _ => ?_) (fun z => absurd z n3)
  refine v_iconst (1) dX14_readSum_73 (by decide) ?_
  refine v_iast dX14_readSum_74 rfl (Nat.le_of_ble_eq_true rfl) r.2.1.2.2.1.2.2.2.2.2.2.2.2.2 (by rw [show ln (h) (59, 0) = 48 from r.2.1.2.2.2.2.1.2.2.2.2.2.2.2.2.2]; exact vp_in_nI (by omega) (by decide)) ?_
  rw [ncc]
  refine v_aload_n dX14_readSum_75 rfl ?_
  refine v_getR (some (58, 0)) fl_X14_267 dX14_readSum_76 rfl rfl (Nat.le_of_ble_eq_true rfl) r.2.1.1 r.2.1.2.2.2.1.2.2.2.2.2.2.2.2.1 ?_
  refine v_iload dX14_readSum_79 rfl ?_
  refine v_iload dX14_readSum_81 rfl ?_
  refine v_iast dX14_readSum_83 rfl (Nat.le_of_ble_eq_true rfl) r.2.1.2.2.1.2.2.2.2.2.2.2.2.1 (by rw [show ln (sI h (59, 0) (4 * c0 + te) 1) (58, 0) = 48 from r.2.1.2.2.2.2.1.2.2.2.2.2.2.2.2.1]; exact vp_in_nI (by omega) (by decide)) ?_
  rw [ncc]
  change V g _ _ _ _ _ _ _ (tmH_s h k (4 * c0 + te) 1 (nI m)) _ _
  refine v_aload_n dX14_readSum_84 rfl ?_
  refine v_invV 0 0 (M_nextR_s g _ (tm_RS_s r (4 * c0 + te) 1 (nI m)) he hq (by rw [k4]; decide)) dX14_readSum_85 cwX14_next mlX14_220 (ob_32 _) rfl rfl (by omega) (by decide) (Nat.le_of_ble_eq_true rfl) (Nat.le_of_ble_eq_true rfl) (Nat.le_of_ble_eq_true rfl) (fun rv h2 q2 => ?_) (fun a1 h2 q2 => q2.elim)
  obtain ⟨rfl, r2, e2⟩ := q2
  refine v_iload dX14_readSum_88 rfl ?_
  refine v_iconst (-1) dX14_readSum_90 (by decide) ?_
  refine v_icmp_ne 122 dX14_readSum_91 (by decide) (fun _ => ?_) (fun z => absurd z nm1)
  have s2 := SH_name_s (h' := h2) s he hq k4 hm hv ht (fun i hi => (Ps_row_s e2 (by decide) i).trans (tm_8n_s _ _ _ _ _ hi)) (fun i hi => (Ps_row_s e2 (by decide) i).trans (tm_9n_s _ _ _ _ _ hi)) ((Ps_row_s e2 (by decide) _).trans (tm_8_s _ _ _ _ _)) ((Ps_row_s e2 (by decide) _).trans (tm_9_s _ _ _ _ _))
  exact sum_tail_s g he q1 hc0 (by omega) r2 s2 ht ((Ps_row_s e2 (by decide) _).trans ((tm_44_s _ _ _ _ _ _).trans e44)) (F.tr ((tm_F_s h 1 (nI m) (by omega)).tr (FrS_s.ps e2 (Ps_2_s e2)))) (fun k43 h3 y4 y5 a1 a2 a3 a4 => ih _ h3 y4 y5 (by have ad2 := tok_adv he q1 (by rw [k43]; decide); omega) (tok_end he q1) a1 a2 a3 a4)
