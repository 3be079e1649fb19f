set_option maxRecDepth 20000 in
theorem sum_num (g : G0) {b : Nat → Int32} {e : Nat} {Z : Hp} {ch cp dp : Nat} {W M N : Nat → Int32} {cd hd : List Int32} {k c0 : Nat} {h0 : Hp} {rl : List mOp} {d te q : Nat} {h : Hp} (he : e ≤ 300) (hq : q ≤ e) (hc0 : c0 < 12) (hrl : 3 * rl.length ≤ q) (r : RS h k b e q dp cp rl) (s : SH b e Z ch cp dp W M N cd hd k c0 h q te) (ht : te + 1 ≤ 4) (e44 : vi h (44, k) c0 = nI te) (F : FrS k c0 h0 h) (kn : (tok b e q).2.2.1 = 2) (ih : ∀ (q2 : Nat) (h2 : Hp) (y4 y5 : Int32), q + 1 ≤ q2 → q2 ≤ e → RS h2 k b e q2 dp cp rl → SH b e Z ch cp dp W M N cd hd k c0 h2 q2 (te + 1) → vi h2 (44, k) c0 = nI (te + 1) → FrS k c0 h0 h2 → V g kfX14_readSum (d + 8) 0 0 2 [(3, pI 1), (5, pI y5), (4, pI y4), (0, pR (32, 0)), (1, pR (33, k)), (2, pI (nI c0))] [] h2 (PQS b e Z ch cp dp W M N cd hd k c0 h0 rl) (fun _ _ a h' => PXr k Z h0 a h')) : V g kfX14_readSum (d + 8) 0 0 52 [(5, pI (nI (4 * c0 + te))), (4, pI (-1)), (3, pI 1), (0, pR (32, 0)), (1, pR (33, k)), (2, pI (nI c0))] [] h (PQS b e Z ch cp dp W M N cd hd k c0 h0 rl) (fun _ _ a h' => PXr k Z h0 a h') := by
  have hM := r.1
  have t := r.2.2.2.2.1
  have ncc : (nI (4 * c0 + te)).toNatClampNeg = 4 * c0 + te := nI_clamp (by omega)
  have n3 : vi h (32, 0) 13 = 3 := t.num.mpr kn
  obtain ⟨u, hu, hv⟩ := tok_num he hq kn
  have e16 : vi h (32, 0) 16 = nI u := (t.numv kn).trans hv
  have ad := tok_adv he hq (by rw [kn]; decide)
  have q1 := tok_end (b := b) he hq
  have st4 : ∀ {h2 : Hp}, RS h2 k b e (tok b e q).1 dp cp rl → Eqv (fPs k) (tmH h k (4 * c0 + te) (nI u) (-1)) h2 → FrS k c0 h0 h2 → vi h2 (44, k) c0 = nI te → (tok b e (tok b e q).1).2.2.1 = 42 → V g kfX14_readSum (d + 8) 0 0 103 [(5, pI (nI (4 * c0 + te))), (4, pI (-1)), (3, pI 1), (0, pR (32, 0)), (1, pR (33, k)), (2, pI (nI c0))] [] h2 (PQS b e Z ch cp dp W M N cd hd k c0 h0 rl) (fun _ _ a h' => PXr k Z h0 a h') := by
    intro h2 r2 e2 F2 f44 k42
    have ad2 := tok_adv he q1 (by rw [k42]; decide)
    have q2 := tok_end (b := b) he q1
    refine v_aload_n dX14_readSum_103 rfl ?_
    refine v_invV 0 0 (M_nextR g h2 r2 he q1 (by rw [k42]; decide)) dX14_readSum_104 cwX14_next mlX14_220 (ob_32 _) rfl rfl (by omega) (by decide) (Nat.le_of_ble_eq_true rfl) (Nat.le_of_ble_eq_true rfl) (Nat.le_of_ble_eq_true rfl) (fun rv h3 q5 => ?_) (fun a1 h3 q2 => q2.elim)
    obtain ⟨rfl, r3, e3⟩ := q5
    have F3 := F2.tr (FrS.ps (c0 := c0) e3 (Ps_2 e3))
    refine v_aload_n dX14_readSum_107 rfl ?_
    refine v_getR (some (48, k)) fl_X14_267 dX14_readSum_108 rfl rfl (Nat.le_of_ble_eq_true rfl) r3.2.1.1 r3.2.1.2.2.2.1.2.2.2.2.2.2.2.2.1 ?_
    refine v_iload dX14_readSum_111 rfl ?_
    refine v_aload_n dX14_readSum_113 rfl ?_
    refine v_invV 0 0 (M_nameHere g h3 r3.1 r3.2.2.2.2.1) dX14_readSum_114 cwX14_nameHere mlX14_261 (ob_32 _) rfl rfl (by omega) (by decide) (Nat.le_of_ble_eq_true rfl) (Nat.le_of_ble_eq_true rfl) (Nat.le_of_ble_eq_true rfl) (fun rv h4 q5 => ?_) (fun a1 h4 q5 => (by obtain ⟨rfl, rfl, n4⟩ := q5; exact PXr_st F3.1 r3.2.1 r3.2.2.2.2.1 (SH_fac s he hq kn ht k42 n4)))
    obtain ⟨k4, rfl, e1⟩ := q5
    obtain ⟨m, hm, hw, q3⟩ := tok_name r3.2.2.2.2.1 he q2 k4
    rw [e1]
    change V g _ _ _ _ _ _ (pI (tok b e (tok b e (tok b e q).1).1).2.2.2 :: _) h3 _ _
    rw [hw]
    refine v_iast dX14_readSum_117 rfl (Nat.le_of_ble_eq_true rfl) r3.2.1.2.2.1.2.2.2.2.2.2.2.2.1 (by rw [show ln (h3) (48, k) = 48 from r3.2.1.2.2.2.2.1.2.2.2.2.2.2.2.2.1]; exact vp_in_nI (by omega) (by decide)) ?_
    rw [ncc]
    refine v_aload_n dX14_readSum_118 rfl ?_
    refine v_invV 0 0 (M_nextR g _ (RS_o r3 (by decide) (4 * c0 + te) (nI m)) he q2 (by rw [k4]; decide)) dX14_readSum_119 cwX14_next mlX14_220 (ob_32 _) rfl rfl (by omega) (by decide) (Nat.le_of_ble_eq_true rfl) (Nat.le_of_ble_eq_true rfl) (Nat.le_of_ble_eq_true rfl) (fun rv h5 q5 => ?_) (fun a1 h5 q2 => q2.elim)
    obtain ⟨rfl, r5, e5⟩ := q5
    have s5 := SH_star (h' := h5) s he hq kn hu hv ht k42 k4 hm hw (fun i hi => (Ps_row e5 (by decide) i).trans ((vi_sI_nk _ _ _ (by omega)).trans ((Ps_row e3 (by decide) i).trans ((Ps_row e2 (by decide) i).trans (tm_8n _ _ _ _ _ hi))))) (fun i hi => (Ps_row e5 (by decide) i).trans ((vi_sI_ne _ _ _ _ (fun z => (by cases z))).trans ((Ps_row e3 (by decide) i).trans ((Ps_row e2 (by decide) i).trans (tm_9n _ _ _ _ _ hi))))) ((Ps_row e5 (by decide) _).trans (vi_sI_eq _ _ _ _)) ((Ps_row e5 (by decide) _).trans ((vi_sI_ne _ _ _ _ (fun z => (by cases z))).trans ((Ps_row e3 (by decide) _).trans ((Ps_row e2 (by decide) _).trans (tm_9 _ _ _ _ _)))))
    exact sum_tail g he (tok_end he q2) hc0 (by omega) r5 s5 ht ((Ps_row e5 (by decide) _).trans ((vi_sI_ne _ _ _ _ (fun z => (by cases z))).trans ((Ps_row e3 (by decide) _).trans f44))) (F3.tr ((FrS.s48 h3 (nI m) (by omega)).tr (FrS.ps e5 (Ps_2 e5)))) (fun k43 h3 y4 y5 a1 a2 a3 a4 => ih _ h3 y4 y5 (by have ad4 := tok_adv he (tok_end (b := b) he q2) (by rw [k43]; decide); omega) (tok_end he (tok_end he q2)) a1 a2 a3 a4)
  refine v_aload_n dX14_readSum_52 rfl ?_
  refine v_getR (some (49, k)) fl_X14_264 dX14_readSum_53 rfl rfl (Nat.le_of_ble_eq_true rfl) r.2.1.1 r.2.1.2.2.2.1.2.2.2.2.2.2.2.2.2 ?_
  refine v_iload dX14_readSum_56 rfl ?_
  refine v_aload_n dX14_readSum_58 rfl ?_
  refine v_getI fl_X14_156 dX14_readSum_59 rfl rfl (Nat.le_of_ble_eq_true rfl) (mh_32_0 hM) ?_
  refine v_iconst (3) dX14_readSum_62 (by decide) ?_
  refine v_icmp_ne 73 dX14_readSum_63 (by decide) (fun z => absurd n3 z) (fun _ => ?_)
  refine v_aload_n dX14_readSum_66 rfl ?_
  refine v_getI fl_X14_173 dX14_readSum_67 rfl rfl (Nat.le_of_ble_eq_true rfl) (mh_32_0 hM) ?_
  rw [e16]
  refine v_goto 74 dX14_readSum_70 (by decide) ?_
  refine v_iast dX14_readSum_74 rfl (Nat.le_of_ble_eq_true rfl) r.2.1.2.2.1.2.2.2.2.2.2.2.2.2 (by rw [show ln (h) (49, k) = 48 from r.2.1.2.2.2.2.1.2.2.2.2.2.2.2.2.2]; exact vp_in_nI (by omega) (by decide)) ?_
  rw [ncc]
  refine v_aload_n dX14_readSum_75 rfl ?_
  refine v_getR (some (48, k)) fl_X14_267 dX14_readSum_76 rfl rfl (Nat.le_of_ble_eq_true rfl) r.2.1.1 r.2.1.2.2.2.1.2.2.2.2.2.2.2.2.1 ?_
  refine v_iload dX14_readSum_79 rfl ?_
  refine v_iload dX14_readSum_81 rfl ?_
  refine v_iast dX14_readSum_83 rfl (Nat.le_of_ble_eq_true rfl) r.2.1.2.2.1.2.2.2.2.2.2.2.2.1 (by rw [show ln (sI h (49, k) (4 * c0 + te) (nI u)) (48, k) = 48 from r.2.1.2.2.2.2.1.2.2.2.2.2.2.2.2.1]; exact vp_in_nI (by omega) (by decide)) ?_
  rw [ncc]
  change V g _ _ _ _ _ _ _ (tmH h k (4 * c0 + te) (nI u) (-1)) _ _
  refine v_aload_n dX14_readSum_84 rfl ?_
  refine v_invV 0 0 (M_nextR g _ (tm_RS r (4 * c0 + te) (nI u) (-1)) he hq (by rw [kn]; decide)) dX14_readSum_85 cwX14_next mlX14_220 (ob_32 _) rfl rfl (by omega) (by decide) (Nat.le_of_ble_eq_true rfl) (Nat.le_of_ble_eq_true rfl) (Nat.le_of_ble_eq_true rfl) (fun rv h2 q2 => ?_) (fun a1 h2 q2 => q2.elim)
  obtain ⟨rfl, r2, e2⟩ := q2
  have t2 := r2.2.2.2.2.1
  have F2 := F.tr ((tm_F (c0 := c0) h (nI u) (-1) (by omega)).tr (FrS.ps e2 (Ps_2 e2)))
  have f44 : vi h2 (44, k) c0 = nI te := (Ps_row e2 (by decide) _).trans ((tm_44 _ _ _ _ _ _).trans e44)
  refine v_iload dX14_readSum_88 rfl ?_
  refine v_iconst (-1) dX14_readSum_90 (by decide) ?_
  refine v_icmp_ne 122 dX14_readSum_91 (by decide) (fun z => absurd rfl z) (fun _ => ?_)
  refine v_aload_n dX14_readSum_94 rfl ?_
  refine v_bipush (42) dX14_readSum_95 (by decide) ?_
  refine v_invVE (M_is g h2 r2.1) dX14_readSum_97 cwX14_is mlX14_249 (ob_32 _) rfl rfl (by omega) (by decide) (Nat.le_of_ble_eq_true rfl) ?_
  refine v_if_eq 122 dX14_readSum_100 (by decide) (fun c100 => ?_) (fun c100 => ?_)
  · have s2 := SH_num (h' := h2) s he hq kn hu hv ht (fun i hi => (Ps_row e2 (by decide) i).trans (tm_8n _ _ _ _ _ hi)) (fun i hi => (Ps_row e2 (by decide) i).trans (tm_9n _ _ _ _ _ hi)) ((Ps_row e2 (by decide) _).trans (tm_8 _ _ _ _ _)) ((Ps_row e2 (by decide) _).trans (tm_9 _ _ _ _ _)) (fun y => (t2.mi (c := 42) rfl).mpr y c100)
    exact sum_tail g he q1 hc0 (by omega) r2 s2 ht f44 F2 (fun k43 h3 y4 y5 a1 a2 a3 a4 => ih _ h3 y4 y5 (by have ad2 := tok_adv he q1 (by rw [k43]; decide); omega) (tok_end he q1) a1 a2 a3 a4)
  · exact st4 r2 e2 F2 f44 ((t2.mi (c := 42) rfl).mp c100)
