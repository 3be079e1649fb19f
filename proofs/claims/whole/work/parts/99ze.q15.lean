def PQS_s (b : Nat → Int32) (e : Nat) (Z : Hp) (ch cp dp : Nat) (W M N : Nat → Int32) (cd hd : List Int32) (k c0 : Nat) (h : Hp) (rl : List mOp) : Option PV → Hp → Prop := fun r h' => r = none ∧ ∃ (q te : Nat), RS_s h' k b e q dp cp rl ∧ q ≤ e ∧ te ≤ 4 ∧ SE_s b e Z ch cp dp W M N cd hd k c0 h' q te ∧ vi h' (54, 0) c0 = nI te ∧ FrS_s k c0 h h' ∧ ¬ (tok b e q).2.2.1 = 43 ∧ 3 * rl.length ≤ q
theorem SE_c_s {b : Nat → Int32} {e : Nat} {Z : Hp} {ch cp dp : Nat} {W M N : Nat → Int32} {cd hd : List Int32} {k c0 : Nat} {h h' : Hp} {q te : Nat} (s : SE_s b e Z ch cp dp W M N cd hd k c0 h q te) (e8 : ∀ i, vi h' (58, 0) i = vi h (58, 0) i) (e9 : ∀ i, vi h' (59, 0) i = vi h (59, 0) i) : SE_s b e Z ch cp dp W M N cd hd k c0 h' q te := by
  obtain ⟨c, j, nm, sg, nu, T, cs, hj, ⟨hZ, hT, t, hl⟩ | ⟨hZ, hT, t, hl, n⟩⟩ := s
  · exact ⟨c, j, nm, sg, nu, T, cs, hj, Or.inl ⟨hZ, hT, TmR_c_s (n := T.length) (fun i _ => e8 _) (fun i _ => e9 _) T (Nat.le_refl _) t, hl⟩⟩
  · exact ⟨c, j, nm, sg, nu, T, cs, hj, Or.inr ⟨hZ, hT, TmR_c_s (n := T.length + 1) (fun i _ => e8 _) (fun i _ => e9 _) _ (Nat.le_refl _) t, hl, n⟩⟩
set_option maxRecDepth 20000 in
theorem sum_tail_s (g : G0) {b : Nat → Int32} {e : Nat} {Z : Hp} {ch cp dp : Nat} {W M N : Nat → Int32} {cd hd : List Int32} {k c0 : Nat} {h0 : Hp} {rl : List mOp} {d te q : Nat} {h : Hp} {x4 x5 : Int32} (he : e ≤ 300) (hq : q ≤ e) (hc0 : c0 < 12) (hrl : 3 * rl.length ≤ q) (r : RS_s h k b e q dp cp rl) (s : SE_s b e Z ch cp dp W M N cd hd k c0 h q (te + 1)) (ht : te + 1 ≤ 4) (e44 : vi h (54, 0) c0 = nI te) (F : FrS_s k c0 h0 h) (ih : (tok b e q).2.2.1 = 43 → ∀ (h2 : Hp) (y4 y5 : Int32), RS_s h2 k b e (tok b e q).1 dp cp rl → SH_s b e Z ch cp dp W M N cd hd k c0 h2 (tok b e q).1 (te + 1) → vi h2 (54, 0) c0 = nI (te + 1) → FrS_s k c0 h0 h2 → V g kfX14_readSum (d + 8) 0 0 2 [(3, pI 1), (5, pI y5), (4, pI y4), (0, pR (32, 0)), (1, pR (34, 0)), (2, pI (nI c0))] [] h2 (PQS_s b e Z ch cp dp W M N cd hd k c0 h0 rl) (fun _ _ a h' => PXr_s k Z h0 a h')) : V g kfX14_readSum (d + 8) 0 0 122 [(5, pI x5), (4, pI x4), (3, pI 1), (0, pR (32, 0)), (1, pR (34, 0)), (2, pI (nI c0))] [] h (PQS_s b e Z ch cp dp W M N cd hd k c0 h0 rl) (fun _ _ a h' => PXr_s k Z h0 a h') := by
  have ncc : (nI c0).toNatClampNeg = c0 := nI_clamp (by omega)
  have r1 : RS_s (sI h (54, 0) c0 (nI (te + 1))) k b e q dp cp rl := RS_o_s r (by decide) c0 _
  have hM := r1.1
  have t := r1.2.2.2.2.1
  have F1 := F.tr (FrS_s.s44 (k := k) (c0 := c0) h (nI (te + 1)))
  have g8 : ∀ i, vi (sI h (54, 0) c0 (nI (te + 1))) (58, 0) i = vi h (58, 0) i := fun i => vi_sI_ne _ _ _ _ (fun z => (by cases z))
  have g9 : ∀ i, vi (sI h (54, 0) c0 (nI (te + 1))) (59, 0) i = vi h (59, 0) i := fun i => vi_sI_ne _ _ _ _ (fun z => (by cases z))
  refine v_aload_n dX14_readSum_122 rfl ?_
  refine v_getR (some (54, 0)) fl_X14_228 dX14_readSum_123 rfl rfl (Nat.le_of_ble_eq_true rfl) r.2.1.1 r.2.1.2.2.2.1.2.2.2.2.1 ?_
  refine v_iload_n dX14_readSum_126 rfl ?_
  refine v_dup2 dX14_readSum_127 rfl rfl ?_
  refine v_iald dX14_readSum_128 rfl (Nat.le_of_ble_eq_true rfl) r.2.1.2.2.1.2.2.2.2.1 (by rw [show ln h (54, 0) = 12 from r.2.1.2.2.2.2.1.2.2.2.2.1]; exact vp_in_nI hc0 (by decide)) ?_
  rw [ncc, e44]
  refine v_iconst (1) dX14_readSum_129 (by decide) ?_
  refine v_iadd dX14_readSum_130 ?_
  rw [nI_s]
  refine v_iast dX14_readSum_131 rfl (Nat.le_of_ble_eq_true rfl) r.2.1.2.2.1.2.2.2.2.1 (by rw [show ln h (54, 0) = 12 from r.2.1.2.2.2.2.1.2.2.2.2.1]; exact vp_in_nI hc0 (by decide)) ?_
  rw [ncc]
  refine v_aload_n dX14_readSum_132 rfl ?_
  refine v_bipush (43) dX14_readSum_133 (by decide) ?_
  refine v_invVE (M_is g (sI h (54, 0) c0 (nI (te + 1))) hM) dX14_readSum_135 cwX14_is mlX14_249 (ob_32 _) rfl rfl (by omega) (by decide) (Nat.le_of_ble_eq_true rfl) ?_
  refine v_istore_n dX14_readSum_138 (by decide) ?_
  refine v_iload_n dX14_readSum_139 rfl ?_
  refine v_if_eq 147 dX14_readSum_140 (by decide) (fun c140 => ?_) (fun c140 => ?_)
  · refine v_goto 2 dX14_readSum_147 (by decide) ?_
    refine v_iload_n dX14_readSum_2 rfl ?_
    refine v_if_eq 150 dX14_readSum_3 (by decide) (fun _ => ?_) (fun z => absurd c140 z)
    refine v_return dX14_readSum_150 rfl ?_
    exact ⟨rfl, q, te + 1, r1, hq, ht, SE_c_s s g8 g9, vi_sI_eq _ _ _ _, F1, fun y => (t.mi (c := 43) rfl).mpr y c140, hrl⟩
  · have k43 := (t.mi (c := 43) rfl).mp c140
    refine v_aload_n dX14_readSum_143 rfl ?_
    refine v_invV 0 0 (M_nextR_s g _ r1 he hq (by rw [k43]; decide)) dX14_readSum_144 cwX14_next mlX14_220 (ob_32 _) rfl rfl (by omega) (by decide) (Nat.le_of_ble_eq_true rfl) (Nat.le_of_ble_eq_true rfl) (Nat.le_of_ble_eq_true rfl) (fun rv h2 q2 => ?_) (fun a1 h2 q2 => q2.elim)
    obtain ⟨rfl, r2, e2⟩ := q2
    refine v_goto 2 dX14_readSum_147 (by decide) ?_
    rw [mI_1 c140]
    exact ih k43 h2 x4 x5 r2 (SE_plus_s s he hq k43 (fun i => (Ps_row_s e2 (by decide) i).trans (g8 i)) (fun i => (Ps_row_s e2 (by decide) i).trans (g9 i))) ((Ps_row_s e2 (by decide) c0).trans (vi_sI_eq _ _ _ _)) (F1.tr (FrS_s.ps e2 (Ps_2_s e2)))
