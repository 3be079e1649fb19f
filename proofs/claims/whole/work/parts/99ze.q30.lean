theorem reads_loop_s (g : G0) {b : Nat → Int32} {e : Nat} {Z : Hp} {k : Nat} {h0 : Hp} {d : Nat} (he : e ≤ 300) : ∀ (m n : Nat), n + m = 12 → ∀ (q cp : Nat) (rl : List mOp) (h : Hp) (y3 y4 : Int32), LI_s b e Z k n cp h q rl → Eqv (fRw_s k) h0 h → V g kfX14_reads (d + 52) 0 0 26 [(2, pI 1), (4, pI y4), (3, pI y3), (0, pR (32, 0)), (1, pR (34, 0))] [] h (PQR_s b e Z k h0) (fun _ _ a h' => PXr_s k Z h0 a h')
  | 0, n, hn, q, cp, rl, h, y3, y4, li, E0 => ch_bodyB_s g he (by omega) li E0 (fun z => absurd z (by omega))
  | m + 1, n, hn, q, cp, rl, h, y3, y4, li, E0 => ch_bodyB_s g he (by omega) li E0 (fun _ q2 cp2 rl2 h2 y3 y4 l2 e2 => reads_loop_s g he m (n + 1) (by omega) q2 cp2 rl2 h2 y3 y4 l2 e2)
theorem M_next0_s (g : G0) (h : Hp) {k : Nat} {b : Nat → Int32} {e : Nat} (r1 : SM h) (r2 : SK_s h k) (r3 : vi h (32, 0) 11 = nI e) (h12 : vi h (32, 0) 12 = nI 0) (r4 : ∀ i, i < e → mb h i = b i) (r6 : vi h (32, 0) 17 = nI 0) (r7 : vi h (32, 0) 18 = nI 0) (r8 : vi h (34, 0) 3 = nI 0) (he : e ≤ 300) : Mx g yX14_next wX14_next 1 [pR (32, 0)] h 0 0 (fun rv h' => rv = none ∧ RS_s h' k b e 0 0 0 [] ∧ Eqv (fPs_s k) h h') noX := by
  refine Mx.mono ?_ (fun _ _ z => z) (M_next g h r1 r3 he (Nat.zero_le e) h12 (fun i _ => mb_pos h i))
  rintro rv h' ⟨rfl, rfl⟩
  have t := TR_of (h := h) (e := e) (q := 0) he (Nat.zero_le e) (n := vi h (32, 0) 16) (w := vl h (32, 0) 19)
  refine ⟨rfl, ⟨SMmt r1 _ _ _ _ _ _, ?_, ?_, fun i hi => ?_, TR_c r4 he (Nat.zero_le e) t, ?_, ?_, ?_, trivial⟩, mt_E_s _ _ _ _ _ _ _ _⟩
  · obtain ⟨a1, a2, a3, a4, a5, a6⟩ := r2
    exact ⟨a1, a2, a3, a4, a5, by rw [show vi (mtH h _ _) (34, 0) 2 = vi h (34, 0) 2 from mt_o _ _ _ _ _ _ _ _ (fun z => by cases z)]; exact a6⟩
  · exact (mt_f _ _ _ _ _ _ _ 11 (by decide)).trans r3
  · rw [← r4 i hi]; exact congrFun (mb_mt _ _ _ _ _ _ _) i
  · exact (mt_f _ _ _ _ _ _ _ 17 (by decide)).trans r6
  · exact (mt_f _ _ _ _ _ _ _ 18 (by decide)).trans r7
  · exact (mt_o _ _ _ _ _ _ _ 3 (fun z => by cases z)).trans r8
def hR0_s (h : Hp) (k : Nat) : Hp := sI (sI (sI (sI h (34, 0) 2 0) (34, 0) 3 0) (32, 0) 17 0) (32, 0) 18 0
theorem hR0_E_s (h : Hp) (k : Nat) : Eqv (fRw_s k) h (hR0_s h k) := (s2_E_s h k 0).tr ((show Eqv (fRw_s k) _ (sI _ (34, 0) 3 0) from Eqv.sI (Eqv.rf _) (fRw_2_s k 3 (Or.inr rfl))).tr ((show Eqv (fRw_s k) _ (sI _ (32, 0) 17 0) from Eqv.sI (Eqv.rf _) Bool.false_ne_true).tr (show Eqv (fRw_s k) _ (sI _ (32, 0) 18 0) from Eqv.sI (Eqv.rf _) Bool.false_ne_true)))
theorem hR0_32_s (h : Hp) (k f : Nat) (h1 : ¬ f = 17) (h2 : ¬ f = 18) : vi (hR0_s h k) (32, 0) f = vi h (32, 0) f := (vi_sI_nk _ _ _ h2).trans ((vi_sI_nk _ _ _ h1).trans ((vi_sI_ne _ _ _ _ (fun z => (by cases z))).trans (vi_sI_ne _ _ _ _ (fun z => (by cases z)))))
theorem hR0_2_s (h : Hp) (k : Nat) : vi (hR0_s h k) (34, 0) 2 = nI 0 := (vi_sI_ne _ _ _ _ (fun z => (by cases z))).trans ((vi_sI_ne _ _ _ _ (fun z => (by cases z))).trans ((vi_sI_nk _ _ _ (by decide)).trans (vi_sI_eq _ _ _ _)))
theorem hR0_3_s (h : Hp) (k : Nat) : vi (hR0_s h k) (34, 0) 3 = nI 0 := (vi_sI_ne _ _ _ _ (fun z => (by cases z))).trans ((vi_sI_ne _ _ _ _ (fun z => (by cases z))).trans (vi_sI_eq _ _ _ _))
theorem hR0_17_s (h : Hp) (k : Nat) : vi (hR0_s h k) (32, 0) 17 = nI 0 := (vi_sI_nk _ _ _ (by decide)).trans (vi_sI_eq _ _ _ _)
theorem hR0_18_s (h : Hp) (k : Nat) : vi (hR0_s h k) (32, 0) 18 = nI 0 := vi_sI_eq _ _ _ _
theorem hR0_SM_s {h : Hp} {k : Nat} (m : SM h) : SM (hR0_s h k) := m
theorem hR0_SK_s {h : Hp} {k : Nat} (m : SK_s h k) : SK_s (hR0_s h k) k := ⟨m.1, m.2.1, m.2.2.1, m.2.2.2.1, m.2.2.2.2.1, 0, by decide, hR0_2_s h k⟩
theorem hR0_mb_s (h : Hp) (k i : Nat) : mb (hR0_s h k) i = mb h i := by
  unfold mb
  rw [show vi (hR0_s h k) (37, 0) i = vi h (37, 0) i from (vi_sI_ne _ _ _ _ (fun z => (by cases z))).trans ((vi_sI_ne _ _ _ _ (fun z => (by cases z))).trans ((vi_sI_ne _ _ _ _ (fun z => (by cases z))).trans (vi_sI_ne _ _ _ _ (fun z => (by cases z)))))]
set_option maxRecDepth 20000 in
theorem M_reads_s (g : G0) {b : Nat → Int32} {e : Nat} {Z : Hp} {k : Nat} {h c : Hp} {d j te : Nat} {nm sg nu : Int32} {W M N : Nat → Int32} (he : e ≤ 300) (hM : SM h) (hK : SK_s (hR0_s h k) k) (r3 : vi h (32, 0) 11 = nI e) (h12 : vi h (32, 0) 12 = nI 0) (r4 : ∀ i, i < e → mb h i = b i) (cs : CS c b 0 0 0 te 0 0 nm sg nu W M N [] []) (hZ : Z = rLp e j 0 c) (hj : e + 1 ≤ j) : Mx g yX14_reads wX14_reads (d + 52) [pR (32, 0), pR (34, 0)] h 0 0 (PQR_s b e Z k h) (PXr_s k Z h) := by
  refine Mx.by kfX14_reads rfl (by decide) (Nat.le_of_ble_eq_true rfl) ?_
  refine v_aload_n dX14_reads_0 rfl ?_
  refine v_iconst (0) dX14_reads_1 (by decide) ?_
  refine v_putI fl_X14_208 (fun z => by cases z) dX14_reads_2 rfl rfl (Nat.le_of_ble_eq_true rfl) rfl rfl hK.1 ?_
  refine v_aload_n dX14_reads_5 rfl ?_
  refine v_iconst (0) dX14_reads_6 (by decide) ?_
  refine v_putI fl_X14_211 (fun z => by cases z) dX14_reads_7 rfl rfl (Nat.le_of_ble_eq_true rfl) rfl rfl hK.1 ?_
  refine v_aload_n dX14_reads_10 rfl ?_
  refine v_iconst (0) dX14_reads_11 (by decide) ?_
  refine v_putI fl_X14_214 (fun z => by cases z) dX14_reads_12 rfl rfl (Nat.le_of_ble_eq_true rfl) rfl rfl (mh_32_0 hM) ?_
  refine v_aload_n dX14_reads_15 rfl ?_
  refine v_iconst (0) dX14_reads_16 (by decide) ?_
  refine v_putI fl_X14_217 (fun z => by cases z) dX14_reads_17 rfl rfl (Nat.le_of_ble_eq_true rfl) rfl rfl (mh_32_0 hM) ?_
  change V g _ _ _ _ _ _ _ (hR0_s h k) _ _
  refine v_aload_n dX14_reads_20 rfl ?_
  refine v_invV 0 0 (M_next0_s g (hR0_s h k) (hR0_SM_s hM) hK ((hR0_32_s h k 11 (by decide) (by decide)).trans r3) ((hR0_32_s h k 12 (by decide) (by decide)).trans h12) (fun i hi => (hR0_mb_s h k i).trans (r4 i hi)) (hR0_17_s h k) (hR0_18_s h k) (hR0_3_s h k) he) dX14_reads_21 cwX14_next mlX14_220 (ob_32 _) rfl rfl (by omega) (by decide) (Nat.le_of_ble_eq_true rfl) (Nat.le_of_ble_eq_true rfl) (Nat.le_of_ble_eq_true rfl) (fun rv h2 q2 => ?_) (fun a1 h2 q2 => q2.elim)
  obtain ⟨rfl, r2, e3⟩ := q2
  refine v_iconst (1) dX14_reads_24 (by decide) ?_
  refine v_istore_n dX14_reads_25 (by decide) ?_
  have li : LI_s b e Z k 0 0 h2 0 [] := ⟨r2, Nat.zero_le e, Nat.le_refl 0, Nat.zero_le 20, (Ps_2_s e3).trans (hR0_2_s h k), c, j, te, nm, sg, nu, W, M, N, [], cs, hZ, by omega, Nat.le_refl 0, rfl, rfl⟩
  exact ch_bodyA_s g he (Nat.zero_le 12) li ((hR0_E_s h k).tr (fPs_Rw_s e3)) (fun _ q2 cp2 rl2 h2 y3 y4 l2 e2 => reads_loop_s g he 11 1 rfl q2 cp2 rl2 h2 y3 y4 l2 e2)
