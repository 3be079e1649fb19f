theorem DL_w_s {h : Hp} {k : Nat} {W M N : Nat → Int32} {n : Nat} {cd : List Int32} {rl : List mOp} {p : Nat} {x : Int32} (hp : p < 58) (d : DL_s h k W M N n cd rl) : DL_s (sI h (p, 0) n x) k W M N n cd rl := DL_c_s n cd rl ⟨fun p' _ i hi => row_o (fun z => by omega), fun i _ => row_o (fun z => by omega), fun i _ => row_o (fun z => by omega), fun _ _ => rfl, fun _ _ => rfl, fun _ _ => rfl⟩ d
/-- what the head of a change leaves -/
def HD_s (k n : Nat) (w : Int32) (h h2 : Hp) : Prop := vi h2 (50, 0) n = w ∧ vi h2 (51, 0) n = 0 ∧ vi h2 (54, 0) n = 0 ∧ vi h2 (34, 0) 2 = vi h (34, 0) 2 ∧ Eqv (fRw_s k) h h2 ∧ (∀ p, p = 50 ∨ p = 51 ∨ p = 52 ∨ p = 53 ∨ p = 54 → ∀ i, i < n → vi h2 (p, 0) i = vi h (p, 0) i) ∧ (∀ i, vi h2 (58, 0) i = vi h (58, 0) i) ∧ (∀ i, vi h2 (59, 0) i = vi h (59, 0) i)
def h3w_s (h : Hp) (k n : Nat) (w : Int32) : Hp := sI (sI (sI h (50, 0) n w) (51, 0) n 0) (54, 0) n 0
theorem h3w_HD_s (h : Hp) (k n : Nat) (w : Int32) : HD_s k n w h (h3w_s h k n w) := by
  have o : ∀ p i, ¬ (p = 50 ∧ i = n) → ¬ (p = 51 ∧ i = n) → ¬ (p = 54 ∧ i = n) → vi (h3w_s h k n w) (p, 0) i = vi h (p, 0) i := fun p i a b c => (row_o c).trans ((row_o b).trans (row_o a))
  refine ⟨?_, ?_, vi_sI_eq _ _ _ _, o 34 2 (by omega) (by omega) (by omega), (o_E_s h k (by decide) n w).tr ((o_E_s _ k (by decide) n 0).tr (o_E_s _ k (by decide) n 0)), fun p hp i hi => o p i (by omega) (by omega) (by omega), fun i => o 58 i (by omega) (by omega) (by omega), fun i => o 59 i (by omega) (by omega) (by omega)⟩
  · exact (row_o (p' := 50) (by omega)).trans ((row_o (p' := 50) (by omega)).trans (vi_sI_eq _ _ _ _))
  · exact (row_o (p' := 51) (by omega)).trans (vi_sI_eq _ _ _ _)
theorem HD_s.ps {k n : Nat} {w : Int32} {h h2 h3 : Hp} (a : HD_s k n w h h2) (e : Eqv (fPs_s k) h2 h3) : HD_s k n w h h3 := ⟨(Ps_row_s e (by decide) _).trans a.1, (Ps_row_s e (by decide) _).trans a.2.1, (Ps_row_s e (by decide) _).trans a.2.2.1, (Ps_2_s e).trans a.2.2.2.1, a.2.2.2.2.1.tr (fPs_Rw_s e), fun p hp i hi => (Ps_row_s e (by omega) i).trans (a.2.2.2.2.2.1 p hp i hi), fun i => (Ps_row_s e (by decide) i).trans (a.2.2.2.2.2.2.1 i), fun i => (Ps_row_s e (by decide) i).trans (a.2.2.2.2.2.2.2 i)⟩
theorem h3w_RS_s {h : Hp} {k n : Nat} {w : Int32} {b : Nat → Int32} {e q dp cp : Nat} {rl : List mOp} (r : RS_s h k b e q dp cp rl) : RS_s (h3w_s h k n w) k b e q dp cp rl := RS_o_s (RS_o_s (RS_o_s r (by decide) n w) (by decide) n 0) (by decide) n 0
set_option maxRecDepth 20000 in
theorem reads_h_s (g : G0) {b : Nat → Int32} {e : Nat} {cp k n : Nat} {rl : List mOp} {d q : Nat} {h : Hp} {w : Int32} {Q : Option PV → Hp → Prop} {E : EP} (he : e ≤ 300) (hq : q ≤ e) (hn : n < 12) (r : RS_s h k b e q 0 cp rl) (hk : ¬ (tok b e q).2.2.1 = 1) (cont : ∀ h2, RS_s h2 k b e (tok b e q).1 0 cp rl → HD_s k n w h h2 → V g kfX14_reads (d + 52) 0 0 131 [(4, pI (nI n)), (3, pI w), (2, pI 1), (0, pR (32, 0)), (1, pR (34, 0))] [] h2 Q E) : V g kfX14_reads (d + 52) 0 0 103 [(4, pI (nI n)), (3, pI w), (2, pI 1), (0, pR (32, 0)), (1, pR (34, 0))] [] h Q E := by
  have ncc : (nI n).toNatClampNeg = n := nI_clamp (by omega)
  have hM := r.1
  refine v_aload_n dX14_reads_103 rfl ?_
  refine v_getR (some (50, 0)) fl_X14_223 dX14_reads_104 rfl rfl (Nat.le_of_ble_eq_true rfl) r.2.1.1 r.2.1.2.2.2.1.1 ?_
  refine v_iload dX14_reads_107 rfl ?_
  refine v_iload_n dX14_reads_109 rfl ?_
  refine v_iast dX14_reads_110 rfl (Nat.le_of_ble_eq_true rfl) r.2.1.2.2.1.1 (by show vp_in (nI n) (ln h (50, 0)); rw [show ln h (50, 0) = 12 from r.2.1.2.2.2.2.1.1]; exact vp_in_nI hn (by decide)) ?_
  rw [ncc]
  refine v_aload_n dX14_reads_111 rfl ?_
  refine v_getR (some (51, 0)) fl_X14_226 dX14_reads_112 rfl rfl (Nat.le_of_ble_eq_true rfl) r.2.1.1 r.2.1.2.2.2.1.2.1 ?_
  refine v_iload dX14_reads_115 rfl ?_
  refine v_iconst (0) dX14_reads_117 (by decide) ?_
  refine v_iast dX14_reads_118 rfl (Nat.le_of_ble_eq_true rfl) r.2.1.2.2.1.2.1 (by show vp_in (nI n) (ln h (51, 0)); rw [show ln h (51, 0) = 12 from r.2.1.2.2.2.2.1.2.1]; exact vp_in_nI hn (by decide)) ?_
  rw [ncc]
  refine v_aload_n dX14_reads_119 rfl ?_
  refine v_getR (some (54, 0)) fl_X14_228 dX14_reads_120 rfl rfl (Nat.le_of_ble_eq_true rfl) r.2.1.1 r.2.1.2.2.2.1.2.2.2.2.1 ?_
  refine v_iload dX14_reads_123 rfl ?_
  refine v_iconst (0) dX14_reads_125 (by decide) ?_
  refine v_iast dX14_reads_126 rfl (Nat.le_of_ble_eq_true rfl) r.2.1.2.2.1.2.2.2.2.1 (by show vp_in (nI n) (ln h (54, 0)); rw [show ln h (54, 0) = 12 from r.2.1.2.2.2.2.1.2.2.2.2.1]; exact vp_in_nI hn (by decide)) ?_
  rw [ncc]
  change V g _ _ _ _ _ _ _ (h3w_s h k n w) _ _
  refine v_aload_n dX14_reads_127 rfl ?_
  refine v_invV 0 0 (M_nextR_s g _ (h3w_RS_s r) he hq hk) dX14_reads_128 cwX14_next mlX14_220 (ob_32 _) rfl rfl (by omega) (by decide) (Nat.le_of_ble_eq_true rfl) (Nat.le_of_ble_eq_true rfl) (Nat.le_of_ble_eq_true rfl) (fun rv h2 q2 => ?_) (fun a1 h2 q2 => q2.elim)
  obtain ⟨rfl, r2, e3⟩ := q2
  exact cont h2 r2 ((h3w_HD_s h k n w).ps e3)
set_option maxRecDepth 20000 in
theorem reads_num_s (g : G0) {b : Nat → Int32} {e : Nat} {Z : Hp} {cp k n : Nat} {rl : List mOp} {d q : Nat} {h0 h : Hp} {w : Int32} {Q : Option PV → Hp → Prop} (he : e ≤ 300) (hq : q ≤ e) (hn : n < 12) (r : RS_s h k b e q 0 cp rl) (E0 : Eqv (fRw_s k) h0 h) (ce1 : ¬ (tok b e q).2.2.1 = 2 → CE Z 1 (tok b e q).2.1) (ce3 : (tok b e q).2.2.1 = 2 → (tok b e q).2.2.2 < 1 ∨ 12 < (tok b e q).2.2.2 → CE Z 3 (tok b e q).2.1) (cont : ∀ h2 m, (tok b e q).2.2.1 = 2 → 1 ≤ m → m ≤ 12 → (tok b e q).2.2.2 = nI m → RS_s h2 k b e (tok b e q).1 0 cp rl → vi h2 (51, 0) n = nI m → (∀ p, p = 50 ∨ p = 51 ∨ p = 52 ∨ p = 53 ∨ p = 54 ∨ p = 58 ∨ p = 59 → ∀ i, ¬ (p = 51 ∧ i = n) → vi h2 (p, 0) i = vi h (p, 0) i) → vi h2 (34, 0) 2 = vi h (34, 0) 2 → Eqv (fRw_s k) h0 h2 → V g kfX14_reads (d + 52) 0 0 184 [(4, pI (nI n)), (3, pI w), (2, pI 1), (0, pR (32, 0)), (1, pR (34, 0))] [] h2 Q (fun _ _ a h' => PXr_s k Z h0 a h')) : V g kfX14_reads (d + 52) 0 0 136 [(4, pI (nI n)), (3, pI w), (2, pI 1), (0, pR (32, 0)), (1, pR (34, 0))] [] h Q (fun _ _ a h' => PXr_s k Z h0 a h') := by
  have ncc : (nI n).toNatClampNeg = n := nI_clamp (by omega)
  have hM := r.1
  have t := r.2.2.2.2.1
  refine v_aload_n dX14_reads_136 rfl ?_
  refine v_getI fl_X14_156 dX14_reads_137 rfl rfl (Nat.le_of_ble_eq_true rfl) (mh_32_0 hM) ?_
  refine v_iconst (3) dX14_reads_140 (by decide) ?_
  refine v_icmp_eq 150 dX14_reads_141 (by decide) (fun c141 => ?_) (fun c141 => ?_)
  · have k2 := t.num.mp c141
    obtain ⟨u, hu, hv⟩ := tok_num he hq k2
    have hv2 := (t.numv k2).trans hv
    refine v_aload_n dX14_reads_150 rfl ?_
    refine v_getI fl_X14_173 dX14_reads_151 rfl rfl (Nat.le_of_ble_eq_true rfl) (mh_32_0 hM) ?_
    rw [hv2]
    refine v_iconst (1) dX14_reads_154 (by decide) ?_
    refine v_bipush (12) dX14_reads_155 (by decide) ?_
    refine v_invSE (M_in g h) dX14_reads_157 cwX14_in mlX14_231 rfl rfl (by omega) (by decide) (Nat.le_of_ble_eq_true rfl) ?_
    refine v_if_ne 169 dX14_reads_160 (by decide) (fun c160 => ?_) (fun c160 => ?_)
    · have b1 : ¬ (nI u < 1 ∨ 12 < nI u) := fun z => c160 ((mIn_c hu).mpr z)
      obtain ⟨u1, u2⟩ := mIn_u hu b1
      refine v_aload_n dX14_reads_169 rfl ?_
      refine v_getR (some (51, 0)) fl_X14_226 dX14_reads_170 rfl rfl (Nat.le_of_ble_eq_true rfl) r.2.1.1 r.2.1.2.2.2.1.2.1 ?_
      refine v_iload dX14_reads_173 rfl ?_
      refine v_aload_n dX14_reads_175 rfl ?_
      refine v_getI fl_X14_173 dX14_reads_176 rfl rfl (Nat.le_of_ble_eq_true rfl) (mh_32_0 hM) ?_
      rw [hv2]
      refine v_iast dX14_reads_179 rfl (Nat.le_of_ble_eq_true rfl) r.2.1.2.2.1.2.1 (by show vp_in (nI n) (ln h (51, 0)); rw [show ln h (51, 0) = 12 from r.2.1.2.2.2.2.1.2.1]; exact vp_in_nI hn (by decide)) ?_
      rw [ncc]
      refine v_aload_n dX14_reads_180 rfl ?_
      refine v_invV 0 0 (M_nextR_s g _ (RS_o_s r (by decide) n (nI u)) he hq (by rw [k2]; decide)) dX14_reads_181 cwX14_next mlX14_220 (ob_32 _) rfl rfl (by omega) (by decide) (Nat.le_of_ble_eq_true rfl) (Nat.le_of_ble_eq_true rfl) (Nat.le_of_ble_eq_true rfl) (fun rv h2 q2 => ?_) (fun a1 h2 q2 => q2.elim)
      obtain ⟨rfl, r2, e3⟩ := q2
      exact cont h2 u k2 u1 u2 hv r2 ((Ps_row_s e3 (by decide) n).trans (vi_sI_eq _ _ _ _)) (fun p hp i hne => (Ps_row_s e3 hp i).trans (row_o hne)) ((Ps_2_s e3).trans (row_o (by omega))) (E0.tr ((o_E_s h k (by decide) n _).tr (fPs_Rw_s e3)))
    · refine v_aload_n dX14_reads_163 rfl ?_
      refine v_iconst (3) dX14_reads_164 (by decide) ?_
      refine v_invVE (M_stop g h hM) dX14_reads_165 cwX14_stop mlX14_196 (ob_32 _) rfl rfl (by omega) (by decide) (Nat.le_of_ble_eq_true rfl) ?_
      refine v_athrow dX14_reads_168 ?_
      first | exact PXr_st_s E0 r.2.1 t (ce1 (fun y => c141 (t.num.mpr y))) | exact PXr_st_s E0 r.2.1 t (ce3 k2 (by rw [hv]; exact (mIn_c hu).mp c160))
  · refine v_aload_n dX14_reads_144 rfl ?_
    refine v_iconst (1) dX14_reads_145 (by decide) ?_
    refine v_invVE (M_stop g h hM) dX14_reads_146 cwX14_stop mlX14_196 (ob_32 _) rfl rfl (by omega) (by decide) (Nat.le_of_ble_eq_true rfl) ?_
    refine v_athrow dX14_reads_149 ?_
    first | exact PXr_st_s E0 r.2.1 t (ce1 (fun y => c141 (t.num.mpr y))) | exact PXr_st_s E0 r.2.1 t (ce3 k2 (by rw [hv]; exact (mIn_c hu).mp c160))
