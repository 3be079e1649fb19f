set_option maxRecDepth 20000 in
theorem reads_strike_s (g : G0) {b : Nat → Int32} {e : Nat} {Z : Hp} {cp k n : Nat} {h0 : Hp} {rl : List mOp} {d q : Nat} {h : Hp} {c : Hp} {j te : Nat} {nm sg nu : Int32} {W M N : Nat → Int32} {cd : List Int32} {m : Nat} (he : e ≤ 300) (hq : q ≤ e) (hn : n < 12) (hcp : cp ≤ 20) (hrl : 3 * rl.length ≤ q) (r : RS_s h k b e q 0 cp rl) (cs : CS c b q (n + 1) cp te 0 0 nm sg nu W M N cd []) (hZ : Z = rLp e j 3 c) (hj : e + 1 ≤ q + j) (hl : cd.length ≤ q) (d0 : DL_s h k W M N n cd rl) (e2 : vi h (34, 0) 2 = nI n) (E0 : Eqv (fRw_s k) h0 h) (w : W n = 6) (h40 : vi h (50, 0) n = 1) (h41 : vi h (51, 0) n = M n) (m1 : 1 ≤ m) (m2 : m ≤ 12) (hm : M n = nI m) (ih : n + 1 ≤ 12 → ∀ (q2 cp2 : Nat) (rl2 : List mOp) (h2 : Hp) (y3 y4 : Int32), LI_s b e Z k (n + 1) cp2 h2 q2 rl2 → Eqv (fRw_s k) h0 h2 → V g kfX14_reads (d + 52) 0 0 26 [(2, pI 1), (4, pI y4), (3, pI y3), (0, pR (32, 0)), (1, pR (34, 0))] [] h2 (PQR_s b e Z k h0) (fun _ _ a h' => PXr_s k Z h0 a h')) : V g kfX14_reads (d + 52) 0 0 184 [(4, pI (nI n)), (3, pI 1), (2, pI 1), (0, pR (32, 0)), (1, pR (34, 0))] [] h (PQR_s b e Z k h0) (fun _ _ a h' => PXr_s k Z h0 a h') := by
  have ncc : (nI n).toNatClampNeg = n := nI_clamp (by omega)
  have hM := r.1
  have e8 := r.2.2.2.2.2.2.2.1
  refine v_aload_n dX14_reads_184 rfl ?_
  refine v_getR (some (52, 0)) fl_X14_235 dX14_reads_185 rfl rfl (Nat.le_of_ble_eq_true rfl) r.2.1.1 r.2.1.2.2.2.1.2.2.1 ?_
  refine v_iload dX14_reads_188 rfl ?_
  refine v_aload_n dX14_reads_190 rfl ?_
  refine v_getI fl_X14_211 dX14_reads_191 rfl rfl (Nat.le_of_ble_eq_true rfl) r.2.1.1 ?_
  rw [e8]
  refine v_iast dX14_reads_194 rfl (Nat.le_of_ble_eq_true rfl) r.2.1.2.2.1.2.2.1 (by show vp_in (nI n) (ln h (52, 0)); rw [show ln h (52, 0) = 12 from r.2.1.2.2.2.2.1.2.2.1]; exact vp_in_nI hn (by decide)) ?_
  rw [ncc]
  refine v_iload_n dX14_reads_195 rfl ?_
  refine v_if_ne 204 dX14_reads_196 (by decide) (fun _ => ?_) (fun z => absurd z (by decide))
  refine v_aload_n dX14_reads_204 rfl ?_
  refine v_getR (some (53, 0)) fl_X14_242 dX14_reads_205 rfl rfl (Nat.le_of_ble_eq_true rfl) r.2.1.1 r.2.1.2.2.2.1.2.2.2.1 ?_
  refine v_iload dX14_reads_208 rfl ?_
  refine v_aload_n dX14_reads_210 rfl ?_
  refine v_getI fl_X14_211 dX14_reads_211 rfl rfl (Nat.le_of_ble_eq_true rfl) r.2.1.1 ?_
  rw [show vi (sI h (52, 0) n (nI rl.length)) (34, 0) 3 = nI rl.length from (row_o (by omega)).trans e8]
  refine v_iast dX14_reads_214 rfl (Nat.le_of_ble_eq_true rfl) r.2.1.2.2.1.2.2.2.1 (by show vp_in (nI n) (ln h (53, 0)); rw [show ln h (53, 0) = 12 from r.2.1.2.2.2.2.1.2.2.2.1]; exact vp_in_nI hn (by decide)) ?_
  rw [ncc]
  refine v_iload_n dX14_reads_215 rfl ?_
  refine v_iconst (2) dX14_reads_216 (by decide) ?_
  refine v_icmp_ne 227 dX14_reads_217 (by decide) (fun _ => ?_) (fun z => absurd z (by decide))
  have r2 : RS_s (sI (sI h (52, 0) n (nI rl.length)) (53, 0) n (nI rl.length)) k b e q 0 cp rl := RS_o_s (RS_o_s r (by decide) n _) (by decide) n _
  have E2 : Eqv (fRw_s k) h0 (sI (sI h (52, 0) n (nI rl.length)) (53, 0) n (nI rl.length)) := E0.tr ((o_E_s h k (by decide) n _).tr (o_E_s _ k (by decide) n _))
  have g2 : ∀ p i, ¬ (p = 52 ∧ i = n) → ¬ (p = 53 ∧ i = n) → vi (sI (sI h (52, 0) n (nI rl.length)) (53, 0) n (nI rl.length)) (p, 0) i = vi h (p, 0) i := fun p i a b => (row_o b).trans (row_o a)
  have d2 : DL_s (sI (sI h (52, 0) n (nI rl.length)) (53, 0) n (nI rl.length)) k W M N n cd rl := DL_w_s (by decide) (DL_w_s (by decide) d0)
  have s2 : TS_s b e Z cp k n (sI (sI h (52, 0) n (nI rl.length)) (53, 0) n (nI rl.length)) q rl := TS_strike_s he hq hn cs hZ hj hl d2 w ((g2 50 n (by omega) (by omega)).trans h40) ((g2 51 n (by omega) (by omega)).trans h41) m1 m2 hm ((row_o (by omega)).trans (vi_sI_eq _ _ _ _)) (vi_sI_eq _ _ _ _)
  exact reads_tail_s g he hq hn hcp hrl r2 s2 ((g2 34 2 (by omega) (by omega)).trans e2) E2 (fun _ h2 y3 y4 li e3 => ih (by omega) _ _ _ h2 y3 y4 li e3)
set_option maxRecDepth 20000 in
theorem reads_order_s (g : G0) {b : Nat → Int32} {e : Nat} {Z : Hp} {cp k n : Nat} {h0 : Hp} {rl : List mOp} {d q : Nat} {h : Hp} {c : Hp} {j te : Nat} {nm sg nu : Int32} {W M N : Nat → Int32} {cd : List Int32} (he : e ≤ 300) (hq : q ≤ e) (hn : n < 12) (hcp : cp ≤ 20) (hrl : 3 * rl.length ≤ q) (r : RS_s h k b e q 0 cp rl) (cs : CS c b q (n + 1) cp te 0 0 nm sg nu W M N cd []) (hZ : Z = rLp e j 8 c) (hte : te = 0) (hj : e + 1 ≤ q + j) (hl : cd.length + 3 ≤ q) (d0 : DL_s h k W M N n cd rl) (e2 : vi h (34, 0) 2 = nI n) (E0 : Eqv (fRw_s k) h0 h) (w : W n = 7) (h40 : vi h (50, 0) n = 2) (h41 : vi h (51, 0) n = M n) (hm : M n = 0) (h44 : vi h (54, 0) n = nI 0) (ih : n + 1 ≤ 12 → ∀ (q2 cp2 : Nat) (rl2 : List mOp) (h2 : Hp) (y3 y4 : Int32), LI_s b e Z k (n + 1) cp2 h2 q2 rl2 → Eqv (fRw_s k) h0 h2 → V g kfX14_reads (d + 52) 0 0 26 [(2, pI 1), (4, pI y4), (3, pI y3), (0, pR (32, 0)), (1, pR (34, 0))] [] h2 (PQR_s b e Z k h0) (fun _ _ a h' => PXr_s k Z h0 a h')) : V g kfX14_reads (d + 52) 0 0 184 [(4, pI (nI n)), (3, pI 2), (2, pI 1), (0, pR (32, 0)), (1, pR (34, 0))] [] h (PQR_s b e Z k h0) (fun _ _ a h' => PXr_s k Z h0 a h') := by
  have ncc : (nI n).toNatClampNeg = n := nI_clamp (by omega)
  have hM := r.1
  have e8 := r.2.2.2.2.2.2.2.1
  have r2 : RS_s (sI (sI h (52, 0) n (nI rl.length)) (53, 0) n (nI rl.length)) k b e q 0 cp rl := RS_o_s (RS_o_s r (by decide) n _) (by decide) n _
  have E2 : Eqv (fRw_s k) h0 (sI (sI h (52, 0) n (nI rl.length)) (53, 0) n (nI rl.length)) := E0.tr ((o_E_s h k (by decide) n _).tr (o_E_s _ k (by decide) n _))
  have g2 : ∀ p i, ¬ (p = 52 ∧ i = n) → ¬ (p = 53 ∧ i = n) → vi (sI (sI h (52, 0) n (nI rl.length)) (53, 0) n (nI rl.length)) (p, 0) i = vi h (p, 0) i := fun p i a b => (row_o b).trans (row_o a)
  have d2 : DL_s (sI (sI h (52, 0) n (nI rl.length)) (53, 0) n (nI rl.length)) k W M N n cd rl := DL_w_s (by decide) (DL_w_s (by decide) d0)
  have sh : SH_s b e Z (n + 1) cp 0 W M N cd [] k n (sI (sI h (52, 0) n (nI rl.length)) (53, 0) n (nI rl.length)) q 0 := ⟨c, j, nm, sg, nu, [], by rw [hte] at cs; exact cs, hj, hZ, rfl, trivial, by show 0 + cd.length + 0 + 3 ≤ q; omega⟩
  have f44 : vi (sI (sI h (52, 0) n (nI rl.length)) (53, 0) n (nI rl.length)) (54, 0) n = nI 0 := (g2 54 n (by omega) (by omega)).trans h44
  refine v_aload_n dX14_reads_184 rfl ?_
  refine v_getR (some (52, 0)) fl_X14_235 dX14_reads_185 rfl rfl (Nat.le_of_ble_eq_true rfl) r.2.1.1 r.2.1.2.2.2.1.2.2.1 ?_
  refine v_iload dX14_reads_188 rfl ?_
  refine v_aload_n dX14_reads_190 rfl ?_
  refine v_getI fl_X14_211 dX14_reads_191 rfl rfl (Nat.le_of_ble_eq_true rfl) r.2.1.1 ?_
  rw [e8]
  refine v_iast dX14_reads_194 rfl (Nat.le_of_ble_eq_true rfl) r.2.1.2.2.1.2.2.1 (by show vp_in (nI n) (ln h (52, 0)); rw [show ln h (52, 0) = 12 from r.2.1.2.2.2.2.1.2.2.1]; exact vp_in_nI hn (by decide)) ?_
  rw [ncc]
  refine v_iload_n dX14_reads_195 rfl ?_
  refine v_if_ne 204 dX14_reads_196 (by decide) (fun _ => ?_) (fun z => absurd z (by decide))
  refine v_aload_n dX14_reads_204 rfl ?_
  refine v_getR (some (53, 0)) fl_X14_242 dX14_reads_205 rfl rfl (Nat.le_of_ble_eq_true rfl) r.2.1.1 r.2.1.2.2.2.1.2.2.2.1 ?_
  refine v_iload dX14_reads_208 rfl ?_
  refine v_aload_n dX14_reads_210 rfl ?_
  refine v_getI fl_X14_211 dX14_reads_211 rfl rfl (Nat.le_of_ble_eq_true rfl) r.2.1.1 ?_
  rw [show vi (sI h (52, 0) n (nI rl.length)) (34, 0) 3 = nI rl.length from (row_o (by omega)).trans e8]
  refine v_iast dX14_reads_214 rfl (Nat.le_of_ble_eq_true rfl) r.2.1.2.2.1.2.2.2.1 (by show vp_in (nI n) (ln h (53, 0)); rw [show ln h (53, 0) = 12 from r.2.1.2.2.2.2.1.2.2.2.1]; exact vp_in_nI hn (by decide)) ?_
  rw [ncc]
  refine v_iload_n dX14_reads_215 rfl ?_
  refine v_iconst (2) dX14_reads_216 (by decide) ?_
  refine v_icmp_ne 227 dX14_reads_217 (by decide) (fun z => absurd rfl z) (fun _ => ?_)
  refine v_aload_n dX14_reads_220 rfl ?_
  refine v_aload_n dX14_reads_221 rfl ?_
  refine v_iload dX14_reads_222 rfl ?_
  refine v_invV 0 0 (M_readSum_s (d := 0) g he hn hq hrl r2 sh f44) dX14_reads_224 cwX14_readSum mlX14_245 (ob_32 _) rfl rfl (by omega) (by decide) (Nat.le_of_ble_eq_true rfl) (Nat.le_of_ble_eq_true rfl) (Nat.le_of_ble_eq_true rfl) (fun rv h5 q2 => ?_) (fun a1 h5 q2 => ⟨q2.1, E2.tr q2.2.1, q2.2.2⟩)
  obtain ⟨rfl, q5, te5, r5, hq5, ht5, s5, f5, F5, n43, hr5⟩ := q2
  have d5 : DL_s h5 k W M N n cd rl := DL_c_s n cd rl ⟨fun p hp i hi => if hp4 : p = 54 then (by subst hp4; exact F5.2.2.1 i (by omega)) else F5.2.1 p (by omega) i, F5.2.2.2.1, F5.2.2.2.2.1, fun _ _ => rfl, fun _ _ => rfl, fun _ _ => rfl⟩ d2
  have s6 : TS_s b e Z cp k n h5 q5 rl := TS_order_s he hq5 hn s5 ht5 n43 d5 w ((F5.2.1 50 (by decide) n).trans ((g2 50 n (by omega) (by omega)).trans h40)) ((F5.2.1 51 (by decide) n).trans ((g2 51 n (by omega) (by omega)).trans h41)) hm ((F5.2.1 52 (by decide) n).trans ((row_o (by omega)).trans (vi_sI_eq _ _ _ _))) ((F5.2.1 53 (by decide) n).trans (vi_sI_eq _ _ _ _)) f5
  exact reads_tail_s g he hq5 hn hcp hr5 r5 s6 (F5.2.2.2.2.2.trans ((g2 34 2 (by omega) (by omega)).trans e2)) (E2.tr F5.1) (fun _ h2 y3 y4 li e3 => ih (by omega) _ _ _ h2 y3 y4 li e3)
