theorem DL_ps {k : Nat} {h h2 : Hp} {W M N : Nat → Int32} {n : Nat} {cd : List Int32} {rl : List mOp} (e : Eqv (fPs k) h h2) (d : DL h k W M N n cd rl) : DL h2 k W M N n cd rl := DL_h (fun p hp i => Ps_row e hp i) d
set_option maxRecDepth 20000 in
theorem reads_put (g : G0) {b : Nat → Int32} {e : Nat} {Z : Hp} {cp k n : Nat} {h0 : Hp} {rl : List mOp} {d q : Nat} {h : Hp} {c : Hp} {j te : Nat} {nm sg nu : Int32} {W M N : Nat → Int32} {cd : List Int32} {m : Nat} (he : e ≤ 300) (hq : q ≤ e) (hn : n < 12) (hcp : cp ≤ 20) (hrl : 3 * rl.length ≤ q) (r : RS h k b e q 0 cp rl) (cs : CS c b q (n + 1) cp te 0 0 nm sg nu W M N cd []) (hZ : Z = rLp e j 4 c) (hj : e + 1 ≤ q + j) (hl : cd.length + 3 ≤ q) (d0 : DL h k W M N n cd rl) (e2 : vi h (33, k) 2 = nI n) (E0 : Eqv (fRw k) h0 h) (w : W n = 5) (h40 : vi h (40, k) n = 0) (h41 : vi h (41, k) n = M n) (m1 : 1 ≤ m) (m2 : m ≤ 12) (hm : M n = nI m) (ih : n + 1 ≤ 12 → ∀ (q2 cp2 : Nat) (rl2 : List mOp) (h2 : Hp) (y3 y4 : Int32), LI b e Z k (n + 1) cp2 h2 q2 rl2 → Eqv (fRw k) h0 h2 → V g kfX14_reads (d + 52) 0 0 26 [(2, pI 1), (4, pI y4), (3, pI y3), (0, pR (32, 0)), (1, pR (33, k))] [] h2 (PQR b e Z k h0) (fun _ _ a h' => PXr k Z h0 a h')) : V g kfX14_reads (d + 52) 0 0 184 [(4, pI (nI n)), (3, pI 0), (2, pI 1), (0, pR (32, 0)), (1, pR (33, k))] [] h (PQR b e Z k h0) (fun _ _ a h' => PXr k Z h0 a h') := by
  have ncc : (nI n).toNatClampNeg = n := nI_clamp (by omega)
  have hM := r.1
  have e8 := r.2.2.2.2.2.2.2.1
  have r1 : RS (sI h (42, k) n (nI rl.length)) k b e q 0 cp rl := RS_o r (by decide) n _
  have E1 : Eqv (fRw k) h0 (sI h (42, k) n (nI rl.length)) := E0.tr (o_E h k (by decide) n _)
  have d1 : DL (sI h (42, k) n (nI rl.length)) k W M N n cd rl := DL_w (by decide) d0
  have an := readAny0 g k b e Z (n + 1) te nu W M N (sI h (42, k) n (nI rl.length)) q cp rl cd [] c j nm sg he r1 cs hZ hj hq (by show cd.length + 0 + 3 ≤ q; omega) hcp hrl (fun z => (by cases z)) (fun z => (by cases z))
  refine v_aload_n dX14_reads_184 rfl ?_
  refine v_getR (some (42, k)) fl_X14_235 dX14_reads_185 rfl rfl (Nat.le_of_ble_eq_true rfl) r.2.1.1 r.2.1.2.2.2.1.2.2.1 ?_
  refine v_iload dX14_reads_188 rfl ?_
  refine v_aload_n dX14_reads_190 rfl ?_
  refine v_getI fl_X14_211 dX14_reads_191 rfl rfl (Nat.le_of_ble_eq_true rfl) r.2.1.1 ?_
  rw [e8]
  refine v_iast dX14_reads_194 rfl (Nat.le_of_ble_eq_true rfl) r.2.1.2.2.1.2.2.1 (by rw [show ln h (42, k) = 12 from r.2.1.2.2.2.2.1.2.2.1]; exact vp_in_nI hn (by decide)) ?_
  rw [ncc]
  refine v_iload_n dX14_reads_195 rfl ?_
  refine v_if_ne 204 dX14_reads_196 (by decide) (fun z => absurd (by decide) z) (fun _ => ?_)
  refine v_aload_n dX14_reads_199 rfl ?_
  refine v_aload_n dX14_reads_200 rfl ?_
  refine v_invV 0 0 (an) dX14_reads_201 cwX14_readAny mlX14_238 (ob_32 _) rfl rfl (by omega) (by decide) (Nat.le_of_ble_eq_true rfl) (Nat.le_of_ble_eq_true rfl) (Nat.le_of_ble_eq_true rfl) (fun rv h5 q2 => ?_) (fun a1 h5 q2 => PXr_of E1 r1.2.1 q2)
  obtain ⟨rfl, c5, j5, q5, cp5, nm5, sg5, Bc, Bm, P, mm, r5, cs5, hZ5, hj5, hq5, hP, bl, ok, hc5, hl5, hg5, hcp5, e5, n9, n8⟩ := q2
  have r6 : RS (sI h5 (43, k) n (nI (Bm ++ rl).length)) k b e q5 0 cp5 (Bm ++ rl) := RS_o r5 (by decide) n _
  have E6 : Eqv (fRw k) h0 (sI h5 (43, k) n (nI (Bm ++ rl).length)) := E1.tr ((fPs_Rw e5).tr (o_E _ k (by decide) n _))
  have g6 : ∀ p, p = 40 ∨ p = 41 ∨ p = 42 ∨ p = 43 ∨ p = 44 ∨ p = 48 ∨ p = 49 → ∀ i, ¬ (p = 43 ∧ i = n) → vi (sI h5 (43, k) n (nI (Bm ++ rl).length)) (p, k) i = vi (sI h (42, k) n (nI rl.length)) (p, k) i := fun p hp i a => (row_o a).trans (Ps_row e5 hp i)
  have d6 : DL (sI h5 (43, k) n (nI (Bm ++ rl).length)) k W M N n cd rl := DL_w (by decide) (DL_ps e5 d1)
  have e86 := r5.2.2.2.2.2.2.2.1
  have lr : (Bm ++ rl).length = Bm.length + rl.length := List.length_append
  have lc : (Bc ++ cd).length = Bc.length + cd.length := List.length_append
  have l0 : ([] : List Int32).length = 0 := rfl
  have s6 : TS b e Z cp5 k n (sI h5 (43, k) n (nI (Bm ++ rl).length)) q5 (Bm ++ rl) := TS_put he hq5 hn cs5 hZ5 hj5 hP bl ok (by omega) (by omega) n9 n8 d6 w ((g6 40 (by decide) n (by omega)).trans ((row_o (by omega)).trans h40)) ((g6 41 (by decide) n (by omega)).trans ((row_o (by omega)).trans h41)) m1 m2 hm ((g6 42 (by decide) n (by omega)).trans (vi_sI_eq _ _ _ _)) (vi_sI_eq _ _ _ _)
  have e26 : vi (sI h5 (43, k) n (nI (Bm ++ rl).length)) (33, k) 2 = nI n := (row_o (by omega)).trans ((Ps_2 e5).trans ((row_o (by omega)).trans e2))
  refine v_aload_n dX14_reads_204 rfl ?_
  refine v_getR (some (43, k)) fl_X14_242 dX14_reads_205 rfl rfl (Nat.le_of_ble_eq_true rfl) r5.2.1.1 r5.2.1.2.2.2.1.2.2.2.1 ?_
  refine v_iload dX14_reads_208 rfl ?_
  refine v_aload_n dX14_reads_210 rfl ?_
  refine v_getI fl_X14_211 dX14_reads_211 rfl rfl (Nat.le_of_ble_eq_true rfl) r5.2.1.1 ?_
  rw [e86]
  refine v_iast dX14_reads_214 rfl (Nat.le_of_ble_eq_true rfl) r5.2.1.2.2.1.2.2.2.1 (by rw [show ln h5 (43, k) = 12 from r5.2.1.2.2.2.2.1.2.2.2.1]; exact vp_in_nI hn (by decide)) ?_
  rw [ncc]
  refine v_iload_n dX14_reads_215 rfl ?_
  refine v_iconst (2) dX14_reads_216 (by decide) ?_
  refine v_icmp_ne 227 dX14_reads_217 (by decide) (fun _ => ?_) (fun z => absurd z (by decide))
  exact reads_tail g he hq5 hn hcp5 (by omega) r6 s6 e26 E6 (fun _ h2 y3 y4 li e3 => ih (by omega) _ _ _ h2 y3 y4 li e3)
