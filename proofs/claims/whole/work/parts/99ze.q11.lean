set_option maxRecDepth 20000 in
theorem any_loop_s (g : G0) {k : Nat} {b : Nat → Int32} {e : Nat} {Z : Hp} {ch te dp : Nat} {nu : Int32} {W M N : Nat → Int32} {h0 : Hp} {q0 cp : Nat} {rl : List mOp} {cd hd : List Int32} {d D : Nat} (hdp : dp ≤ 8) (A : dp + 1 ≤ 8 → AnyC_s g (dp + 1) D) (hD : D + 1 ≤ d + 6) (he : e ≤ 300) (hh : hd.head? ≠ some 10) (h9 : hd.head? ≠ some 9) (hr : 3 * rl.length ≤ q0) : ∀ (n : Nat) {h c : Hp} {j q cp' : Nat} {nm sg : Int32} {Bc : List Int32} {Bm : List mOp} {P : List Int32} {m : Nat}, e ≤ q + n → ∀ (r : RS_s h k b e q dp cp' (Bm ++ rl)) (cs : CS c b q ch cp' te dp 0 nm sg nu W M N (Bc ++ cd) (P ++ (List.replicate m 8 ++ hd))) (hZ : Z = rLp e j 7 c) (hj : e + 1 ≤ q + j) (hq : q ≤ e) (hP : P = [] ∨ P = [9]) (bl : OrB m (P ++ Bc) Bm) (ok : opsOK Bm) (hp : nPs Bc + cp = cp') (b1 : q0 + 3 * Bm.length + 2 ≤ q) (b2 : Bc.length + cd.length + P.length + m + hd.length + 3 ≤ q) (hc : cp' ≤ 20) (E0 : Eqv (fPs_s k) h0 h) (n9 : ¬ (tok b e q).2.2.1 = 9), V g kfX14_readAny (d + 10) 0 0 5 [(0, pR (32, 0)), (1, pR (34, 0))] [] h (PQA_s k b e Z ch te dp nu W M N h0 q0 cp rl cd hd) (fun _ _ a h' => PX_s k Z h0 a h') := by
  intro n
  induction n with
  | zero =>
    intro h c j q cp' nm sg Bc Bm P m hn r cs hZ hj hq hP bl ok hp b1 b2 hc E0 n9
    have hM := r.1
    have t := r.2.2.2.2.1
    have pl : P.length ≤ 1 := by rcases hP with rfl | rfl <;> exact Nat.le_of_ble_eq_true rfl
    refine v_aload_n dX14_readAny_5 rfl ?_
    refine v_ldcS (j := 3) (tx := "or") dX14_readAny_6 (by decide) ?_
    refine v_invVE (M_isWord g h hM (j := 3) (by decide)) dX14_readAny_8 cwX14_isWord mlX14_182 (ob_32 _) rfl rfl (by omega) (by decide) (Nat.le_of_ble_eq_true rfl) ?_
    refine v_if_eq 33 dX14_readAny_11 (by decide) (fun c11 => ?_) (fun c11 => ?_)
    · refine v_return dX14_readAny_33 rfl ?_
      exact ⟨rfl, c, j, q, cp', nm, sg, Bc, Bm, P, m, r, cs, hZ, hj, hq, hP, bl, ok, hp, b1, b2, hc, E0, n9, fun y => (t.mk (j := 3) (by decide)).mpr y c11⟩
    · have kk := (t.mk (j := 3) (by decide)).mp c11
      have ad2 : q + 2 ≤ (tok b e q).1 := tok_w (j := 3) he hq (by decide) kk
      have q1 := tok_end (b := b) he hq
      omega
  | succ n ih =>
    intro h c j q cp' nm sg Bc Bm P m hn r cs hZ hj hq hP bl ok hp b1 b2 hc E0 n9
    have hM := r.1
    have t := r.2.2.2.2.1
    have pl : P.length ≤ 1 := by rcases hP with rfl | rfl <;> exact Nat.le_of_ble_eq_true rfl
    refine v_aload_n dX14_readAny_5 rfl ?_
    refine v_ldcS (j := 3) (tx := "or") dX14_readAny_6 (by decide) ?_
    refine v_invVE (M_isWord g h hM (j := 3) (by decide)) dX14_readAny_8 cwX14_isWord mlX14_182 (ob_32 _) rfl rfl (by omega) (by decide) (Nat.le_of_ble_eq_true rfl) ?_
    refine v_if_eq 33 dX14_readAny_11 (by decide) (fun c11 => ?_) (fun c11 => ?_)
    · refine v_return dX14_readAny_33 rfl ?_
      exact ⟨rfl, c, j, q, cp', nm, sg, Bc, Bm, P, m, r, cs, hZ, hj, hq, hP, bl, ok, hp, b1, b2, hc, E0, n9, fun y => (t.mk (j := 3) (by decide)).mpr y c11⟩
    · have kk := (t.mk (j := 3) (by decide)).mp c11
      have ad2 : q + 2 ≤ (tok b e q).1 := tok_w (j := 3) he hq (by decide) kk
      have q1 := tok_end (b := b) he hq
      refine v_aload_n dX14_readAny_14 rfl ?_
      refine v_invV 0 0 (M_nextR_s g h r he hq (by rw [kk]; decide)) dX14_readAny_15 cwX14_next mlX14_220 (ob_32 _) rfl rfl (by omega) (by decide) (Nat.le_of_ble_eq_true rfl) (Nat.le_of_ble_eq_true rfl) (Nat.le_of_ble_eq_true rfl) (fun rv h2 q2 => ?_) (fun a1 h2 q2 => q2.elim)
      obtain ⟨rfl, r2, e2⟩ := q2
      obtain ⟨j, rfl⟩ : ∃ j2, j = j2 + 1 := ⟨j - 1, by omega⟩
      obtain ⟨c1, z1, s1⟩ := st_or (j := j) cs (by omega) kk
      have lc : (Bc ++ cd).length = Bc.length + cd.length := List.length_append
      rw [aRel_P hP (rep_head (by decide) h9 m) (by omega)] at s1
      have lw : (List.replicate m (8 : Int32) ++ hd).length = m + hd.length := by rw [List.length_append, List.length_replicate]
      rw [aw_lt (show (List.replicate m (8 : Int32) ++ hd).length < 300 by omega)] at s1
      have lp : (P ++ (Bc ++ cd)).length = P.length + (Bc.length + cd.length) := by rw [List.length_append, lc]
      have lm : (Bm ++ rl).length = Bm.length + rl.length := List.length_append
      refine v_aload_n dX14_readAny_18 rfl ?_
      refine v_aload_n dX14_readAny_19 rfl ?_
      refine v_invV 0 0 (M_readAll_s g hdp A hD he (hd := 8 :: (List.replicate m 8 ++ hd)) (fun z => absurd (Option.some.inj z) (by decide)) (fun z => absurd (Option.some.inj z) (by decide)) (by rw [lm]; omega) (by rw [lp, List.length_cons, lw]; omega) hc r2 s1 (hZ.trans z1) (by omega) q1) dX14_readAny_20 cwX14_readAll mlX14_252 (ob_32 _) rfl rfl (by omega) (by decide) (Nat.le_of_ble_eq_true rfl) (Nat.le_of_ble_eq_true rfl) (Nat.le_of_ble_eq_true rfl) (fun rv h3 q2 => ?_) (fun a1 h3 q2 => PX_pre_s (E0.tr e2) q2)
      obtain ⟨rfl, c3, j3, q3, cp3, nm3, sg3, Bc3, Bm3, P3, r3, s3, z3, hj3, hq3, hP3, bl3, ok3, hp3, x1, x2, hc3, e3, n93⟩ := q2
      rw [lp, List.length_cons, lw] at x2
      have ly : (Bm3 ++ (Bm ++ rl)).length = Bm3.length + (Bm.length + rl.length) := by rw [List.length_append, lm]
      refine v_aload_n dX14_readAny_23 rfl ?_
      refine v_iconst (5) dX14_readAny_24 (by decide) ?_
      refine v_iconst (0) dX14_readAny_25 (by decide) ?_
      refine v_iconst (0) dX14_readAny_26 (by decide) ?_
      refine v_invVE (M_put33_s g h3 r3.2.1 (n := (Bm3 ++ (Bm ++ rl)).length) (by omega) r3.2.2.2.2.2.2.2.1) dX14_readAny_27 cwX12_put mlX14_255 ⟨Nat.le_of_ble_eq_true rfl, _, _, rfl, rfl, rfl⟩ rfl rfl (by omega) (by decide) (Nat.le_of_ble_eq_true rfl) ?_
      refine v_goto 5 dX14_readAny_30 (by decide) ?_
      exact ih (Bc := Bc3 ++ (P ++ Bc)) (Bm := (5, 0, 0) :: (Bm3 ++ Bm)) (P := P3) (m := m + 1) (by omega) (by rw [List.cons_append, List.append_assoc]; exact RS_put_s r3 5 0 0) (by rw [List.append_assoc, List.append_assoc]; exact s3) z3 hj3 hq3 hP3 (by rw [← List.append_assoc]; exact bl.or bl3) (opsOK_app (Or.inr (Or.inr rfl)) ok3 ok) (by rw [nPs_app, nPs_P hP]; omega) (by rw [List.length_cons, List.length_append]; omega) (by rw [List.length_append, List.length_append]; omega) hc3 ((E0.tr e2).tr (e3.tr (mPu_E_s _ _ _ _ _ _))) n93
set_option maxRecDepth 20000 in
theorem M_readAny_s (g : G0) {dp d D : Nat} (hdp : dp ≤ 8) (A : dp + 1 ≤ 8 → AnyC_s g (dp + 1) D) (hD : D + 1 ≤ d + 6) : AnyC_s g dp (d + 10) := by
  intro k b e Z ch te nu W M N h q cp rl cd hd c j nm sg he r cs hZ hj hq hl hc hr hh h9
  refine Mx.by kfX14_readAny rfl (by decide) (Nat.le_of_ble_eq_true rfl) ?_
  refine v_aload_n dX14_readAny_0 rfl ?_
  refine v_aload_n dX14_readAny_1 rfl ?_
  refine v_invV 0 0 (M_readAll_s g hdp A hD he hh h9 hr hl hc r cs hZ hj hq) dX14_readAny_2 cwX14_readAll mlX14_252 (ob_32 _) rfl rfl (by omega) (by decide) (Nat.le_of_ble_eq_true rfl) (Nat.le_of_ble_eq_true rfl) (Nat.le_of_ble_eq_true rfl) (fun rv h3 q2 => ?_) (fun a1 h3 q2 => q2)
  obtain ⟨rfl, c3, j3, q3, cp3, nm3, sg3, Bc3, Bm3, P3, r3, s3, z3, hj3, hq3, hP3, bl3, ok3, hp3, x1, x2, hc3, e3, n93⟩ := q2
  exact any_loop_s g hdp A hD he hh h9 hr e (Bc := Bc3) (Bm := Bm3) (P := P3) (m := 0) (by omega) r3 s3 z3 hj3 hq3 hP3 bl3.or0 ok3 hp3 x1 (by omega) hc3 e3 n93
theorem any_all_s (g : G0) : ∀ (n dp : Nat), dp + n = 8 → AnyC_s g dp (5 * n + 10)
  | 0, dp, h => M_readAny_s g (d := 0) (D := 0) (by omega) (fun z => absurd z (by omega)) (by omega)
  | n + 1, dp, h => M_readAny_s g (d := 5 * (n + 1)) (D := 5 * n + 10) (by omega) (fun _ => any_all_s g n (dp + 1) (by omega)) (by omega)
theorem readAny0_s (g : G0) : AnyC_s g 0 50 := any_all_s g 8 0 rfl
