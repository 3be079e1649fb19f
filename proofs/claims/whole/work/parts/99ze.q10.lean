set_option maxRecDepth 20000 in
theorem all_loop_s (g : G0) {k : Nat} {b : Nat → Int32} {e : Nat} {Z : Hp} {ch te dp : Nat} {nu : Int32} {W M N : Nat → Int32} {h0 : Hp} {q0 cp : Nat} {rl : List mOp} {cd hd : List Int32} {d D : Nat} (hdp : dp ≤ 8) (A : dp + 1 ≤ 8 → AnyC_s g (dp + 1) D) (hD : D + 1 ≤ d + 6) (he : e ≤ 300) (hh : hd.head? ≠ some 10) (h9 : hd.head? ≠ some 9) (hr : 3 * rl.length ≤ q0) : ∀ (n : Nat) {h c : Hp} {j q cp' : Nat} {nm sg : Int32} {Bc : List Int32} {Bm : List mOp} {P : List Int32}, e ≤ q + n → ∀ (r : RS_s h k b e q dp cp' (Bm ++ rl)) (cs : CS c b q ch cp' te dp 0 nm sg nu W M N (Bc ++ cd) (P ++ hd)) (hZ : Z = rLp e j 7 c) (hj : e + 1 ≤ q + j) (hq : q ≤ e) (hP : P = [] ∨ P = [9]) (bl : Blk (P ++ Bc) Bm) (ok : opsOK Bm) (hp : nPs Bc + cp = cp') (b1 : q0 + 3 * Bm.length + 2 ≤ q) (b2 : Bc.length + cd.length + P.length + hd.length + 3 ≤ q) (hc : cp' ≤ 20) (E0 : Eqv (fPs_s k) h0 h), V g kfX14_readAll (d + 9) 0 0 5 [(0, pR (32, 0)), (1, pR (34, 0))] [] h (PQL_s k b e Z ch te dp nu W M N h0 q0 cp rl cd hd) (fun _ _ a h' => PX_s k Z h0 a h') := by
  intro n
  induction n with
  | zero =>
    intro h c j q cp' nm sg Bc Bm P hn r cs hZ hj hq hP bl ok hp b1 b2 hc E0
    have hM := r.1
    have t := r.2.2.2.2.1
    have pl : P.length ≤ 1 := by rcases hP with rfl | rfl <;> exact Nat.le_of_ble_eq_true rfl
    refine v_aload_n dX14_readAll_5 rfl ?_
    refine v_ldcS (j := 4) (tx := "and") dX14_readAll_6 (by decide) ?_
    refine v_invVE (M_isWord g h hM (j := 4) (by decide)) dX14_readAll_8 cwX14_isWord mlX14_182 (ob_32 _) rfl rfl (by omega) (by decide) (Nat.le_of_ble_eq_true rfl) ?_
    refine v_if_eq 33 dX14_readAll_11 (by decide) (fun c11 => ?_) (fun c11 => ?_)
    · refine v_return dX14_readAll_33 rfl ?_
      exact ⟨rfl, c, j, q, cp', nm, sg, Bc, Bm, P, r, cs, hZ, hj, hq, hP, bl, ok, hp, b1, b2, hc, E0, fun y => (t.mk (j := 4) (by decide)).mpr y c11⟩
    · have kk := (t.mk (j := 4) (by decide)).mp c11
      have ad2 : q + 3 ≤ (tok b e q).1 := tok_w (j := 4) he hq (by decide) kk
      have q1 := tok_end (b := b) he hq
      omega
  | succ n ih =>
    intro h c j q cp' nm sg Bc Bm P hn r cs hZ hj hq hP bl ok hp b1 b2 hc E0
    have hM := r.1
    have t := r.2.2.2.2.1
    have pl : P.length ≤ 1 := by rcases hP with rfl | rfl <;> exact Nat.le_of_ble_eq_true rfl
    refine v_aload_n dX14_readAll_5 rfl ?_
    refine v_ldcS (j := 4) (tx := "and") dX14_readAll_6 (by decide) ?_
    refine v_invVE (M_isWord g h hM (j := 4) (by decide)) dX14_readAll_8 cwX14_isWord mlX14_182 (ob_32 _) rfl rfl (by omega) (by decide) (Nat.le_of_ble_eq_true rfl) ?_
    refine v_if_eq 33 dX14_readAll_11 (by decide) (fun c11 => ?_) (fun c11 => ?_)
    · refine v_return dX14_readAll_33 rfl ?_
      exact ⟨rfl, c, j, q, cp', nm, sg, Bc, Bm, P, r, cs, hZ, hj, hq, hP, bl, ok, hp, b1, b2, hc, E0, fun y => (t.mk (j := 4) (by decide)).mpr y c11⟩
    · have kk := (t.mk (j := 4) (by decide)).mp c11
      have ad2 : q + 3 ≤ (tok b e q).1 := tok_w (j := 4) he hq (by decide) kk
      have q1 := tok_end (b := b) he hq
      refine v_aload_n dX14_readAll_14 rfl ?_
      refine v_invV 0 0 (M_nextR_s g h r he hq (by rw [kk]; decide)) dX14_readAll_15 cwX14_next mlX14_220 (ob_32 _) rfl rfl (by omega) (by decide) (Nat.le_of_ble_eq_true rfl) (Nat.le_of_ble_eq_true rfl) (Nat.le_of_ble_eq_true rfl) (fun rv h2 q2 => ?_) (fun a1 h2 q2 => q2.elim)
      obtain ⟨rfl, r2, e2⟩ := q2
      obtain ⟨j, rfl⟩ : ∃ j2, j = j2 + 1 := ⟨j - 1, by omega⟩
      obtain ⟨c1, z1, s1⟩ := st_and (j := j) cs (by omega) kk
      have lc : (Bc ++ cd).length = Bc.length + cd.length := List.length_append
      rw [aRel_P hP h9 (by omega)] at s1
      rw [aw_lt (show hd.length < 300 by omega)] at s1
      have lp : (P ++ (Bc ++ cd)).length = P.length + (Bc.length + cd.length) := by rw [List.length_append, lc]
      have lm : (Bm ++ rl).length = Bm.length + rl.length := List.length_append
      refine v_aload_n dX14_readAll_18 rfl ?_
      refine v_aload_n dX14_readAll_19 rfl ?_
      refine v_invV 0 0 (M_readOne_s g hdp A hD he (hd := 9 :: hd) (fun z => absurd (Option.some.inj z) (by decide)) (by rw [lp, List.length_cons]; omega) hc (by rw [lm]; omega) r2 s1 (hZ.trans z1) (by omega) q1) dX14_readAll_20 cwX14_readOne mlX14_258 (ob_32 _) rfl rfl (by omega) (by decide) (Nat.le_of_ble_eq_true rfl) (Nat.le_of_ble_eq_true rfl) (Nat.le_of_ble_eq_true rfl) (fun rv h3 q2 => ?_) (fun a1 h3 q2 => PX_pre_s (E0.tr e2) q2)
      obtain ⟨rfl, c3, j3, q3, cp3, nm3, sg3, Bc3, Bm3, r3, s3, z3, hj3, hq3, bl3, ok3, hp3, x1, x2, hc3, e3⟩ := q2
      have lx : (Bc3 ++ (P ++ (Bc ++ cd))).length = Bc3.length + (P.length + (Bc.length + cd.length)) := by rw [List.length_append, lp]
      rw [lx, List.length_cons] at x2
      have ly : (Bm3 ++ (Bm ++ rl)).length = Bm3.length + (Bm.length + rl.length) := by rw [List.length_append, lm]
      refine v_aload_n dX14_readAll_23 rfl ?_
      refine v_iconst (4) dX14_readAll_24 (by decide) ?_
      refine v_iconst (0) dX14_readAll_25 (by decide) ?_
      refine v_iconst (0) dX14_readAll_26 (by decide) ?_
      refine v_invVE (M_put33_s g h3 r3.2.1 (n := (Bm3 ++ (Bm ++ rl)).length) (by omega) r3.2.2.2.2.2.2.2.1) dX14_readAll_27 cwX12_put mlX14_255 ⟨Nat.le_of_ble_eq_true rfl, _, _, rfl, rfl, rfl⟩ rfl rfl (by omega) (by decide) (Nat.le_of_ble_eq_true rfl) ?_
      refine v_goto 5 dX14_readAll_30 (by decide) ?_
      exact ih (Bc := Bc3 ++ (P ++ Bc)) (Bm := (4, 0, 0) :: (Bm3 ++ Bm)) (P := [9]) (by omega) (by rw [List.cons_append, List.append_assoc]; exact RS_put_s r3 4 0 0) (by rw [List.append_assoc, List.append_assoc]; exact s3) z3 hj3 hq3 (Or.inr rfl) (bl.and bl3) (opsOK_app (Or.inr (Or.inl rfl)) ok3 ok) (by rw [nPs_app, nPs_P hP]; omega) (by rw [List.length_cons, List.length_append]; omega) (by rw [List.length_append, List.length_append]; show Bc3.length + (P.length + Bc.length) + cd.length + 1 + hd.length + 3 ≤ _; omega) hc3 ((E0.tr e2).tr (e3.tr (mPu_E_s _ _ _ _ _ _)))
set_option maxRecDepth 20000 in
theorem M_readAll_s (g : G0) {k : Nat} {b : Nat → Int32} {e : Nat} {Z : Hp} {ch te dp : Nat} {nu : Int32} {W M N : Nat → Int32} {h c : Hp} {j q cp : Nat} {nm sg : Int32} {rl : List mOp} {cd hd : List Int32} {d D : Nat} (hdp : dp ≤ 8) (A : dp + 1 ≤ 8 → AnyC_s g (dp + 1) D) (hD : D + 1 ≤ d + 6) (he : e ≤ 300) (hh : hd.head? ≠ some 10) (h9 : hd.head? ≠ some 9) (hr : 3 * rl.length ≤ q) (hl : cd.length + hd.length + 3 ≤ q) (hc : cp ≤ 20) (r : RS_s h k b e q dp cp rl) (cs : CS c b q ch cp te dp 0 nm sg nu W M N cd hd) (hZ : Z = rLp e j 4 c) (hj : e + 1 ≤ q + j) (hq : q ≤ e) : Mx g yX14_readAll wX14_readAll (d + 9) [pR (32, 0), pR (34, 0)] h 0 0 (PQL_s k b e Z ch te dp nu W M N h q cp rl cd hd) (PX_s k Z h) := by
  refine Mx.by kfX14_readAll rfl (by decide) (Nat.le_of_ble_eq_true rfl) ?_
  refine v_aload_n dX14_readAll_0 rfl ?_
  refine v_aload_n dX14_readAll_1 rfl ?_
  refine v_invV 0 0 (M_readOne_s g hdp A hD he hh hl hc hr r cs hZ hj hq) dX14_readAll_2 cwX14_readOne mlX14_258 (ob_32 _) rfl rfl (by omega) (by decide) (Nat.le_of_ble_eq_true rfl) (Nat.le_of_ble_eq_true rfl) (Nat.le_of_ble_eq_true rfl) (fun rv h3 q2 => ?_) (fun a1 h3 q2 => q2)
  obtain ⟨rfl, c3, j3, q3, cp3, nm3, sg3, Bc3, Bm3, r3, s3, z3, hj3, hq3, bl3, ok3, hp3, x1, x2, hc3, e3⟩ := q2
  have lx : (Bc3 ++ cd).length = Bc3.length + cd.length := List.length_append
  exact all_loop_s g hdp A hD he hh h9 hr e (Bc := Bc3) (Bm := Bm3) (P := []) (by omega) r3 s3 z3 hj3 hq3 (Or.inl rfl) bl3 ok3 hp3 x1 (by show Bc3.length + cd.length + 0 + hd.length + 3 ≤ q3; omega) hc3 e3
