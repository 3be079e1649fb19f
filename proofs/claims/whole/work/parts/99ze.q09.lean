set_option maxRecDepth 20000 in
theorem one_at_s (g : G0) {k : Nat} {b : Nat → Int32} {e : Nat} {Z : Hp} {ch te dp : Nat} {nu : Int32} {W M N : Nat → Int32} {h0 : Hp} {q0 cp : Nat} {rl : List mOp} {cd hd : List Int32} {d D : Nat} (hdp : dp ≤ 8) (A : dp + 1 ≤ 8 → AnyC_s g (dp + 1) D) (hD : D + 1 ≤ d + 6) (he : e ≤ 300) (hh : hd.head? ≠ some 10) (hl : cd.length + hd.length + 3 ≤ q0) (hc : cp ≤ 20) (hr : 3 * rl.length ≤ q0) {i : Nat} {h c : Hp} {j q : Nat} {nm sg : Int32} (hi : i ≤ 8) (r : RS_s h k b e q dp cp rl) (cs : CS c b q ch cp te dp i nm sg nu W M N cd (List.replicate i 10 ++ hd)) (hZ : Z = rLp e j 4 c) (hj : e + 1 ≤ q + j) (hq : q ≤ e) (hq0 : q0 + 3 * i ≤ q) (E0 : Eqv (fPs_s k) h0 h) (n10 : ¬ (tok b e q).2.2.1 = 10) : V g kfX14_readOne (d + 8) 0 0 33 [(2, pI (nI i)), (0, pR (32, 0)), (1, pR (34, 0))] [] h (PQ1_s k b e Z ch te dp nu W M N h0 q0 cp rl cd hd) (fun _ _ a h' => PX_s k Z h0 a h') := by
  have hM := r.1
  have t := r.2.2.2.2.1
  refine v_aload_n dX14_readOne_33 rfl ?_
  refine v_bipush (40) dX14_readOne_34 (by decide) ?_
  refine v_invVE (M_is g h hM) dX14_readOne_36 cwX14_is mlX14_249 (ob_32 _) rfl rfl (by omega) (by decide) (Nat.le_of_ble_eq_true rfl) ?_
  refine v_if_eq 108 dX14_readOne_39 (by decide) (fun c39 => ?_) (fun c39 => ?_)
  · exact one_name_s g he hi r cs hh hZ hj hq hq0 hl hc hr E0 n10 (fun y => (t.mi (c := 40) rfl).mpr y c39)
  · exact one_br_s g (d := d + 6) hdp A hD he hi r cs hh hZ hj hq hq0 hl hc hr E0 ((t.mi (c := 40) rfl).mp c39)
set_option maxRecDepth 20000 in
theorem one_loop_s (g : G0) {k : Nat} {b : Nat → Int32} {e : Nat} {Z : Hp} {ch te dp : Nat} {nu : Int32} {W M N : Nat → Int32} {h0 : Hp} {q0 cp : Nat} {rl : List mOp} {cd hd : List Int32} {d D : Nat} (hdp : dp ≤ 8) (A : dp + 1 ≤ 8 → AnyC_s g (dp + 1) D) (hD : D + 1 ≤ d + 6) (he : e ≤ 300) (hh : hd.head? ≠ some 10) (hl : cd.length + hd.length + 3 ≤ q0) (hc : cp ≤ 20) (hr : 3 * rl.length ≤ q0) : ∀ (n : Nat) {i : Nat} {h c : Hp} {j q : Nat} {nm sg : Int32}, i + n = 8 → ∀ (hi : i ≤ 8) (r : RS_s h k b e q dp cp rl) (cs : CS c b q ch cp te dp i nm sg nu W M N cd (List.replicate i 10 ++ hd)) (hZ : Z = rLp e j 4 c) (hj : e + 1 ≤ q + j) (hq : q ≤ e) (hq0 : q0 + 3 * i ≤ q) (E0 : Eqv (fPs_s k) h0 h), V g kfX14_readOne (d + 8) 0 0 2 [(2, pI (nI i)), (0, pR (32, 0)), (1, pR (34, 0))] [] h (PQ1_s k b e Z ch te dp nu W M N h0 q0 cp rl cd hd) (fun _ _ a h' => PX_s k Z h0 a h') := by
  intro n
  induction n with
  | zero =>
    intro i h c j q nm sg hn hi r cs hZ hj hq hq0 E0
    have i8 : i = 8 := by omega
    have hM := r.1
    have t := r.2.2.2.2.1
    obtain ⟨j, rfl⟩ : ∃ j2, j = j2 + 1 := ⟨j - 1, by omega⟩
    refine v_aload_n dX14_readOne_2 rfl ?_
    refine v_ldcS (j := 5) (tx := "not") dX14_readOne_3 (by decide) ?_
    refine v_invVE (M_isWord g h hM (j := 5) (by decide)) dX14_readOne_5 cwX14_isWord mlX14_182 (ob_32 _) rfl rfl (by omega) (by decide) (Nat.le_of_ble_eq_true rfl) ?_
    refine v_if_eq 33 dX14_readOne_8 (by decide) (fun c8 => ?_) (fun c8 => ?_)
    · exact one_at_s g hdp A hD he hh hl hc hr hi r cs hZ hj hq hq0 E0 (fun y => (t.mk (j := 5) (by decide)).mpr y c8)
    · refine v_iload_n dX14_readOne_11 rfl ?_
      refine v_bipush (8) dX14_readOne_12 (by decide) ?_
      refine v_icmp_ne 23 dX14_readOne_14 (by decide) (fun c14 => ?_) (fun c14 => ?_)
      · exact absurd (show nI i = 8 by rw [i8]; rfl) c14
      · refine v_aload_n dX14_readOne_17 rfl ?_
        refine v_iconst (4) dX14_readOne_18 (by decide) ?_
        refine v_invVE (M_stop g h hM) dX14_readOne_19 cwX14_stop mlX14_196 (ob_32 _) rfl rfl (by omega) (by decide) (Nat.le_of_ble_eq_true rfl) ?_
        refine v_athrow dX14_readOne_22 ?_
        exact PX_st_s E0 t (by rw [hZ]; exact ft_not cs (by omega) ((t.mk (j := 5) (by decide)).mp c8) ((nI_eq (b := 8) (by omega) (by decide)).mp c14))
  | succ n ih =>
    intro i h c j q nm sg hn hi r cs hZ hj hq hq0 E0
    have hM := r.1
    have t := r.2.2.2.2.1
    obtain ⟨j, rfl⟩ : ∃ j2, j = j2 + 1 := ⟨j - 1, by omega⟩
    refine v_aload_n dX14_readOne_2 rfl ?_
    refine v_ldcS (j := 5) (tx := "not") dX14_readOne_3 (by decide) ?_
    refine v_invVE (M_isWord g h hM (j := 5) (by decide)) dX14_readOne_5 cwX14_isWord mlX14_182 (ob_32 _) rfl rfl (by omega) (by decide) (Nat.le_of_ble_eq_true rfl) ?_
    refine v_if_eq 33 dX14_readOne_8 (by decide) (fun c8 => ?_) (fun c8 => ?_)
    · exact one_at_s g hdp A hD he hh hl hc hr hi r cs hZ hj hq hq0 E0 (fun y => (t.mk (j := 5) (by decide)).mpr y c8)
    · refine v_iload_n dX14_readOne_11 rfl ?_
      refine v_bipush (8) dX14_readOne_12 (by decide) ?_
      refine v_icmp_ne 23 dX14_readOne_14 (by decide) (fun c14 => ?_) (fun c14 => ?_)
      · refine v_iinc _ dX14_readOne_23 rfl rfl (by decide) ?_
        rw [show nI i + Int32.ofInt 1 = nI (i + 1) from nI_s i]
        change V g _ _ _ _ _ [(2, pI (nI (i + 1))), (0, pR (32, 0)), (1, pR (34, 0))] _ _ _ _
        have k10 := (t.mk (j := 5) (by decide)).mp c8
        refine v_aload_n dX14_readOne_26 rfl ?_
        refine v_invV 0 0 (M_nextR_s g h r he hq (by rw [k10]; decide)) dX14_readOne_27 cwX14_next mlX14_220 (ob_32 _) rfl rfl (by omega) (by decide) (Nat.le_of_ble_eq_true rfl) (Nat.le_of_ble_eq_true rfl) (Nat.le_of_ble_eq_true rfl) (fun rv h2 q2 => ?_) (fun a1 h2 q2 => q2.elim)
        obtain ⟨rfl, r2, e2⟩ := q2
        refine v_goto 2 dX14_readOne_30 (by decide) ?_
        have ad := tok_w (j := 5) he hq (by decide) k10
        have ad2 : q + 3 ≤ (tok b e q).1 := ad
        have q1 := tok_end (b := b) he hq
        have lr : (List.replicate i (10 : Int32)).length = i := List.length_replicate
        obtain ⟨c1, z1, s1⟩ := st_not (j := j) cs (by omega) k10 (by omega)
        rw [aw_lt (by rw [List.length_append, lr]; omega)] at s1
        exact ih (i := i + 1) (by omega) (by omega) r2 s1 (hZ.trans z1) (by omega) q1 (by omega) (E0.tr e2)
      · refine v_aload_n dX14_readOne_17 rfl ?_
        refine v_iconst (4) dX14_readOne_18 (by decide) ?_
        refine v_invVE (M_stop g h hM) dX14_readOne_19 cwX14_stop mlX14_196 (ob_32 _) rfl rfl (by omega) (by decide) (Nat.le_of_ble_eq_true rfl) ?_
        refine v_athrow dX14_readOne_22 ?_
        exact PX_st_s E0 t (by rw [hZ]; exact ft_not cs (by omega) ((t.mk (j := 5) (by decide)).mp c8) ((nI_eq (b := 8) (by omega) (by decide)).mp c14))
set_option maxRecDepth 20000 in
theorem M_readOne_s (g : G0) {k : Nat} {b : Nat → Int32} {e : Nat} {Z : Hp} {ch te dp : Nat} {nu : Int32} {W M N : Nat → Int32} {h c : Hp} {j q cp : Nat} {nm sg : Int32} {rl : List mOp} {cd hd : List Int32} {d D : Nat} (hdp : dp ≤ 8) (A : dp + 1 ≤ 8 → AnyC_s g (dp + 1) D) (hD : D + 1 ≤ d + 6) (he : e ≤ 300) (hh : hd.head? ≠ some 10) (hl : cd.length + hd.length + 3 ≤ q) (hc : cp ≤ 20) (hr : 3 * rl.length ≤ q) (r : RS_s h k b e q dp cp rl) (cs : CS c b q ch cp te dp 0 nm sg nu W M N cd hd) (hZ : Z = rLp e j 4 c) (hj : e + 1 ≤ q + j) (hq : q ≤ e) : Mx g yX14_readOne wX14_readOne (d + 8) [pR (32, 0), pR (34, 0)] h 0 0 (PQ1_s k b e Z ch te dp nu W M N h q cp rl cd hd) (PX_s k Z h) := by
  refine Mx.by kfX14_readOne rfl (by decide) (Nat.le_of_ble_eq_true rfl) ?_
  refine v_iconst (0) dX14_readOne_0 (by decide) ?_
  refine v_istore_n dX14_readOne_1 (by decide) ?_
  exact one_loop_s g hdp A hD he hh hl hc hr 8 (i := 0) rfl (by omega) r cs hZ hj hq (by omega) (Eqv.rf _)
