set_option maxRecDepth 20000 in
theorem one_name_s (g : G0) {k : Nat} {b : Nat → Int32} {e : Nat} {Z : Hp} {ch te dp : Nat} {nu : Int32} {W M N : Nat → Int32} {h0 : Hp} {q0 cp : Nat} {rl : List mOp} {cd hd : List Int32} {d i : Nat} {h c : Hp} {j q : Nat} {nm sg : Int32} (he : e ≤ 300) (hi : i ≤ 8) (r : RS_s h k b e q dp cp rl) (cs : CS c b q ch cp te dp i nm sg nu W M N cd (List.replicate i 10 ++ hd)) (hh : hd.head? ≠ some 10) (hZ : Z = rLp e j 4 c) (hj : e + 1 ≤ q + j) (hq : q ≤ e) (hq0 : q0 + 3 * i ≤ q) (hl : cd.length + hd.length + 3 ≤ q0) (hc : cp ≤ 20) (hr : 3 * rl.length ≤ q0) (E0 : Eqv (fPs_s k) h0 h) (n10 : ¬ (tok b e q).2.2.1 = 10) (n40 : ¬ (tok b e q).2.2.1 = 40) : V g kfX14_readOne (d + 8) 0 0 108 [(2, pI (nI i)), (0, pR (32, 0)), (1, pR (34, 0))] [] h (PQ1_s k b e Z ch te dp nu W M N h0 q0 cp rl cd hd) (fun _ _ a h' => PX_s k Z h0 a h') := by
  have hM := r.1
  have t := r.2.2.2.2.1
  have e17 := r.2.2.2.2.2.1
  have e18 := r.2.2.2.2.2.2.1
  obtain ⟨j, rfl⟩ : ∃ j2, j = j2 + 1 := ⟨j - 1, by omega⟩
  refine v_aload_n dX14_readOne_108 rfl ?_
  refine v_invV 0 0 (M_nameHere g h hM t) dX14_readOne_109 cwX14_nameHere mlX14_261 (ob_32 _) rfl rfl (by omega) (by decide) (Nat.le_of_ble_eq_true rfl) (Nat.le_of_ble_eq_true rfl) (Nat.le_of_ble_eq_true rfl) (fun rv h2 q2 => ?_) (fun a1 h2 q2 => (by obtain ⟨rfl, rfl, n4⟩ := q2; exact PX_st_s E0 t (by rw [hZ]; exact ft_one cs (by omega) n10 n40 n4)))
  obtain ⟨k4, rfl, e1⟩ := q2
  obtain ⟨n, hn, vn, q3⟩ := tok_name t he hq k4
  rw [e1]
  change V g _ _ _ _ _ _ (pI (tok b e q).2.2.2 :: _) h _ _
  rw [vn]
  refine v_istore_n dX14_readOne_112 (by decide) ?_
  refine v_aload_n dX14_readOne_113 rfl ?_
  refine v_getI fl_X14_217 dX14_readOne_114 rfl rfl (Nat.le_of_ble_eq_true rfl) (mh_32_0 hM) ?_
  refine v_bipush (20) dX14_readOne_117 (by decide) ?_
  refine v_icmp_ne 128 dX14_readOne_119 (by decide) (fun c119 => ?_) (fun c119 => ?_)
  · refine v_aload_n dX14_readOne_128 rfl ?_
    refine v_dup dX14_readOne_129 rfl ?_
    refine v_getI fl_X14_217 dX14_readOne_130 rfl rfl (Nat.le_of_ble_eq_true rfl) (mh_32_0 hM) ?_
    refine v_iconst (1) dX14_readOne_133 (by decide) ?_
    refine v_iadd dX14_readOne_134 ?_
    refine v_putI fl_X14_217 (fun z => by cases z) dX14_readOne_135 rfl rfl (Nat.le_of_ble_eq_true rfl) rfl rfl (mh_32_0 hM) ?_
    refine v_aload_n dX14_readOne_138 rfl ?_
    refine v_invV 0 0 (M_nextR_s g _ (RS_f_s r (Or.inr rfl) (dp' := dp) (cp' := cp + 1) ((vi_sI_nk _ _ _ (by decide)).trans e17) (by rw [vi_sI_eq, e18]; exact nI_s cp)) he hq (by rw [k4]; decide)) dX14_readOne_139 cwX14_next mlX14_220 (ob_32 _) rfl rfl (by omega) (by decide) (Nat.le_of_ble_eq_true rfl) (Nat.le_of_ble_eq_true rfl) (Nat.le_of_ble_eq_true rfl) (fun rv h2 q2 => ?_) (fun a1 h2 q2 => q2.elim)
    obtain ⟨rfl, r2, e2⟩ := q2
    have c20 : ¬ cp = 20 := fun z => c119 (by rw [e18, z]; rfl)
    obtain ⟨c1, z1, s1⟩ := st_name (j := j) cs (by omega) k4 (by omega)
    rw [vn] at s1
    have q1 := tok_end (b := b) he hq
    exact one_sgn_s g he hi hn r2 s1 hh (hZ.trans z1) (by omega) q1 (Nat.add_comm _ _) (by omega) (by omega) (by omega) hr (E0.tr ((f18_E_s _ _ _).tr e2))
  · refine v_aload_n dX14_readOne_122 rfl ?_
    refine v_iconst (4) dX14_readOne_123 (by decide) ?_
    refine v_invVE (M_stop g h hM) dX14_readOne_124 cwX14_stop mlX14_196 (ob_32 _) rfl rfl (by omega) (by decide) (Nat.le_of_ble_eq_true rfl) ?_
    refine v_athrow dX14_readOne_127 ?_
    exact PX_st_s E0 t (by rw [hZ]; exact ft_name cs (by omega) k4 ((nI_eq (b := 20) (by omega) (by decide)).mp (e18.symm.trans c119)))
