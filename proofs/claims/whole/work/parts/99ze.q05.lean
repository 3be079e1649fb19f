set_option maxRecDepth 20000 in
theorem one_val_s (g : G0) {k : Nat} {b : Nat → Int32} {e : Nat} {Z : Hp} {ch te dp : Nat} {nu : Int32} {W M N : Nat → Int32} {h0 : Hp} {q0 cp : Nat} {rl : List mOp} {cd hd : List Int32} {d i n s : Nat} {h c : Hp} {j q cp' : Nat} {sg : Int32} (he : e ≤ 300) (hi : i ≤ 8) (hn : n < 5) (hs : s = 60 ∨ s = 62 ∨ s = 61) (hk : (tok b e q).2.2.1 = nI s) (r : RS_s h k b e q dp cp' rl) (cs : CS c b q ch cp' te dp 0 (nI n) sg nu W M N cd (List.replicate i 10 ++ hd)) (hh : hd.head? ≠ some 10) (hZ : Z = rLp e j 5 c) (hj : e + 1 ≤ q + j) (hq : q ≤ e) (hp : 1 + cp = cp') (hq0 : q0 + 3 * i + 3 ≤ q) (hl : cd.length + i + hd.length + 2 ≤ q) (hc : cp' ≤ 20) (hr : 3 * rl.length ≤ q0) (E0 : Eqv (fPs_s k) h0 h) : V g kfX14_readOne (d + 2) 0 0 196 [(4, pI (mSg (nI s))), (3, pI (nI n)), (2, pI (nI i)), (0, pR (32, 0)), (1, pR (34, 0))] [] h (PQ1_s k b e Z ch te dp nu W M N h0 q0 cp rl cd hd) (fun _ _ a h' => PX_s k Z h0 a h') := by
  have hM := r.1
  have k1 : ¬ (tok b e q).2.2.1 = 1 := by rw [hk]; rcases hs with z | z | z <;> (rw [z]; decide)
  have k0 : ¬ (tok b e q).2.2.1 = 0 := by rw [hk]; rcases hs with z | z | z <;> (rw [z]; decide)
  have ad := tok_adv he hq k0
  have q1 := tok_end (b := b) he hq
  have ks : (tok b e q).2.2.1 = 60 ∨ (tok b e q).2.2.1 = 62 ∨ (tok b e q).2.2.1 = 61 := by rw [hk]; rcases hs with z | z | z <;> (rw [z]; decide)
  obtain ⟨j, rfl⟩ : ∃ j', j = j' + 2 := ⟨j - 2, by omega⟩
  obtain ⟨c1, z1, s1⟩ := st_sign (j := j + 1) cs (by omega) ks
  rw [hk] at s1
  rw [z1] at hZ
  refine v_aload_n dX14_readOne_196 rfl ?_
  refine v_invV 0 0 (M_nextR_s g h r he hq k1) dX14_readOne_197 cwX14_next mlX14_220 (ob_32 _) rfl rfl (by omega) (by decide) (Nat.le_of_ble_eq_true rfl) (Nat.le_of_ble_eq_true rfl) (Nat.le_of_ble_eq_true rfl) (fun rv h2 q2 => ?_) (fun a1 h2 q2 => q2.elim)
  obtain ⟨rfl, r2, e2⟩ := q2
  have hM2 := r2.1
  refine v_aload_n dX14_readOne_200 rfl ?_
  refine v_getI fl_X14_156 dX14_readOne_201 rfl rfl (Nat.le_of_ble_eq_true rfl) (mh_32_0 hM2) ?_
  refine v_iconst (3) dX14_readOne_204 (by decide) ?_
  refine v_icmp_eq 214 dX14_readOne_205 (by decide) (fun c205 => ?_) (fun c205 => ?_)
  · refine v_aload_n dX14_readOne_214 rfl ?_
    refine v_iload dX14_readOne_215 rfl ?_
    refine v_iload_n dX14_readOne_217 rfl ?_
    refine v_aload_n dX14_readOne_218 rfl ?_
    refine v_getI fl_X14_173 dX14_readOne_219 rfl rfl (Nat.le_of_ble_eq_true rfl) (mh_32_0 hM2) ?_
    have kn := r2.2.2.2.2.1.num.mp c205
    obtain ⟨u, hu, ev⟩ := tok_num he q1 kn
    rw [show vi h2 (32, 0) 16 = nI u from (r2.2.2.2.2.1.numv kn).trans ev]
    have ad2 := tok_adv he q1 (by rw [kn]; decide)
    have q2 := tok_end (b := b) he q1
    refine v_invVE (M_put33_s g h2 r2.2.1 (n := rl.length) (by omega) r2.2.2.2.2.2.2.2.1) dX14_readOne_222 cwX12_put mlX14_255 ⟨Nat.le_of_ble_eq_true rfl, _, _, rfl, rfl, rfl⟩ rfl rfl (by omega) (by decide) (Nat.le_of_ble_eq_true rfl) ?_
    refine v_aload_n dX14_readOne_225 rfl ?_
    refine v_invV 0 0 (M_nextR_s g _ (RS_put_s r2 (mSg (nI s)) (nI n) (nI u)) he q1 (by rw [kn]; decide)) dX14_readOne_226 cwX14_next mlX14_220 (ob_32 _) rfl rfl (by omega) (by decide) (Nat.le_of_ble_eq_true rfl) (Nat.le_of_ble_eq_true rfl) (Nat.le_of_ble_eq_true rfl) (fun rv h3 q2 => ?_) (fun a1 h3 q2 => q2.elim)
    obtain ⟨rfl, r3, e3⟩ := q2
    obtain ⟨c2, z2, s2⟩ := st_value (j := j) s1 (by omega) kn
    rw [ev, aw_lt (by omega), aRel_rep 10 hh i _ (by show cd.length + 1 + i < 300; omega)] at s2
    exact one_par_s g (Bc := [xMk (nI s) (nI n) (nI u)]) (Bm := [(mSg (nI s), nI n, nI u)]) rfl rfl he hi r3 s2 (hZ.trans z2) (by omega) q2 (Blk_cmp hs hn hu) (opsOK_cmp hs hn) (by rw [nPu_cmp hs hn hu]; exact hp) (by show q0 + 3 * i + 3 * 1 + 2 ≤ _; omega) (by show 1 + cd.length + i + hd.length + 3 ≤ _; omega) hc hr ((E0.tr e2).tr ((mPu_E_s _ _ _ _ _ _).tr e3))
  · refine v_aload_n dX14_readOne_208 rfl ?_
    refine v_iconst (1) dX14_readOne_209 (by decide) ?_
    refine v_invVE (M_stop g h2 hM2) dX14_readOne_210 cwX14_stop mlX14_196 (ob_32 _) rfl rfl (by omega) (by decide) (Nat.le_of_ble_eq_true rfl) ?_
    refine v_athrow dX14_readOne_213 ?_
    exact PX_st_s (E0.tr e2) r2.2.2.2.2.1 (by rw [hZ]; exact ft_value s1 (by omega) (fun y => c205 (r2.2.2.2.2.1.num.mpr y)))
