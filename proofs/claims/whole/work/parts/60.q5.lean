theorem QB.ord {h : Hp} {n : Nat} {w : Int32} {D : Nat} (b : QB h n w D) : vr h (15, 0) 0 = none ∨ ∃ k c, k < n ∧ c < chN h k ∧ vr h (15, 0) 0 = some (8, offN h k + c) ∧ OrdR h k c (offN h k + c) := by
  obtain ⟨b1, b2, b3, b4, b5, b6, b7⟩ := b
  have R := fB_rel b2.2.1 b3 (w := w) (d := nI D) (nu := 0) (by omega) 0
  have eL := b7 0 (by omega)
  rcases R with ⟨z1, z2⟩ | ⟨k, c, hk, hc, z1, z2, z3⟩
  · exact Or.inl (eL.trans z2)
  · have r := (b3.2 k hk).2 c hc
    rcases r.2.2.2 with ⟨m', m1, m2, m3, m4, -⟩ | ⟨w1, w2, w3, w4⟩
    · rw [z3] at m4
      have := (nI_eq (by omega) (by omega)).mp m4
      omega
    · exact Or.inr ⟨k, c, hk, hc, eL.trans z2, w4⟩
theorem QB.tell5 {h : Hp} {n : Nat} {w : Int32} {D : Nat} (b : QB h n w D) {p m : Nat} (hp : p < cn h 9) (hm : m ≤ 5) : ∃ u, u ≤ 40000 ∧ xTell h p m (nI D) = nI u := by
  by_cases z : m = 5
  · rw [z]; exact ⟨1, by omega, rfl⟩
  · exact (b.tell hp (m := m) (by omega)).2
theorem xSm_pos {h : Hp} {n : Nat} {w : Int32} {D : Nat} (b : QB h n w D) {k c x p : Nat} (hp : p < cn h 9) (r : OrdR h k c x) : ∀ (j i S : Nat), i + j = ln h (17, x) → S ≤ i * 399960000 → ∃ R, R ≤ (i + j) * 399960000 ∧ xSm h x p (nI D) j i (nI S) = nI R
  | 0, i, S, _, hS => ⟨S, hS, rfl⟩
  | j + 1, i, S, hi, hS => by
    obtain ⟨t, ht, et, el, hr⟩ := r
    obtain ⟨u, m, hu, e1, e2, e3, e4⟩ := hr i (by omega)
    obtain ⟨v, hv, ev⟩ := b.tell5 (m := m) hp (by omega)
    have hm : u * v ≤ 9999 * 40000 := Nat.mul_le_mul hu hv
    rw [xSm, e2, e3, ev, nI_mul, nI_add]
    obtain ⟨R, hR, eR⟩ := xSm_pos b hp ⟨t, ht, et, el, hr⟩ j (i + 1) (S + u * v) (by omega) (by rw [Nat.add_mul]; omega)
    exact ⟨R, by rw [show i + (j + 1) = i + 1 + j by omega]; exact hR, eR⟩
theorem rank_ok {h : Hp} {n : Nat} {w : Int32} {D : Nat} (b : QB h n w D) {p : Nat} (hp : p < cn h 9) : ∃ R, R < 2 ^ 31 ∧ xRank h p (nI D) = nI R := by
  rcases b.ord with z | ⟨k, c, hk, hc, z, r⟩
  · exact ⟨0, by decide, by rw [xRank, z]; rfl⟩
  · obtain ⟨R, hR, eR⟩ := xSm_pos b hp r (ln h (17, offN h k + c)) 0 0 (by omega) (by omega)
    obtain ⟨t, ht, et, el, -⟩ := r
    refine ⟨R, ?_, ?_⟩
    · rw [el, Nat.zero_add] at hR
      have : t * 399960000 ≤ 4 * 399960000 := Nat.mul_le_mul_right _ ht
      omega
    · rw [xRank, z]; exact eR
set_option maxRecDepth 20000 in
theorem M_ord_loop (g : G0) (h : Hp) {n : Nat} {w : Int32} {D : Nat} (b : QB h n w D) {k c p t : Nat} (hk : k < n) (hc : c < chN h k) (hp : p < cn h 9) (ht : t ≤ 4) (et : vi h (44, k) c = nI t) (r : OrdR h k c (offN h k + c)) {h0 h' : Hp} (q : Qf h h0 h') (e21 : vi h' (32, 0) 21 = nI c) : ∀ (j i : Nat) (s x : Int32), i + j = t → x = nI (4 * c + i) → V g kfX14_orderOf 2 0 0 34 [(0, pR (32, 0)), (1, pI (nI p)), (2, pI w), (3, pI (nI D)), (4, pR (33, k)), (5, pI s), (6, pI x)] [] h' (fun r h2 => r = some (pI (xSm h (offN h k + c) p (nI D) j i s)) ∧ Qf h h0 h2) (fun _ _ a h2 => noX a h2) := by
  have hM' := SMQ b.1.1.1 q
  have hk' := SKQ (b.2.1.2.2.2 k hk) q
  have n40 := b.2.1.2.1
  have p40 := b.2.2.2.1.2.1
  have c12 := (b.2.2.1.2 k hk).1
  have ncc : (nI c).toNatClampNeg = c := nI_clamp (by omega)
  obtain ⟨t2, ht2, et2, el, hr⟩ := r
  have t12 : t2 = t := (nI_eq (by omega) (by omega)).mp (et2.symm.trans et)
  subst t12
  intro j
  induction j with
  | zero =>
    intro i s x hij hx
    subst hx
    refine v_iload dX14_orderOf_34 rfl ?_
    refine v_iconst (4) dX14_orderOf_36 (by decide) ?_
    refine v_aload_n dX14_orderOf_37 rfl ?_
    refine v_getI fl_X14_298 dX14_orderOf_38 rfl rfl (Nat.le_of_ble_eq_true rfl) (mh_32_0 hM') ?_
    rw [e21]
    refine v_imul dX14_orderOf_41 ?_
    rw [show (4 : Int32) * nI c = nI (4 * c) from nI_mul 4 c]
    refine v_aload dX14_orderOf_42 rfl ?_
    refine v_getR (some (44, k)) fl_X14_228 dX14_orderOf_44 rfl rfl (Nat.le_of_ble_eq_true rfl) hk'.1 hk'.2.2.2.1.2.2.2.2.1 ?_
    refine v_aload_n dX14_orderOf_47 rfl ?_
    refine v_getI fl_X14_298 dX14_orderOf_48 rfl rfl (Nat.le_of_ble_eq_true rfl) (mh_32_0 hM') ?_
    rw [e21]
    refine v_iald dX14_orderOf_51 rfl (Nat.le_of_ble_eq_true rfl) hk'.2.2.1.2.2.2.2.1 (by rw [hk'.2.2.2.2.1.2.2.2.2.1]; exact vp_in_nI (by omega) (by decide)) ?_
    rw [ncc, q.v (by decide) (by decide), et]
    refine v_iadd dX14_orderOf_52 ?_
    rw [nI_add]
    refine v_icmp_ge 106 dX14_orderOf_53 (by decide) (fun _ => ?_) (fun z => absurd (nI_le (by omega) (by omega)) z)
    refine v_iload dX14_orderOf_106 rfl ?_
    refine v_ireturn dX14_orderOf_108 rfl rfl ?_
    exact ⟨rfl, q⟩
  | succ j ih =>
    intro i s x hij hx
    subst hx
    have nci : (nI (4 * c + i)).toNatClampNeg = 4 * c + i := nI_clamp (by omega)
    obtain ⟨u, m, hu, e1, e2, e3, e4⟩ := hr i (by omega)
    rcases e4 with ⟨m5, e4⟩ | ⟨m5, e4⟩
    · refine v_iload dX14_orderOf_34 rfl ?_
      refine v_iconst (4) dX14_orderOf_36 (by decide) ?_
      refine v_aload_n dX14_orderOf_37 rfl ?_
      refine v_getI fl_X14_298 dX14_orderOf_38 rfl rfl (Nat.le_of_ble_eq_true rfl) (mh_32_0 hM') ?_
      rw [e21]
      refine v_imul dX14_orderOf_41 ?_
      rw [show (4 : Int32) * nI c = nI (4 * c) from nI_mul 4 c]
      refine v_aload dX14_orderOf_42 rfl ?_
      refine v_getR (some (44, k)) fl_X14_228 dX14_orderOf_44 rfl rfl (Nat.le_of_ble_eq_true rfl) hk'.1 hk'.2.2.2.1.2.2.2.2.1 ?_
      refine v_aload_n dX14_orderOf_47 rfl ?_
      refine v_getI fl_X14_298 dX14_orderOf_48 rfl rfl (Nat.le_of_ble_eq_true rfl) (mh_32_0 hM') ?_
      rw [e21]
      refine v_iald dX14_orderOf_51 rfl (Nat.le_of_ble_eq_true rfl) hk'.2.2.1.2.2.2.2.1 (by rw [hk'.2.2.2.2.1.2.2.2.2.1]; exact vp_in_nI (by omega) (by decide)) ?_
      rw [ncc, q.v (by decide) (by decide), et]
      refine v_iadd dX14_orderOf_52 ?_
      rw [nI_add]
      refine v_icmp_ge 106 dX14_orderOf_53 (by decide) (fun z => absurd z (nI_ge (by omega) (by omega))) (fun _ => ?_)
      refine v_iload dX14_orderOf_56 rfl ?_
      refine v_aload dX14_orderOf_58 rfl ?_
      refine v_getR (some (49, k)) fl_X14_264 dX14_orderOf_60 rfl rfl (Nat.le_of_ble_eq_true rfl) hk'.1 hk'.2.2.2.1.2.2.2.2.2.2.2.2.2 ?_
      refine v_iload dX14_orderOf_63 rfl ?_
      refine v_iald dX14_orderOf_65 rfl (Nat.le_of_ble_eq_true rfl) hk'.2.2.1.2.2.2.2.2.2.2.2.2 (by rw [hk'.2.2.2.2.1.2.2.2.2.2.2.2.2.2]; exact vp_in_nI (by omega) (by decide)) ?_
      rw [nci, q.v (by decide) (by decide), e1]
      refine v_aload dX14_orderOf_66 rfl ?_
      refine v_getR (some (48, k)) fl_X14_267 dX14_orderOf_68 rfl rfl (Nat.le_of_ble_eq_true rfl) hk'.1 hk'.2.2.2.1.2.2.2.2.2.2.2.2.1 ?_
      refine v_iload dX14_orderOf_71 rfl ?_
      refine v_iald dX14_orderOf_73 rfl (Nat.le_of_ble_eq_true rfl) hk'.2.2.1.2.2.2.2.2.2.2.2.1 (by rw [hk'.2.2.2.2.1.2.2.2.2.2.2.2.2.1]; exact vp_in_nI (by omega) (by decide)) ?_
      rw [nci, q.v (by decide) (by decide), e4]
      refine v_iconst (-1) dX14_orderOf_74 (by decide) ?_
      refine v_icmp_ne 82 dX14_orderOf_75 (by decide) (fun z => absurd rfl z) (fun _ => ?_)
      refine v_iconst (1) dX14_orderOf_78 (by decide) ?_
      refine v_goto 96 dX14_orderOf_79 (by decide) ?_
      refine v_imul dX14_orderOf_96 ?_
      refine v_iadd dX14_orderOf_97 ?_
      refine v_istore dX14_orderOf_98 (by decide) ?_
      refine v_iinc _ dX14_orderOf_100 rfl rfl (by decide) ?_
      refine v_goto 34 dX14_orderOf_103 (by decide) ?_
      refine v_loc [(0, pR (32, 0)), (1, pI (nI p)), (2, pI w), (3, pI (nI D)), (4, pR (33, k)), (5, pI (s + nI u * 1)), (6, pI (nI (4 * c + i) + 1))] rfl ?_
      rw [xSm, e2, e3, m5]
      exact ih (i + 1) _ _ (by omega) (nI_1 _)
    · refine v_iload dX14_orderOf_34 rfl ?_
      refine v_iconst (4) dX14_orderOf_36 (by decide) ?_
      refine v_aload_n dX14_orderOf_37 rfl ?_
      refine v_getI fl_X14_298 dX14_orderOf_38 rfl rfl (Nat.le_of_ble_eq_true rfl) (mh_32_0 hM') ?_
      rw [e21]
      refine v_imul dX14_orderOf_41 ?_
      rw [show (4 : Int32) * nI c = nI (4 * c) from nI_mul 4 c]
      refine v_aload dX14_orderOf_42 rfl ?_
      refine v_getR (some (44, k)) fl_X14_228 dX14_orderOf_44 rfl rfl (Nat.le_of_ble_eq_true rfl) hk'.1 hk'.2.2.2.1.2.2.2.2.1 ?_
      refine v_aload_n dX14_orderOf_47 rfl ?_
      refine v_getI fl_X14_298 dX14_orderOf_48 rfl rfl (Nat.le_of_ble_eq_true rfl) (mh_32_0 hM') ?_
      rw [e21]
      refine v_iald dX14_orderOf_51 rfl (Nat.le_of_ble_eq_true rfl) hk'.2.2.1.2.2.2.2.1 (by rw [hk'.2.2.2.2.1.2.2.2.2.1]; exact vp_in_nI (by omega) (by decide)) ?_
      rw [ncc, q.v (by decide) (by decide), et]
      refine v_iadd dX14_orderOf_52 ?_
      rw [nI_add]
      refine v_icmp_ge 106 dX14_orderOf_53 (by decide) (fun z => absurd z (nI_ge (by omega) (by omega))) (fun _ => ?_)
      refine v_iload dX14_orderOf_56 rfl ?_
      refine v_aload dX14_orderOf_58 rfl ?_
      refine v_getR (some (49, k)) fl_X14_264 dX14_orderOf_60 rfl rfl (Nat.le_of_ble_eq_true rfl) hk'.1 hk'.2.2.2.1.2.2.2.2.2.2.2.2.2 ?_
      refine v_iload dX14_orderOf_63 rfl ?_
      refine v_iald dX14_orderOf_65 rfl (Nat.le_of_ble_eq_true rfl) hk'.2.2.1.2.2.2.2.2.2.2.2.2 (by rw [hk'.2.2.2.2.1.2.2.2.2.2.2.2.2.2]; exact vp_in_nI (by omega) (by decide)) ?_
      rw [nci, q.v (by decide) (by decide), e1]
      refine v_aload dX14_orderOf_66 rfl ?_
      refine v_getR (some (48, k)) fl_X14_267 dX14_orderOf_68 rfl rfl (Nat.le_of_ble_eq_true rfl) hk'.1 hk'.2.2.2.1.2.2.2.2.2.2.2.2.1 ?_
      refine v_iload dX14_orderOf_71 rfl ?_
      refine v_iald dX14_orderOf_73 rfl (Nat.le_of_ble_eq_true rfl) hk'.2.2.1.2.2.2.2.2.2.2.2.1 (by rw [hk'.2.2.2.2.1.2.2.2.2.2.2.2.2.1]; exact vp_in_nI (by omega) (by decide)) ?_
      rw [nci, q.v (by decide) (by decide), e4]
      refine v_iconst (-1) dX14_orderOf_74 (by decide) ?_
      refine v_icmp_ne 82 dX14_orderOf_75 (by decide) (fun _ => ?_) (fun z => absurd z (nI_ne1 (by omega)))
      refine v_aload_n dX14_orderOf_82 rfl ?_
      refine v_iload_n dX14_orderOf_83 rfl ?_
      refine v_iload_n dX14_orderOf_84 rfl ?_
      refine v_aload dX14_orderOf_85 rfl ?_
      refine v_getR (some (48, k)) fl_X14_267 dX14_orderOf_87 rfl rfl (Nat.le_of_ble_eq_true rfl) hk'.1 hk'.2.2.2.1.2.2.2.2.2.2.2.2.1 ?_
      refine v_iload dX14_orderOf_90 rfl ?_
      refine v_iald dX14_orderOf_92 rfl (Nat.le_of_ble_eq_true rfl) hk'.2.2.1.2.2.2.2.2.2.2.2.1 (by rw [hk'.2.2.2.2.1.2.2.2.2.2.2.2.2.1]; exact vp_in_nI (by omega) (by decide)) ?_
      rw [nci, q.v (by decide) (by decide), e4]
      refine v_invVE (M_factQ g h b.1 q (by omega) m5) dX14_orderOf_93 cwX14_factOf mlX14_323 (ob_32 _) rfl rfl (by decide) (by decide) (Nat.le_of_ble_eq_true rfl) ?_
      refine v_imul dX14_orderOf_96 ?_
      refine v_iadd dX14_orderOf_97 ?_
      refine v_istore dX14_orderOf_98 (by decide) ?_
      refine v_iinc _ dX14_orderOf_100 rfl rfl (by decide) ?_
      refine v_goto 34 dX14_orderOf_103 (by decide) ?_
      refine v_loc [(0, pR (32, 0)), (1, pI (nI p)), (2, pI w), (3, pI (nI D)), (4, pR (33, k)), (5, pI (s + nI u * mFc h p m (nI D))), (6, pI (nI (4 * c + i) + 1))] rfl ?_
      rw [xSm, e2, e3, (b.tell hp m5).1]
      exact ih (i + 1) _ _ (by omega) (nI_1 _)
set_option maxRecDepth 20000 in
theorem M_ord (g : G0) (h : Hp) {n : Nat} {w : Int32} {D : Nat} (b : QB h n w D) {h0 h' : Hp} (q : Qf h h0 h') {p : Nat} (hp : p < cn h 9) : Mx g yX14_orderOf wX14_orderOf 2 [pR (32, 0), pI (nI p), pI w, pI (nI D)] h' 0 0 (fun r h2 => r = some (pI (xRank h p (nI D))) ∧ Qf h h0 h2) noX := by
  have hM' := SMQ b.1.1.1 q
  have n40 := b.2.1.2.1
  have p40 := b.2.2.2.1.2.1
  refine Mx.by kfX14_orderOf rfl (by decide) (Nat.le_of_ble_eq_true rfl) ?_
  refine v_aload_n dX14_orderOf_0 rfl ?_
  refine v_iload_n dX14_orderOf_1 rfl ?_
  refine v_iconst (0) dX14_orderOf_2 (by decide) ?_
  refine v_iload_n dX14_orderOf_3 rfl ?_
  refine v_invV 0 0 (M_fnd0 g h b q) dX14_orderOf_4 cwX14_finds mlX14_301 (ob_32 _) rfl rfl (by decide) (by decide) (Nat.le_of_ble_eq_true rfl) (Nat.le_of_ble_eq_true rfl) (Nat.le_of_ble_eq_true rfl) (fun r h2 q2 => ?_) (fun _ _ q2 => q2.elim)
  rcases q2 with ⟨q2, ⟨rfl, z⟩ | ⟨k, c, hk, hc, rfl, z, e20, e21, pr⟩⟩
  · change V g _ _ _ _ _ _ (pI 0 :: _) h2 _ _
    refine v_if_ne 12 dX14_orderOf_7 (by decide) (fun z => absurd rfl z) (fun _ => ?_)
    refine v_iconst (0) dX14_orderOf_10 (by decide) ?_
    refine v_ireturn dX14_orderOf_11 rfl rfl ?_
    exact ⟨by rw [xRank, z], q2⟩
  · change V g _ _ _ _ _ _ (pI 1 :: _) h2 _ _
    have hM' := SMQ b.1.1.1 q2
    have hk' := SKQ (b.2.1.2.2.2 k hk) q2
    have c12 := (b.2.2.1.2 k hk).1
    have nck : (nI k).toNatClampNeg = k := nI_clamp (by omega)
    obtain ⟨t, ht, et, el, hr⟩ := pr
    have eR : xRank h p (nI D) = xSm h (offN h k + c) p (nI D) t 0 0 := by rw [xRank, z]; show xSm h _ _ _ (ln h (17, offN h k + c)) 0 0 = _; rw [el]
    rw [eR]
    refine v_if_ne 12 dX14_orderOf_7 (by decide) (fun _ => ?_) (fun z => absurd z (by decide))
    refine v_aload_n dX14_orderOf_12 rfl ?_
    refine v_getR (some (36, 0)) fl_X14_15 dX14_orderOf_13 rfl rfl (Nat.le_of_ble_eq_true rfl) (mh_32_0 hM') (mr_32_0_6 hM') ?_
    refine v_aload_n dX14_orderOf_16 rfl ?_
    refine v_getI fl_X14_295 dX14_orderOf_17 rfl rfl (Nat.le_of_ble_eq_true rfl) (mh_32_0 hM') ?_
    rw [e20]
    refine v_aald (some (33, k)) dX14_orderOf_20 rfl (by decide) (by decide) (Nat.le_of_ble_eq_true rfl) (mh_36_0 hM') (by rw [ml_36_0 hM']; exact vp_in_nI (by omega) (by decide)) (by rw [nck]; exact hk'.2.1) ?_
    refine v_astore dX14_orderOf_21 (by decide) ?_
    refine v_iconst (0) dX14_orderOf_23 (by decide) ?_
    refine v_istore dX14_orderOf_24 (by decide) ?_
    refine v_iconst (4) dX14_orderOf_26 (by decide) ?_
    refine v_aload_n dX14_orderOf_27 rfl ?_
    refine v_getI fl_X14_298 dX14_orderOf_28 rfl rfl (Nat.le_of_ble_eq_true rfl) (mh_32_0 hM') ?_
    rw [e21]
    refine v_imul dX14_orderOf_31 ?_
    rw [show (4 : Int32) * nI c = nI (4 * c) from nI_mul 4 c]
    refine v_istore dX14_orderOf_32 (by decide) ?_
    refine v_loc [(0, pR (32, 0)), (1, pI (nI p)), (2, pI w), (3, pI (nI D)), (4, pR (33, k)), (5, pI 0), (6, pI (nI (4 * c)))] rfl ?_
    exact M_ord_loop g h b hk hc hp ht et ⟨t, ht, et, el, hr⟩ q2 e21 t 0 0 _ (by omega) rfl
theorem mAs_z (h : Hp) (p w d : Int32) : mAs (mZ h) p w d = mAs h p w d := by unfold mAs mPb mWb; rw [mZ_v _ _ (by decide), mZ_v _ _ (by decide)]
theorem mWb_z (h : Hp) (w : Int32) : mWb (mZ h) w = mWb h w := by unfold mWb; rw [mZ_v _ _ (by decide)]
set_option maxRecDepth 20000 in
theorem M_mayY (g : G0) (h : Hp) {n : Nat} {w : Int32} {D : Nat} (b : QB h n w D) {p : Nat} (hp : p < cn h 9) (yes : ¬ mAs h (nI p) w (nI D) = 0) : Mx g yX14_may wX14_may 12 [pR (32, 0), pI (nI p), pI w, pI (nI D)] h 0 0 (fun r h2 => r = some (pI (if xAdm h p (nI D) = 0 then 0 else 1)) ∧ Qf h h h2) noX := by
  have hM := b.1.1.1
  have hMz : SM (mZ h) := hM
  have q := (Qf.rf h).mZ
  refine Mx.by kfX14_may rfl (by decide) (Nat.le_of_ble_eq_true rfl) ?_
  refine v_aload_n dX14_may_0 rfl ?_
  refine v_iconst (0) dX14_may_1 (by decide) ?_
  refine v_putI fl_X14_112 (fun z => by cases z) dX14_may_2 rfl rfl (Nat.le_of_ble_eq_true rfl) rfl rfl (mh_32_0 hM) ?_
  change V g _ _ _ _ _ _ _ (mZ h) _ _
  refine v_aload_n dX14_may_5 rfl ?_
  refine v_iload_n dX14_may_6 rfl ?_
  refine v_iload_n dX14_may_7 rfl ?_
  refine v_iload_n dX14_may_8 rfl ?_
  refine v_invVE (M_isAsked g (mZ h) hMz) dX14_may_9 cwX14_isAsked mlX14_343 (ob_32 _) rfl rfl (by decide) (by decide) (Nat.le_of_ble_eq_true rfl) ?_
  rw [mAs_z]
  refine v_if_eq 33 dX14_may_12 (by decide) (fun z => absurd z yes) (fun _ => ?_)
  refine v_aload_n dX14_may_15 rfl ?_
  refine v_iload_n dX14_may_16 rfl ?_
  refine v_iload_n dX14_may_17 rfl ?_
  refine v_iload_n dX14_may_18 rfl ?_
  refine v_invV 0 0 (M_myc g h b q hp) dX14_may_19 cwX14_mayCome mlX14_346 (ob_32 _) rfl rfl (by decide) (by decide) (Nat.le_of_ble_eq_true rfl) (Nat.le_of_ble_eq_true rfl) (Nat.le_of_ble_eq_true rfl) (fun r h2 q2 => ?_) (fun _ _ q2 => q2.elim)
  obtain ⟨rfl, q2⟩ := q2
  change V g _ _ _ _ _ _ (pI (xAdm h p (nI D)) :: _) h2 _ _
  refine v_if_eq 29 dX14_may_22 (by decide) (fun c22 => ?_) (fun c22 => ?_)
  · refine v_iconst (0) dX14_may_29 (by decide) ?_
    refine v_goto 34 dX14_may_30 (by decide) ?_
    refine v_ireturn dX14_may_34 rfl rfl ?_
    first | exact ⟨by simp only [if_pos c22], q2⟩ | exact ⟨by simp only [if_neg c22], q2⟩
  · refine v_iconst (1) dX14_may_25 (by decide) ?_
    refine v_goto 34 dX14_may_26 (by decide) ?_
    refine v_ireturn dX14_may_34 rfl rfl ?_
    first | exact ⟨by simp only [if_pos c22], q2⟩ | exact ⟨by simp only [if_neg c22], q2⟩
set_option maxRecDepth 20000 in
theorem M_mayN (g : G0) (h : Hp) (hM : SM h) {p w d : Int32} (no : mAs h p w d = 0) : Mx g yX14_may wX14_may 12 [pR (32, 0), pI p, pI w, pI d] h 0 0 (fun r h2 => r = some (pI (-1)) ∧ Qf h h h2) noX := by
  have hMz : SM (mZ h) := hM
  have q := (Qf.rf h).mZ
  refine Mx.by kfX14_may rfl (by decide) (Nat.le_of_ble_eq_true rfl) ?_
  refine v_aload_n dX14_may_0 rfl ?_
  refine v_iconst (0) dX14_may_1 (by decide) ?_
  refine v_putI fl_X14_112 (fun z => by cases z) dX14_may_2 rfl rfl (Nat.le_of_ble_eq_true rfl) rfl rfl (mh_32_0 hM) ?_
  change V g _ _ _ _ _ _ _ (mZ h) _ _
  refine v_aload_n dX14_may_5 rfl ?_
  refine v_iload_n dX14_may_6 rfl ?_
  refine v_iload_n dX14_may_7 rfl ?_
  refine v_iload_n dX14_may_8 rfl ?_
  refine v_invVE (M_isAsked g (mZ h) hMz) dX14_may_9 cwX14_isAsked mlX14_343 (ob_32 _) rfl rfl (by decide) (by decide) (Nat.le_of_ble_eq_true rfl) ?_
  rw [mAs_z]
  refine v_if_eq 33 dX14_may_12 (by decide) (fun _ => ?_) (fun z => absurd no z)
  refine v_iconst (-1) dX14_may_33 (by decide) ?_
  refine v_ireturn dX14_may_34 rfl rfl ?_
  exact ⟨rfl, q⟩
set_option maxRecDepth 20000 in
theorem M_barsY (g : G0) (h : Hp) {n : Nat} {w : Int32} {D : Nat} (b : QB h n w D) {p : Nat} (hp : p < cn h 9) (yes : ¬ mAs h (nI p) w (nI D) = 0) : Mx g yX14_bars wX14_bars 12 [pR (32, 0), pI (nI p), pI w, pI (nI D)] h 0 0 (fun r h2 => r = some (pI (xBar h p (nI D))) ∧ Qf h h h2) noX := by
  have hM := b.1.1.1
  have hMz : SM (mZ h) := hM
  have q := (Qf.rf h).mZ
  refine Mx.by kfX14_bars rfl (by decide) (Nat.le_of_ble_eq_true rfl) ?_
  refine v_aload_n dX14_bars_0 rfl ?_
  refine v_iconst (0) dX14_bars_1 (by decide) ?_
  refine v_putI fl_X14_112 (fun z => by cases z) dX14_bars_2 rfl rfl (Nat.le_of_ble_eq_true rfl) rfl rfl (mh_32_0 hM) ?_
  change V g _ _ _ _ _ _ _ (mZ h) _ _
  refine v_aload_n dX14_bars_5 rfl ?_
  refine v_iload_n dX14_bars_6 rfl ?_
  refine v_iload_n dX14_bars_7 rfl ?_
  refine v_iload_n dX14_bars_8 rfl ?_
  refine v_invVE (M_isAsked g (mZ h) hMz) dX14_bars_9 cwX14_isAsked mlX14_343 (ob_32 _) rfl rfl (by decide) (by decide) (Nat.le_of_ble_eq_true rfl) ?_
  rw [mAs_z]
  refine v_if_eq 25 dX14_bars_12 (by decide) (fun z => absurd z yes) (fun _ => ?_)
  refine v_aload_n dX14_bars_15 rfl ?_
  refine v_iload_n dX14_bars_16 rfl ?_
  refine v_iload_n dX14_bars_17 rfl ?_
  refine v_iload_n dX14_bars_18 rfl ?_
  refine v_invV 0 0 (M_brs g h b q hp) dX14_bars_19 cwX14_barsOf mlX14_340 (ob_32 _) rfl rfl (by decide) (by decide) (Nat.le_of_ble_eq_true rfl) (Nat.le_of_ble_eq_true rfl) (Nat.le_of_ble_eq_true rfl) (fun r h2 q2 => ?_) (fun _ _ q2 => q2.elim)
  obtain ⟨rfl, q2⟩ := q2
  change V g _ _ _ _ _ _ (pI (xBar h p (nI D)) :: _) h2 _ _
  refine v_goto 26 dX14_bars_22 (by decide) ?_
  refine v_ireturn dX14_bars_26 rfl rfl ?_
  exact ⟨rfl, q2⟩
set_option maxRecDepth 20000 in
theorem M_barsN (g : G0) (h : Hp) (hM : SM h) {p w d : Int32} (no : mAs h p w d = 0) : Mx g yX14_bars wX14_bars 12 [pR (32, 0), pI p, pI w, pI d] h 0 0 (fun r h2 => r = some (pI (-1)) ∧ Qf h h h2) noX := by
  have hMz : SM (mZ h) := hM
  have q := (Qf.rf h).mZ
  refine Mx.by kfX14_bars rfl (by decide) (Nat.le_of_ble_eq_true rfl) ?_
  refine v_aload_n dX14_bars_0 rfl ?_
  refine v_iconst (0) dX14_bars_1 (by decide) ?_
  refine v_putI fl_X14_112 (fun z => by cases z) dX14_bars_2 rfl rfl (Nat.le_of_ble_eq_true rfl) rfl rfl (mh_32_0 hM) ?_
  change V g _ _ _ _ _ _ _ (mZ h) _ _
  refine v_aload_n dX14_bars_5 rfl ?_
  refine v_iload_n dX14_bars_6 rfl ?_
  refine v_iload_n dX14_bars_7 rfl ?_
  refine v_iload_n dX14_bars_8 rfl ?_
  refine v_invVE (M_isAsked g (mZ h) hMz) dX14_bars_9 cwX14_isAsked mlX14_343 (ob_32 _) rfl rfl (by decide) (by decide) (Nat.le_of_ble_eq_true rfl) ?_
  rw [mAs_z]
  refine v_if_eq 25 dX14_bars_12 (by decide) (fun _ => ?_) (fun z => absurd no z)
  refine v_iconst (-1) dX14_bars_25 (by decide) ?_
  refine v_ireturn dX14_bars_26 rfl rfl ?_
  exact ⟨rfl, q⟩
set_option maxRecDepth 20000 in
theorem M_orderY (g : G0) (h : Hp) {n : Nat} {w : Int32} {D : Nat} (b : QB h n w D) {p : Nat} (hp : p < cn h 9) (yes : ¬ mAs h (nI p) w (nI D) = 0) : Mx g yX14_order wX14_order 12 [pR (32, 0), pI (nI p), pI w, pI (nI D)] h 0 0 (fun r h2 => r = some (pI (xRank h p (nI D))) ∧ Qf h h h2) noX := by
  have hM := b.1.1.1
  have hMz : SM (mZ h) := hM
  have q := (Qf.rf h).mZ
  refine Mx.by kfX14_order rfl (by decide) (Nat.le_of_ble_eq_true rfl) ?_
  refine v_aload_n dX14_order_0 rfl ?_
  refine v_iconst (0) dX14_order_1 (by decide) ?_
  refine v_putI fl_X14_112 (fun z => by cases z) dX14_order_2 rfl rfl (Nat.le_of_ble_eq_true rfl) rfl rfl (mh_32_0 hM) ?_
  change V g _ _ _ _ _ _ _ (mZ h) _ _
  refine v_aload_n dX14_order_5 rfl ?_
  refine v_iload_n dX14_order_6 rfl ?_
  refine v_iload_n dX14_order_7 rfl ?_
  refine v_iload_n dX14_order_8 rfl ?_
  refine v_invVE (M_isAsked g (mZ h) hMz) dX14_order_9 cwX14_isAsked mlX14_343 (ob_32 _) rfl rfl (by decide) (by decide) (Nat.le_of_ble_eq_true rfl) ?_
  rw [mAs_z]
  refine v_if_eq 25 dX14_order_12 (by decide) (fun z => absurd z yes) (fun _ => ?_)
  refine v_aload_n dX14_order_15 rfl ?_
  refine v_iload_n dX14_order_16 rfl ?_
  refine v_iload_n dX14_order_17 rfl ?_
  refine v_iload_n dX14_order_18 rfl ?_
  refine v_invV 0 0 (M_ord g h b q hp) dX14_order_19 cwX14_orderOf mlX14_349 (ob_32 _) rfl rfl (by decide) (by decide) (Nat.le_of_ble_eq_true rfl) (Nat.le_of_ble_eq_true rfl) (Nat.le_of_ble_eq_true rfl) (fun r h2 q2 => ?_) (fun _ _ q2 => q2.elim)
  obtain ⟨rfl, q2⟩ := q2
  change V g _ _ _ _ _ _ (pI (xRank h p (nI D)) :: _) h2 _ _
  refine v_goto 26 dX14_order_22 (by decide) ?_
  refine v_ireturn dX14_order_26 rfl rfl ?_
  exact ⟨rfl, q2⟩
set_option maxRecDepth 20000 in
theorem M_orderN (g : G0) (h : Hp) (hM : SM h) {p w d : Int32} (no : mAs h p w d = 0) : Mx g yX14_order wX14_order 12 [pR (32, 0), pI p, pI w, pI d] h 0 0 (fun r h2 => r = some (pI (-1)) ∧ Qf h h h2) noX := by
  have hMz : SM (mZ h) := hM
  have q := (Qf.rf h).mZ
  refine Mx.by kfX14_order rfl (by decide) (Nat.le_of_ble_eq_true rfl) ?_
  refine v_aload_n dX14_order_0 rfl ?_
  refine v_iconst (0) dX14_order_1 (by decide) ?_
  refine v_putI fl_X14_112 (fun z => by cases z) dX14_order_2 rfl rfl (Nat.le_of_ble_eq_true rfl) rfl rfl (mh_32_0 hM) ?_
  change V g _ _ _ _ _ _ _ (mZ h) _ _
  refine v_aload_n dX14_order_5 rfl ?_
  refine v_iload_n dX14_order_6 rfl ?_
  refine v_iload_n dX14_order_7 rfl ?_
  refine v_iload_n dX14_order_8 rfl ?_
  refine v_invVE (M_isAsked g (mZ h) hMz) dX14_order_9 cwX14_isAsked mlX14_343 (ob_32 _) rfl rfl (by decide) (by decide) (Nat.le_of_ble_eq_true rfl) ?_
  rw [mAs_z]
  refine v_if_eq 25 dX14_order_12 (by decide) (fun _ => ?_) (fun z => absurd no z)
  refine v_iconst (-1) dX14_order_25 (by decide) ?_
  refine v_ireturn dX14_order_26 rfl rfl ?_
  exact ⟨rfl, q⟩
set_option maxRecDepth 20000 in
theorem M_list_loop (g : G0) (h : Hp) {n : Nat} {w : Int32} {D : Nat} (b : QB h n w D) {h0 : Hp} : ∀ (j k : Nat) (s x : Int32) (h' : Hp), k + j = cn h 9 → x = nI k → Qf h h0 h' → V g kfX14_list 12 0 0 27 [(0, pR (32, 0)), (1, pI w), (2, pI (nI D)), (3, pI s), (4, pI x)] [] h' (fun r h2 => r = some (pI (xLs h (nI D) j k s)) ∧ Qf h h0 h2) (fun _ _ a h2 => noX a h2) := by
  have p40 := b.2.2.2.1.2.1
  have e22 := b.2.2.2.1.1
  intro j
  induction j with
  | zero =>
    intro k s x h' hij hx q
    subst hx
    have hM' := SMQ b.1.1.1 q
    refine v_iload dX14_list_27 rfl ?_
    refine v_aload_n dX14_list_29 rfl ?_
    refine v_getI fl_X14_308 dX14_list_30 rfl rfl (Nat.le_of_ble_eq_true rfl) (mh_32_0 hM') ?_
    rw [q.m (by decide), e22]
    refine v_icmp_ge 61 dX14_list_33 (by decide) (fun _ => ?_) (fun z => absurd (nI_le (by omega) (by omega)) z)
    refine v_iload_n dX14_list_61 rfl ?_
    refine v_ireturn dX14_list_62 rfl rfl ?_
    exact ⟨rfl, q⟩
  | succ j ih =>
    intro k s x h' hij hx q
    subst hx
    have hM' := SMQ b.1.1.1 q
    refine v_iload dX14_list_27 rfl ?_
    refine v_aload_n dX14_list_29 rfl ?_
    refine v_getI fl_X14_308 dX14_list_30 rfl rfl (Nat.le_of_ble_eq_true rfl) (mh_32_0 hM') ?_
    rw [q.m (by decide), e22]
    refine v_icmp_ge 61 dX14_list_33 (by decide) (fun z => absurd z (nI_ge (by omega) (by omega))) (fun _ => ?_)
    refine v_iload_n dX14_list_36 rfl ?_
    refine v_aload_n dX14_list_37 rfl ?_
    refine v_iload dX14_list_38 rfl ?_
    refine v_iload_n dX14_list_40 rfl ?_
    refine v_iload_n dX14_list_41 rfl ?_
    refine v_invV 0 0 (M_myc g h b q (p := k) (by omega)) dX14_list_42 cwX14_mayCome mlX14_346 (ob_32 _) rfl rfl (by decide) (by decide) (Nat.le_of_ble_eq_true rfl) (Nat.le_of_ble_eq_true rfl) (Nat.le_of_ble_eq_true rfl) (fun r h2 q2 => ?_) (fun _ _ q2 => q2.elim)
    obtain ⟨rfl, q2⟩ := q2
    change V g _ _ _ _ _ _ (pI (xAdm h k (nI D)) :: _) h2 _ _
    refine v_if_eq 52 dX14_list_45 (by decide) (fun c45 => ?_) (fun c45 => ?_)
    · refine v_iconst (0) dX14_list_52 (by decide) ?_
      refine v_iadd dX14_list_53 ?_
      refine v_istore_n dX14_list_54 (by decide) ?_
      refine v_iinc _ dX14_list_55 rfl rfl (by decide) ?_
      refine v_goto 27 dX14_list_58 (by decide) ?_
      rw [xLs]
      first | (rw [if_pos c45]; refine v_loc [(0, pR (32, 0)), (1, pI w), (2, pI (nI D)), (3, pI (s + 0)), (4, pI (nI k + 1))] rfl ?_; rw [show s + 0 = s from Int32.add_zero s]; exact ih (k + 1) _ _ _ (by omega) (nI_1 k) q2) | (rw [if_neg c45]; refine v_loc [(0, pR (32, 0)), (1, pI w), (2, pI (nI D)), (3, pI (s + 1)), (4, pI (nI k + 1))] rfl ?_; exact ih (k + 1) _ _ _ (by omega) (nI_1 k) q2)
    · refine v_iconst (1) dX14_list_48 (by decide) ?_
      refine v_goto 53 dX14_list_49 (by decide) ?_
      refine v_iadd dX14_list_53 ?_
      refine v_istore_n dX14_list_54 (by decide) ?_
      refine v_iinc _ dX14_list_55 rfl rfl (by decide) ?_
      refine v_goto 27 dX14_list_58 (by decide) ?_
      rw [xLs]
      first | (rw [if_pos c45]; refine v_loc [(0, pR (32, 0)), (1, pI w), (2, pI (nI D)), (3, pI (s + 0)), (4, pI (nI k + 1))] rfl ?_; rw [show s + 0 = s from Int32.add_zero s]; exact ih (k + 1) _ _ _ (by omega) (nI_1 k) q2) | (rw [if_neg c45]; refine v_loc [(0, pR (32, 0)), (1, pI w), (2, pI (nI D)), (3, pI (s + 1)), (4, pI (nI k + 1))] rfl ?_; exact ih (k + 1) _ _ _ (by omega) (nI_1 k) q2)
set_option maxRecDepth 20000 in
theorem M_listY (g : G0) (h : Hp) {n : Nat} {w : Int32} {D : Nat} (b : QB h n w D) (y1 : ¬ mWb h w = 0) (y2 : ¬ mDy (nI D) = 0) : Mx g yX14_list wX14_list 12 [pR (32, 0), pI w, pI (nI D)] h 0 0 (fun r h2 => r = some (pI (xLs h (nI D) (cn h 9) 0 0)) ∧ Qf h h h2) noX := by
  have hM := b.1.1.1
  have hMz : SM (mZ h) := hM
  have q := (Qf.rf h).mZ
  refine Mx.by kfX14_list rfl (by decide) (Nat.le_of_ble_eq_true rfl) ?_
  refine v_aload_n dX14_list_0 rfl ?_
  refine v_iconst (0) dX14_list_1 (by decide) ?_
  refine v_putI fl_X14_112 (fun z => by cases z) dX14_list_2 rfl rfl (Nat.le_of_ble_eq_true rfl) rfl rfl (mh_32_0 hM) ?_
  change V g _ _ _ _ _ _ _ (mZ h) _ _
  refine v_aload_n dX14_list_5 rfl ?_
  refine v_iload_n dX14_list_6 rfl ?_
  refine v_invVE (M_isWill g (mZ h) hMz) dX14_list_7 cwX14_isWill mlX14_274 (ob_32 _) rfl rfl (by decide) (by decide) (Nat.le_of_ble_eq_true rfl) ?_
  rw [mWb_z]
  refine v_if_eq 20 dX14_list_10 (by decide) (fun z => absurd z y1) (fun _ => ?_)
  refine v_iload_n dX14_list_13 rfl ?_
  refine v_invSE (M_isDay g (mZ h)) dX14_list_14 cwX14_isDay mlX14_277 rfl rfl (by decide) (by decide) (Nat.le_of_ble_eq_true rfl) ?_
  refine v_if_ne 22 dX14_list_17 (by decide) (fun _ => ?_) (fun z => absurd z y2)
  refine v_iconst (0) dX14_list_22 (by decide) ?_
  refine v_istore_n dX14_list_23 (by decide) ?_
  refine v_iconst (0) dX14_list_24 (by decide) ?_
  refine v_istore dX14_list_25 (by decide) ?_
  refine v_loc [(0, pR (32, 0)), (1, pI w), (2, pI (nI D)), (3, pI 0), (4, pI 0)] rfl ?_
  exact M_list_loop g h b (cn h 9) 0 0 0 _ (by omega) rfl q
set_option maxRecDepth 20000 in
theorem M_listN (g : G0) (h : Hp) (hM : SM h) {w d : Int32} (no : mWb h w = 0 ∨ mDy d = 0) : Mx g yX14_list wX14_list 12 [pR (32, 0), pI w, pI d] h 0 0 (fun r h2 => r = some (pI (-1)) ∧ Qf h h h2) noX := by
  have hMz : SM (mZ h) := hM
  have q := (Qf.rf h).mZ
  refine Mx.by kfX14_list rfl (by decide) (Nat.le_of_ble_eq_true rfl) ?_
  refine v_aload_n dX14_list_0 rfl ?_
  refine v_iconst (0) dX14_list_1 (by decide) ?_
  refine v_putI fl_X14_112 (fun z => by cases z) dX14_list_2 rfl rfl (Nat.le_of_ble_eq_true rfl) rfl rfl (mh_32_0 hM) ?_
  change V g _ _ _ _ _ _ _ (mZ h) _ _
  refine v_aload_n dX14_list_5 rfl ?_
  refine v_iload_n dX14_list_6 rfl ?_
  refine v_invVE (M_isWill g (mZ h) hMz) dX14_list_7 cwX14_isWill mlX14_274 (ob_32 _) rfl rfl (by decide) (by decide) (Nat.le_of_ble_eq_true rfl) ?_
  rw [mWb_z]
  refine v_if_eq 20 dX14_list_10 (by decide) (fun c10 => ?_) (fun c10 => ?_)
  · refine v_iconst (-1) dX14_list_20 (by decide) ?_
    refine v_ireturn dX14_list_21 rfl rfl ?_
    exact ⟨rfl, q⟩
  · refine v_iload_n dX14_list_13 rfl ?_
    refine v_invSE (M_isDay g (mZ h)) dX14_list_14 cwX14_isDay mlX14_277 rfl rfl (by decide) (by decide) (Nat.le_of_ble_eq_true rfl) ?_
    refine v_if_ne 22 dX14_list_17 (by decide) (fun c17 => ?_) (fun c17 => ?_)
    · exact (no.elim c10 c17).elim
    · refine v_iconst (-1) dX14_list_20 (by decide) ?_
      refine v_ireturn dX14_list_21 rfl rfl ?_
      exact ⟨rfl, q⟩
set_option maxRecDepth 20000 in
theorem M_next_loop (g : G0) (h : Hp) {n : Nat} {w : Int32} {D : Nat} (b : QB h n w D) {h0 : Hp} (mono : ∀ p p', p ≤ p' → p' < cn h 9 → vi h (9, p) 3 ≤ vi h (9, p') 3) : ∀ (j k : Nat) (c bx mo x : Int32) (h' : Hp), k + j = cn h 9 → x = nI k → Qf h h0 h' → ((c = -2 ∧ bx = -1) ∨ ∃ u, u < k ∧ c = nI u ∧ mo = bx) → V g kfX14_nextOf 5 0 0 9 [(0, pR (32, 0)), (1, pI w), (2, pI (nI D)), (3, pI c), (4, pI mo), (5, pI x)] [] h' (fun r h2 => r = some (pI (xCh h (nI D) j k c bx)) ∧ Qf h h0 h2) (fun _ _ a h2 => noX a h2) := by
  have p40 := b.2.2.2.1.2.1
  have e22 := b.2.2.2.1.1
  intro j
  induction j with
  | zero =>
    intro k c bx mo x h' hij hx q inv
    subst hx
    have hM' := SMQ b.1.1.1 q
    refine v_iload dX14_nextOf_9 rfl ?_
    refine v_aload_n dX14_nextOf_11 rfl ?_
    refine v_getI fl_X14_308 dX14_nextOf_12 rfl rfl (Nat.le_of_ble_eq_true rfl) (mh_32_0 hM') ?_
    rw [q.m (by decide), e22]
    refine v_icmp_ge 105 dX14_nextOf_15 (by decide) (fun _ => ?_) (fun z => absurd (nI_le (by omega) (by omega)) z)
    refine v_iload_n dX14_nextOf_105 rfl ?_
    refine v_ireturn dX14_nextOf_106 rfl rfl ?_
    exact ⟨rfl, q⟩
  | succ j ih =>
    intro k c bx mo x h' hij hx q inv
    subst hx
    have hM' := SMQ b.1.1.1 q
    have hk : k < cn h 9 := by omega
    have nck : (nI k).toNatClampNeg = k := nI_clamp (by omega)
    have pk1 := (b.2.2.2.1.2.2.1 k hk).1
    obtain ⟨R, hR, eR⟩ := rank_ok b hk
    refine v_iload dX14_nextOf_9 rfl ?_
    refine v_aload_n dX14_nextOf_11 rfl ?_
    refine v_getI fl_X14_308 dX14_nextOf_12 rfl rfl (Nat.le_of_ble_eq_true rfl) (mh_32_0 hM') ?_
    rw [q.m (by decide), e22]
    refine v_icmp_ge 105 dX14_nextOf_15 (by decide) (fun z => absurd z (nI_ge (by omega) (by omega))) (fun _ => ?_)
    refine v_aload_n dX14_nextOf_18 rfl ?_
    refine v_getR (some (38, 6)) fl_X14_54 dX14_nextOf_19 rfl rfl (Nat.le_of_ble_eq_true rfl) (mh_32_0 hM') (mr_32_0_30 hM') ?_
    refine v_iload dX14_nextOf_22 rfl ?_
    refine v_iald dX14_nextOf_24 rfl (Nat.le_of_ble_eq_true rfl) (mh_38_6 hM') (by rw [ml_38_6 (SMQ b.1.1.1 q)]; exact vp_in_nI (by omega) (by decide)) ?_
    rw [nck, q.v (by decide) (by decide), ← pk1.2.2.2.2.2.1]
    refine v_iconst (-1) dX14_nextOf_25 (by decide) ?_
    refine v_icmp_ne 99 dX14_nextOf_26 (by decide) (fun c26 => ?_) (fun c26 => ?_)
    · refine v_iinc _ dX14_nextOf_99 rfl rfl (by decide) ?_
      refine v_goto 9 dX14_nextOf_102 (by decide) ?_
      refine v_loc [(0, pR (32, 0)), (1, pI w), (2, pI (nI D)), (3, pI c), (4, pI mo), (5, pI (nI k + 1))] rfl ?_
      have inv2 : (c = -2 ∧ bx = -1) ∨ ∃ u, u < k + 1 ∧ c = nI u ∧ mo = bx := by rcases inv with z | ⟨u, hu, z⟩; exact Or.inl z; exact Or.inr ⟨u, by omega, z⟩
      first | (rw [xCh, if_neg c26]; exact ih (k + 1) _ _ _ _ _ (by omega) (nI_1 k) q inv2) | (rw [xCh, if_pos c26, if_pos c37]; exact ih (k + 1) _ _ _ _ _ (by omega) (nI_1 k) q2 inv2) | (rcases inv with ⟨z, -⟩ | ⟨u, hu, z1, z2⟩; exact absurd z c56; rw [xCh, if_pos c26, if_neg c37, if_pos (by rw [← z2]; first | exact Int32.le_of_lt c63 | exact (by rw [c70]; exact Int32.le_refl _))]; exact ih (k + 1) _ _ _ _ _ (by omega) (nI_1 k) q3 inv2)
    · refine v_aload_n dX14_nextOf_29 rfl ?_
      refine v_iload dX14_nextOf_30 rfl ?_
      refine v_iload_n dX14_nextOf_32 rfl ?_
      refine v_iload_n dX14_nextOf_33 rfl ?_
      refine v_invV 0 0 (M_myc g h b q (p := k) hk) dX14_nextOf_34 cwX14_mayCome mlX14_346 (ob_32 _) rfl rfl (by decide) (by decide) (Nat.le_of_ble_eq_true rfl) (Nat.le_of_ble_eq_true rfl) (Nat.le_of_ble_eq_true rfl) (fun r h2 q2 => ?_) (fun _ _ q2 => q2.elim)
      obtain ⟨rfl, q2⟩ := q2
      change V g _ _ _ _ _ _ (pI (xAdm h k (nI D)) :: _) h2 _ _
      refine v_if_ne 43 dX14_nextOf_37 (by decide) (fun c37 => ?_) (fun c37 => ?_)
      · refine v_aload_n dX14_nextOf_43 rfl ?_
        refine v_iload dX14_nextOf_44 rfl ?_
        refine v_iload_n dX14_nextOf_46 rfl ?_
        refine v_iload_n dX14_nextOf_47 rfl ?_
        refine v_invV 0 0 (M_ord g h b q2 (p := k) hk) dX14_nextOf_48 cwX14_orderOf mlX14_349 (ob_32 _) rfl rfl (by decide) (by decide) (Nat.le_of_ble_eq_true rfl) (Nat.le_of_ble_eq_true rfl) (Nat.le_of_ble_eq_true rfl) (fun r h3 q2 => ?_) (fun _ _ q2 => q2.elim)
        obtain ⟨rfl, q3⟩ := q2
        change V g _ _ _ _ _ _ (pI (xRank h k (nI D)) :: _) h3 _ _
        refine v_istore dX14_nextOf_51 (by decide) ?_
        refine v_iload_n dX14_nextOf_53 rfl ?_
        refine v_bipush (-2) dX14_nextOf_54 (by decide) ?_
        refine v_icmp_eq 92 dX14_nextOf_56 (by decide) (fun c56 => ?_) (fun c56 => ?_)
        · refine v_iload dX14_nextOf_92 rfl ?_
          refine v_istore_n dX14_nextOf_94 (by decide) ?_
          refine v_iload dX14_nextOf_95 rfl ?_
          refine v_istore dX14_nextOf_97 (by decide) ?_
          refine v_iinc _ dX14_nextOf_99 rfl rfl (by decide) ?_
          refine v_goto 9 dX14_nextOf_102 (by decide) ?_
          refine v_loc [(0, pR (32, 0)), (1, pI w), (2, pI (nI D)), (3, pI (nI k)), (4, pI (xRank h k (nI D))), (5, pI (nI k + 1))] rfl ?_
          have tk : ¬ xRank h k (nI D) ≤ bx := by
            rcases inv with ⟨z, z2⟩ | ⟨u, hu, z1, z2⟩
            · rw [z2, eR]; exact fun y => nI_pos hR (Int32.lt_of_le_of_lt y (by decide))
            · first | exact absurd c56 (by rw [z1]; exact fun y => nI_pos (n := u) (by omega) (by rw [y]; decide)) | exact (by rw [← z2]; exact fun y => c63 (Int32.lt_of_le_of_ne y c70)) | exact absurd c86 (by rw [z1, nI_clamp (by omega)]; exact Int32.not_lt.mpr (mono u k (by omega) hk))
          rw [xCh, if_pos c26, if_neg c37, if_neg tk]
          exact ih (k + 1) _ _ _ _ _ (by omega) (nI_1 k) q3 (Or.inr ⟨k, by omega, rfl, rfl⟩)
        · refine v_iload dX14_nextOf_59 rfl ?_
          refine v_iload dX14_nextOf_61 rfl ?_
          refine v_icmp_lt 99 dX14_nextOf_63 (by decide) (fun c63 => ?_) (fun c63 => ?_)
          · refine v_iinc _ dX14_nextOf_99 rfl rfl (by decide) ?_
            refine v_goto 9 dX14_nextOf_102 (by decide) ?_
            refine v_loc [(0, pR (32, 0)), (1, pI w), (2, pI (nI D)), (3, pI c), (4, pI mo), (5, pI (nI k + 1))] rfl ?_
            have inv2 : (c = -2 ∧ bx = -1) ∨ ∃ u, u < k + 1 ∧ c = nI u ∧ mo = bx := by rcases inv with z | ⟨u, hu, z⟩; exact Or.inl z; exact Or.inr ⟨u, by omega, z⟩
            first | (rw [xCh, if_neg c26]; exact ih (k + 1) _ _ _ _ _ (by omega) (nI_1 k) q inv2) | (rw [xCh, if_pos c26, if_pos c37]; exact ih (k + 1) _ _ _ _ _ (by omega) (nI_1 k) q2 inv2) | (rcases inv with ⟨z, -⟩ | ⟨u, hu, z1, z2⟩; exact absurd z c56; rw [xCh, if_pos c26, if_neg c37, if_pos (by rw [← z2]; first | exact Int32.le_of_lt c63 | exact (by rw [c70]; exact Int32.le_refl _))]; exact ih (k + 1) _ _ _ _ _ (by omega) (nI_1 k) q3 inv2)
          · refine v_iload dX14_nextOf_66 rfl ?_
            refine v_iload dX14_nextOf_68 rfl ?_
            refine v_icmp_ne 92 dX14_nextOf_70 (by decide) (fun c70 => ?_) (fun c70 => ?_)
            · refine v_iload dX14_nextOf_92 rfl ?_
              refine v_istore_n dX14_nextOf_94 (by decide) ?_
              refine v_iload dX14_nextOf_95 rfl ?_
              refine v_istore dX14_nextOf_97 (by decide) ?_
              refine v_iinc _ dX14_nextOf_99 rfl rfl (by decide) ?_
              refine v_goto 9 dX14_nextOf_102 (by decide) ?_
              refine v_loc [(0, pR (32, 0)), (1, pI w), (2, pI (nI D)), (3, pI (nI k)), (4, pI (xRank h k (nI D))), (5, pI (nI k + 1))] rfl ?_
              have tk : ¬ xRank h k (nI D) ≤ bx := by
                rcases inv with ⟨z, z2⟩ | ⟨u, hu, z1, z2⟩
                · rw [z2, eR]; exact fun y => nI_pos hR (Int32.lt_of_le_of_lt y (by decide))
                · first | exact absurd c56 (by rw [z1]; exact fun y => nI_pos (n := u) (by omega) (by rw [y]; decide)) | exact (by rw [← z2]; exact fun y => c63 (Int32.lt_of_le_of_ne y c70)) | exact absurd c86 (by rw [z1, nI_clamp (by omega)]; exact Int32.not_lt.mpr (mono u k (by omega) hk))
              rw [xCh, if_pos c26, if_neg c37, if_neg tk]
              exact ih (k + 1) _ _ _ _ _ (by omega) (nI_1 k) q3 (Or.inr ⟨k, by omega, rfl, rfl⟩)
            · have cu : ∃ u, u < k ∧ c = nI u ∧ mo = bx := inv.resolve_left (fun z => c56 z.1)
              have ec : vi h3 (38, 2) c.toNatClampNeg = vi h (9, c.toNatClampNeg) 3 := by obtain ⟨u, hu, z, -⟩ := cu; rw [z, nI_clamp (by omega), q3.v (by decide) (by decide)]; exact ((b.2.2.2.1.2.2.1 u (by omega)).1.2.2.2.1).symm
              refine v_aload_n dX14_nextOf_73 rfl ?_
              refine v_getR (some (38, 2)) fl_X14_42 dX14_nextOf_74 rfl rfl (Nat.le_of_ble_eq_true rfl) (mh_32_0 (SMQ b.1.1.1 q3)) (mr_32_0_26 (SMQ b.1.1.1 q3)) ?_
              refine v_iload dX14_nextOf_77 rfl ?_
              refine v_iald dX14_nextOf_79 rfl (Nat.le_of_ble_eq_true rfl) (mh_38_2 (SMQ b.1.1.1 q3)) (by rw [ml_38_2 (SMQ b.1.1.1 q3)]; exact vp_in_nI (by omega) (by decide)) ?_
              rw [nck, (show vi h3 (38, 2) k = vi h (9, k) 3 from (q3.v (by decide) (by decide)).trans pk1.2.2.2.1.symm)]
              refine v_aload_n dX14_nextOf_80 rfl ?_
              refine v_getR (some (38, 2)) fl_X14_42 dX14_nextOf_81 rfl rfl (Nat.le_of_ble_eq_true rfl) (mh_32_0 (SMQ b.1.1.1 q3)) (mr_32_0_26 (SMQ b.1.1.1 q3)) ?_
              refine v_iload_n dX14_nextOf_84 rfl ?_
              refine v_iald dX14_nextOf_85 rfl (Nat.le_of_ble_eq_true rfl) (mh_38_2 (SMQ b.1.1.1 q3)) (by obtain ⟨u, hu, z, -⟩ := cu; rw [z, ml_38_2 (SMQ b.1.1.1 q3)]; exact vp_in_nI (by omega) (by decide)) ?_
              rw [show vi h3 (38, 2) c.toNatClampNeg = vi h (9, c.toNatClampNeg) 3 from ec]
              refine v_icmp_lt 92 dX14_nextOf_86 (by decide) (fun c86 => ?_) (fun c86 => ?_)
              · refine v_iload dX14_nextOf_92 rfl ?_
                refine v_istore_n dX14_nextOf_94 (by decide) ?_
                refine v_iload dX14_nextOf_95 rfl ?_
                refine v_istore dX14_nextOf_97 (by decide) ?_
                refine v_iinc _ dX14_nextOf_99 rfl rfl (by decide) ?_
                refine v_goto 9 dX14_nextOf_102 (by decide) ?_
                refine v_loc [(0, pR (32, 0)), (1, pI w), (2, pI (nI D)), (3, pI (nI k)), (4, pI (xRank h k (nI D))), (5, pI (nI k + 1))] rfl ?_
                have tk : ¬ xRank h k (nI D) ≤ bx := by
                  rcases inv with ⟨z, z2⟩ | ⟨u, hu, z1, z2⟩
                  · rw [z2, eR]; exact fun y => nI_pos hR (Int32.lt_of_le_of_lt y (by decide))
                  · first | exact absurd c56 (by rw [z1]; exact fun y => nI_pos (n := u) (by omega) (by rw [y]; decide)) | exact (by rw [← z2]; exact fun y => c63 (Int32.lt_of_le_of_ne y c70)) | exact absurd c86 (by rw [z1, nI_clamp (by omega)]; exact Int32.not_lt.mpr (mono u k (by omega) hk))
                rw [xCh, if_pos c26, if_neg c37, if_neg tk]
                exact ih (k + 1) _ _ _ _ _ (by omega) (nI_1 k) q3 (Or.inr ⟨k, by omega, rfl, rfl⟩)
              · refine v_goto 99 dX14_nextOf_89 (by decide) ?_
                refine v_iinc _ dX14_nextOf_99 rfl rfl (by decide) ?_
                refine v_goto 9 dX14_nextOf_102 (by decide) ?_
                refine v_loc [(0, pR (32, 0)), (1, pI w), (2, pI (nI D)), (3, pI c), (4, pI mo), (5, pI (nI k + 1))] rfl ?_
                have inv2 : (c = -2 ∧ bx = -1) ∨ ∃ u, u < k + 1 ∧ c = nI u ∧ mo = bx := by rcases inv with z | ⟨u, hu, z⟩; exact Or.inl z; exact Or.inr ⟨u, by omega, z⟩
                first | (rw [xCh, if_neg c26]; exact ih (k + 1) _ _ _ _ _ (by omega) (nI_1 k) q inv2) | (rw [xCh, if_pos c26, if_pos c37]; exact ih (k + 1) _ _ _ _ _ (by omega) (nI_1 k) q2 inv2) | (rcases inv with ⟨z, -⟩ | ⟨u, hu, z1, z2⟩; exact absurd z c56; rw [xCh, if_pos c26, if_neg c37, if_pos (by rw [← z2]; first | exact Int32.le_of_lt c63 | exact (by rw [c70]; exact Int32.le_refl _))]; exact ih (k + 1) _ _ _ _ _ (by omega) (nI_1 k) q3 inv2)
      · refine v_goto 99 dX14_nextOf_40 (by decide) ?_
        refine v_iinc _ dX14_nextOf_99 rfl rfl (by decide) ?_
        refine v_goto 9 dX14_nextOf_102 (by decide) ?_
        refine v_loc [(0, pR (32, 0)), (1, pI w), (2, pI (nI D)), (3, pI c), (4, pI mo), (5, pI (nI k + 1))] rfl ?_
        have inv2 : (c = -2 ∧ bx = -1) ∨ ∃ u, u < k + 1 ∧ c = nI u ∧ mo = bx := by rcases inv with z | ⟨u, hu, z⟩; exact Or.inl z; exact Or.inr ⟨u, by omega, z⟩
        first | (rw [xCh, if_neg c26]; exact ih (k + 1) _ _ _ _ _ (by omega) (nI_1 k) q inv2) | (rw [xCh, if_pos c26, if_pos c37]; exact ih (k + 1) _ _ _ _ _ (by omega) (nI_1 k) q2 inv2) | (rcases inv with ⟨z, -⟩ | ⟨u, hu, z1, z2⟩; exact absurd z c56; rw [xCh, if_pos c26, if_neg c37, if_pos (by rw [← z2]; first | exact Int32.le_of_lt c63 | exact (by rw [c70]; exact Int32.le_refl _))]; exact ih (k + 1) _ _ _ _ _ (by omega) (nI_1 k) q3 inv2)
set_option maxRecDepth 20000 in
theorem M_nxt (g : G0) (h : Hp) {n : Nat} {w : Int32} {D : Nat} (b : QB h n w D) {h0 h' : Hp} (q : Qf h h0 h') (mono : ∀ p p', p ≤ p' → p' < cn h 9 → vi h (9, p) 3 ≤ vi h (9, p') 3) : Mx g yX14_nextOf wX14_nextOf 5 [pR (32, 0), pI w, pI (nI D)] h' 0 0 (fun r h2 => r = some (pI (xCh h (nI D) (cn h 9) 0 (-2) (-1))) ∧ Qf h h0 h2) noX := by
  have hM' := SMQ b.1.1.1 q
  refine Mx.by kfX14_nextOf rfl (by decide) (Nat.le_of_ble_eq_true rfl) ?_
  refine v_bipush (-2) dX14_nextOf_0 (by decide) ?_
  refine v_istore_n dX14_nextOf_2 (by decide) ?_
  refine v_iconst (0) dX14_nextOf_3 (by decide) ?_
  refine v_istore dX14_nextOf_4 (by decide) ?_
  refine v_iconst (0) dX14_nextOf_6 (by decide) ?_
  refine v_istore dX14_nextOf_7 (by decide) ?_
  refine v_loc [(0, pR (32, 0)), (1, pI w), (2, pI (nI D)), (3, pI (-2)), (4, pI 0), (5, pI 0)] rfl ?_
  exact M_next_loop g h b mono (cn h 9) 0 (-2) (-1) 0 0 h' (by omega) rfl q (Or.inl ⟨rfl, rfl⟩)
set_option maxRecDepth 20000 in
theorem M_nextY (g : G0) (h : Hp) {n : Nat} {w : Int32} {D : Nat} (b : QB h n w D) (mono : ∀ p p', p ≤ p' → p' < cn h 9 → vi h (9, p) 3 ≤ vi h (9, p') 3) (y1 : ¬ mWb h w = 0) (y2 : ¬ mDy (nI D) = 0) : Mx g yX14_next_ wX14_next_ 12 [pR (32, 0), pI w, pI (nI D)] h 0 0 (fun r h2 => r = some (pI (xCh h (nI D) (cn h 9) 0 (-2) (-1))) ∧ Qf h h h2) noX := by
  have hM := b.1.1.1
  have hMz : SM (mZ h) := hM
  have q := (Qf.rf h).mZ
  refine Mx.by kfX14_next_ rfl (by decide) (Nat.le_of_ble_eq_true rfl) ?_
  refine v_aload_n dX14_next__0 rfl ?_
  refine v_iconst (0) dX14_next__1 (by decide) ?_
  refine v_putI fl_X14_112 (fun z => by cases z) dX14_next__2 rfl rfl (Nat.le_of_ble_eq_true rfl) rfl rfl (mh_32_0 hM) ?_
  change V g _ _ _ _ _ _ _ (mZ h) _ _
  refine v_aload_n dX14_next__5 rfl ?_
  refine v_iload_n dX14_next__6 rfl ?_
  refine v_invVE (M_isWill g (mZ h) hMz) dX14_next__7 cwX14_isWill mlX14_274 (ob_32 _) rfl rfl (by decide) (by decide) (Nat.le_of_ble_eq_true rfl) ?_
  rw [mWb_z]
  refine v_if_eq 29 dX14_next__10 (by decide) (fun z => absurd z y1) (fun _ => ?_)
  refine v_iload_n dX14_next__13 rfl ?_
  refine v_invSE (M_isDay g (mZ h)) dX14_next__14 cwX14_isDay mlX14_277 rfl rfl (by decide) (by decide) (Nat.le_of_ble_eq_true rfl) ?_
  refine v_if_eq 29 dX14_next__17 (by decide) (fun z => absurd z y2) (fun _ => ?_)
  refine v_aload_n dX14_next__20 rfl ?_
  refine v_iload_n dX14_next__21 rfl ?_
  refine v_iload_n dX14_next__22 rfl ?_
  refine v_invV 0 0 (M_nxt g h b q mono) dX14_next__23 cwX14_nextOf mlX14_352 (ob_32 _) rfl rfl (by decide) (by decide) (Nat.le_of_ble_eq_true rfl) (Nat.le_of_ble_eq_true rfl) (Nat.le_of_ble_eq_true rfl) (fun r h2 q2 => ?_) (fun _ _ q2 => q2.elim)
  obtain ⟨rfl, q2⟩ := q2
  change V g _ _ _ _ _ _ (pI (xCh h (nI D) (cn h 9) 0 (-2) (-1)) :: _) h2 _ _
  refine v_goto 30 dX14_next__26 (by decide) ?_
  refine v_ireturn dX14_next__30 rfl rfl ?_
  exact ⟨rfl, q2⟩
set_option maxRecDepth 20000 in
theorem M_nextN (g : G0) (h : Hp) (hM : SM h) {w d : Int32} (no : mWb h w = 0 ∨ mDy d = 0) : Mx g yX14_next_ wX14_next_ 12 [pR (32, 0), pI w, pI d] h 0 0 (fun r h2 => r = some (pI (-1)) ∧ Qf h h h2) noX := by
  have hMz : SM (mZ h) := hM
  have q := (Qf.rf h).mZ
  refine Mx.by kfX14_next_ rfl (by decide) (Nat.le_of_ble_eq_true rfl) ?_
  refine v_aload_n dX14_next__0 rfl ?_
  refine v_iconst (0) dX14_next__1 (by decide) ?_
  refine v_putI fl_X14_112 (fun z => by cases z) dX14_next__2 rfl rfl (Nat.le_of_ble_eq_true rfl) rfl rfl (mh_32_0 hM) ?_
  change V g _ _ _ _ _ _ _ (mZ h) _ _
  refine v_aload_n dX14_next__5 rfl ?_
  refine v_iload_n dX14_next__6 rfl ?_
  refine v_invVE (M_isWill g (mZ h) hMz) dX14_next__7 cwX14_isWill mlX14_274 (ob_32 _) rfl rfl (by decide) (by decide) (Nat.le_of_ble_eq_true rfl) ?_
  rw [mWb_z]
  refine v_if_eq 29 dX14_next__10 (by decide) (fun c10 => ?_) (fun c10 => ?_)
  · refine v_iconst (-1) dX14_next__29 (by decide) ?_
    refine v_ireturn dX14_next__30 rfl rfl ?_
    exact ⟨rfl, q⟩
  · refine v_iload_n dX14_next__13 rfl ?_
    refine v_invSE (M_isDay g (mZ h)) dX14_next__14 cwX14_isDay mlX14_277 rfl rfl (by decide) (by decide) (Nat.le_of_ble_eq_true rfl) ?_
    refine v_if_eq 29 dX14_next__17 (by decide) (fun c17 => ?_) (fun c17 => ?_)
    · refine v_iconst (-1) dX14_next__29 (by decide) ?_
      refine v_ireturn dX14_next__30 rfl rfl ?_
      exact ⟨rfl, q⟩
    · exact (no.elim c10 c17).elim
set_option maxRecDepth 20000 in
theorem M_clausesY (g : G0) (h : Hp) {n : Nat} {w : Int32} {D : Nat} (b : QB h n w D) (y1 : ¬ mWb h w = 0) (y2 : ¬ mDy (nI D) = 0) : Mx g yX14_clauses wX14_clauses 12 [pR (32, 0), pI w, pI (nI D)] h 0 0 (fun r h2 => r = some (pI (xHow h)) ∧ Qf h h h2) noX := by
  have hM := b.1.1.1
  have hMz : SM (mZ h) := hM
  have q := (Qf.rf h).mZ
  refine Mx.by kfX14_clauses rfl (by decide) (Nat.le_of_ble_eq_true rfl) ?_
  refine v_aload_n dX14_clauses_0 rfl ?_
  refine v_iconst (0) dX14_clauses_1 (by decide) ?_
  refine v_putI fl_X14_112 (fun z => by cases z) dX14_clauses_2 rfl rfl (Nat.le_of_ble_eq_true rfl) rfl rfl (mh_32_0 hM) ?_
  change V g _ _ _ _ _ _ _ (mZ h) _ _
  refine v_aload_n dX14_clauses_5 rfl ?_
  refine v_iload_n dX14_clauses_6 rfl ?_
  refine v_invVE (M_isWill g (mZ h) hMz) dX14_clauses_7 cwX14_isWill mlX14_274 (ob_32 _) rfl rfl (by decide) (by decide) (Nat.le_of_ble_eq_true rfl) ?_
  rw [mWb_z]
  refine v_if_eq 29 dX14_clauses_10 (by decide) (fun z => absurd z y1) (fun _ => ?_)
  refine v_iload_n dX14_clauses_13 rfl ?_
  refine v_invSE (M_isDay g (mZ h)) dX14_clauses_14 cwX14_isDay mlX14_277 rfl rfl (by decide) (by decide) (Nat.le_of_ble_eq_true rfl) ?_
  refine v_if_eq 29 dX14_clauses_17 (by decide) (fun z => absurd z y2) (fun _ => ?_)
  refine v_aload_n dX14_clauses_20 rfl ?_
  refine v_iload_n dX14_clauses_21 rfl ?_
  refine v_iload_n dX14_clauses_22 rfl ?_
  refine v_invV 0 0 (M_clq g h b q) dX14_clauses_23 cwX14_clausesOf mlX14_304 (ob_32 _) rfl rfl (by decide) (by decide) (Nat.le_of_ble_eq_true rfl) (Nat.le_of_ble_eq_true rfl) (Nat.le_of_ble_eq_true rfl) (fun r h2 q2 => ?_) (fun _ _ q2 => q2.elim)
  obtain ⟨rfl, q2⟩ := q2
  change V g _ _ _ _ _ _ (pI (xHow h) :: _) h2 _ _
  refine v_goto 30 dX14_clauses_26 (by decide) ?_
  refine v_ireturn dX14_clauses_30 rfl rfl ?_
  exact ⟨rfl, q2⟩
set_option maxRecDepth 20000 in
theorem M_clausesN (g : G0) (h : Hp) (hM : SM h) {w d : Int32} (no : mWb h w = 0 ∨ mDy d = 0) : Mx g yX14_clauses wX14_clauses 12 [pR (32, 0), pI w, pI d] h 0 0 (fun r h2 => r = some (pI (-1)) ∧ Qf h h h2) noX := by
  have hMz : SM (mZ h) := hM
  have q := (Qf.rf h).mZ
  refine Mx.by kfX14_clauses rfl (by decide) (Nat.le_of_ble_eq_true rfl) ?_
  refine v_aload_n dX14_clauses_0 rfl ?_
  refine v_iconst (0) dX14_clauses_1 (by decide) ?_
  refine v_putI fl_X14_112 (fun z => by cases z) dX14_clauses_2 rfl rfl (Nat.le_of_ble_eq_true rfl) rfl rfl (mh_32_0 hM) ?_
  change V g _ _ _ _ _ _ _ (mZ h) _ _
  refine v_aload_n dX14_clauses_5 rfl ?_
  refine v_iload_n dX14_clauses_6 rfl ?_
  refine v_invVE (M_isWill g (mZ h) hMz) dX14_clauses_7 cwX14_isWill mlX14_274 (ob_32 _) rfl rfl (by decide) (by decide) (Nat.le_of_ble_eq_true rfl) ?_
  rw [mWb_z]
  refine v_if_eq 29 dX14_clauses_10 (by decide) (fun c10 => ?_) (fun c10 => ?_)
  · refine v_iconst (-1) dX14_clauses_29 (by decide) ?_
    refine v_ireturn dX14_clauses_30 rfl rfl ?_
    exact ⟨rfl, q⟩
  · refine v_iload_n dX14_clauses_13 rfl ?_
    refine v_invSE (M_isDay g (mZ h)) dX14_clauses_14 cwX14_isDay mlX14_277 rfl rfl (by decide) (by decide) (Nat.le_of_ble_eq_true rfl) ?_
    refine v_if_eq 29 dX14_clauses_17 (by decide) (fun c17 => ?_) (fun c17 => ?_)
    · refine v_iconst (-1) dX14_clauses_29 (by decide) ?_
      refine v_ireturn dX14_clauses_30 rfl rfl ?_
      exact ⟨rfl, q⟩
    · exact (no.elim c10 c17).elim
set_option maxRecDepth 20000 in
theorem M_clauseN (g : G0) (h : Hp) (hM : SM h) {w u d : Int32} (no : mWb h w = 0 ∨ mIn u 1 12 = 0 ∨ mDy d = 0) : Mx g yX14_clause wX14_clause 12 [pR (32, 0), pI w, pI u, pI d] h 0 0 (fun r h2 => r = some (pI (-1)) ∧ Qf h h h2) noX := by
  have hMz : SM (mZ h) := hM
  have q := (Qf.rf h).mZ
  refine Mx.by kfX14_clause rfl (by decide) (Nat.le_of_ble_eq_true rfl) ?_
  refine v_aload_n dX14_clause_0 rfl ?_
  refine v_iconst (0) dX14_clause_1 (by decide) ?_
  refine v_putI fl_X14_112 (fun z => by cases z) dX14_clause_2 rfl rfl (Nat.le_of_ble_eq_true rfl) rfl rfl (mh_32_0 hM) ?_
  change V g _ _ _ _ _ _ _ (mZ h) _ _
  refine v_aload_n dX14_clause_5 rfl ?_
  refine v_iload_n dX14_clause_6 rfl ?_
  refine v_invVE (M_isWill g (mZ h) hMz) dX14_clause_7 cwX14_isWill mlX14_274 (ob_32 _) rfl rfl (by decide) (by decide) (Nat.le_of_ble_eq_true rfl) ?_
  rw [mWb_z]
  refine v_if_eq 30 dX14_clause_10 (by decide) (fun c10 => ?_) (fun c10 => ?_)
  · refine v_iconst (-1) dX14_clause_30 (by decide) ?_
    refine v_ireturn dX14_clause_31 rfl rfl ?_
    exact ⟨rfl, q⟩
  · refine v_iload_n dX14_clause_13 rfl ?_
    refine v_iconst (1) dX14_clause_14 (by decide) ?_
    refine v_bipush (12) dX14_clause_15 (by decide) ?_
    refine v_invSE (M_in g (mZ h)) dX14_clause_17 cwX14_in mlX14_231 rfl rfl (by decide) (by decide) (Nat.le_of_ble_eq_true rfl) ?_
    refine v_if_eq 30 dX14_clause_20 (by decide) (fun c20 => ?_) (fun c20 => ?_)
    · refine v_iconst (-1) dX14_clause_30 (by decide) ?_
      refine v_ireturn dX14_clause_31 rfl rfl ?_
      exact ⟨rfl, q⟩
    · refine v_iload_n dX14_clause_23 rfl ?_
      refine v_invSE (M_isDay g (mZ h)) dX14_clause_24 cwX14_isDay mlX14_277 rfl rfl (by decide) (by decide) (Nat.le_of_ble_eq_true rfl) ?_
      refine v_if_ne 32 dX14_clause_27 (by decide) (fun c27 => ?_) (fun c27 => ?_)
      · exact (no.elim c10 (fun z => z.elim c20 c27)).elim
      · refine v_iconst (-1) dX14_clause_30 (by decide) ?_
        refine v_ireturn dX14_clause_31 rfl rfl ?_
        exact ⟨rfl, q⟩
set_option maxRecDepth 20000 in
theorem M_clauseY (g : G0) (h : Hp) {n : Nat} {w : Int32} {D : Nat} (b : QB h n w D) {m : Nat} (h1 : 1 ≤ m) (hm : m ≤ 12) (y1 : ¬ mWb h w = 0) (y3 : ¬ mIn (nI m) 1 12 = 0) (y2 : ¬ mDy (nI D) = 0) : Mx g yX14_clause wX14_clause 12 [pR (32, 0), pI w, pI (nI m), pI (nI D)] h 0 0 (fun r h2 => r = some (pI (match xCl h m with | none => -2 | some a => vi h a 0)) ∧ Qf h h h2) noX := by
  have hM := b.1.1.1
  have hMz : SM (mZ h) := hM
  have q := (Qf.rf h).mZ
  refine Mx.by kfX14_clause rfl (by decide) (Nat.le_of_ble_eq_true rfl) ?_
  refine v_aload_n dX14_clause_0 rfl ?_
  refine v_iconst (0) dX14_clause_1 (by decide) ?_
  refine v_putI fl_X14_112 (fun z => by cases z) dX14_clause_2 rfl rfl (Nat.le_of_ble_eq_true rfl) rfl rfl (mh_32_0 hM) ?_
  change V g _ _ _ _ _ _ _ (mZ h) _ _
  refine v_aload_n dX14_clause_5 rfl ?_
  refine v_iload_n dX14_clause_6 rfl ?_
  refine v_invVE (M_isWill g (mZ h) hMz) dX14_clause_7 cwX14_isWill mlX14_274 (ob_32 _) rfl rfl (by decide) (by decide) (Nat.le_of_ble_eq_true rfl) ?_
  rw [mWb_z]
  refine v_if_eq 30 dX14_clause_10 (by decide) (fun z => absurd z y1) (fun _ => ?_)
  refine v_iload_n dX14_clause_13 rfl ?_
  refine v_iconst (1) dX14_clause_14 (by decide) ?_
  refine v_bipush (12) dX14_clause_15 (by decide) ?_
  refine v_invSE (M_in g (mZ h)) dX14_clause_17 cwX14_in mlX14_231 rfl rfl (by decide) (by decide) (Nat.le_of_ble_eq_true rfl) ?_
  refine v_if_eq 30 dX14_clause_20 (by decide) (fun z => absurd z y3) (fun _ => ?_)
  refine v_iload_n dX14_clause_23 rfl ?_
  refine v_invSE (M_isDay g (mZ h)) dX14_clause_24 cwX14_isDay mlX14_277 rfl rfl (by decide) (by decide) (Nat.le_of_ble_eq_true rfl) ?_
  refine v_if_ne 32 dX14_clause_27 (by decide) (fun _ => ?_) (fun z => absurd z y2)
  refine v_aload_n dX14_clause_32 rfl ?_
  refine v_iload_n dX14_clause_33 rfl ?_
  refine v_iload_n dX14_clause_34 rfl ?_
  refine v_iload_n dX14_clause_35 rfl ?_
  refine v_invV 0 0 (M_fnd g h b q h1 hm) dX14_clause_36 cwX14_finds mlX14_301 (ob_32 _) rfl rfl (by decide) (by decide) (Nat.le_of_ble_eq_true rfl) (Nat.le_of_ble_eq_true rfl) (Nat.le_of_ble_eq_true rfl) (fun r h2 q2 => ?_) (fun _ _ q2 => q2.elim)
  rcases q2 with ⟨q2, ⟨rfl, z⟩ | ⟨k, c, hk, hc, rfl, z, e20, e21, pr, e0⟩⟩
  · change V g _ _ _ _ _ _ (pI 0 :: _) h2 _ _
    refine v_if_eq 49 dX14_clause_39 (by decide) (fun _ => ?_) (fun z => absurd rfl z)
    refine v_bipush (-2) dX14_clause_49 (by decide) ?_
    refine v_ireturn dX14_clause_51 rfl rfl ?_
    exact ⟨by rw [z], q2⟩
  · change V g _ _ _ _ _ _ (pI 1 :: _) h2 _ _
    have hM' := SMQ b.1.1.1 q2
    refine v_if_eq 49 dX14_clause_39 (by decide) (fun z => absurd z (by decide)) (fun _ => ?_)
    refine v_aload_n dX14_clause_42 rfl ?_
    refine v_getI fl_X14_295 dX14_clause_43 rfl rfl (Nat.le_of_ble_eq_true rfl) (mh_32_0 hM') ?_
    rw [e20]
    refine v_goto 51 dX14_clause_46 (by decide) ?_
    refine v_ireturn dX14_clause_51 rfl rfl ?_
    exact ⟨by rw [z]; exact congrArg (fun y => some (pI y)) e0.symm, q2⟩
