set_option maxRecDepth 20000 in
theorem M_hld (g : G0) (h : Hp) {n : Nat} {w : Int32} {D : Nat} (b : QB h n w D) {h0 h' : Hp} (q : Qf h h0 h') {k c p : Nat} (hk : k < n) (hc : c < chN h k) (hp : p < cn h 9) (e20 : vi h' (32, 0) 20 = nI k) (e21 : vi h' (32, 0) 21 = nI c) (r : PutR h k c (offN h k + c)) : Mx g yX14_holds wX14_holds 2 [pR (32, 0), pI (nI p), pI (nI D)] h' 0 0 (fun r h2 => r = some (pI (xHold h (offN h k + c) p (nI D))) ∧ Qf h h0 h2) noX := by
  have hM' := SMQ b.1.1.1 q
  have hk' := SKQ (b.2.1.2.2.2 k hk) q
  have n40 := b.2.1.2.1
  have p40 := b.2.2.2.1.2.1
  have c12 := (b.2.2.1.2 k hk).1
  obtain ⟨f, t, hft, ht, ef, et, ok, nP, sem⟩ := r
  obtain ⟨v, s1, s2⟩ := sem (fun m => xTell h p m (nI D)) (fun m => mFc h p m (nI D)) (fun m hm => (b.tell hp hm).1)
  rw [xHold_eq s1 nP]
  have nck : (nI k).toNatClampNeg = k := nI_clamp (by omega)
  have ncc : (nI c).toNatClampNeg = c := nI_clamp (by omega)
  refine Mx.by kfX14_holds rfl (by decide) (Nat.le_of_ble_eq_true rfl) ?_
  refine v_aload_n dX14_holds_0 rfl ?_
  refine v_getR (some (36, 0)) fl_X14_15 dX14_holds_1 rfl rfl (Nat.le_of_ble_eq_true rfl) (mh_32_0 hM') (mr_32_0_6 hM') ?_
  refine v_aload_n dX14_holds_4 rfl ?_
  refine v_getI fl_X14_295 dX14_holds_5 rfl rfl (Nat.le_of_ble_eq_true rfl) (mh_32_0 hM') ?_
  rw [e20]
  refine v_aald (some (33, k)) dX14_holds_8 rfl (by decide) (by decide) (Nat.le_of_ble_eq_true rfl) (mh_36_0 hM') (by rw [ml_36_0 hM']; exact vp_in_nI (by omega) (by decide)) (by rw [nck]; exact hk'.2.1) ?_
  refine v_astore_n dX14_holds_9 (by decide) ?_
  refine v_iconst (0) dX14_holds_10 (by decide) ?_
  refine v_istore dX14_holds_11 (by decide) ?_
  refine v_aload_n dX14_holds_13 rfl ?_
  refine v_getR (some (42, k)) fl_X14_235 dX14_holds_14 rfl rfl (Nat.le_of_ble_eq_true rfl) hk'.1 hk'.2.2.2.1.2.2.1 ?_
  refine v_aload_n dX14_holds_17 rfl ?_
  refine v_getI fl_X14_298 dX14_holds_18 rfl rfl (Nat.le_of_ble_eq_true rfl) (mh_32_0 hM') ?_
  rw [e21]
  refine v_iald dX14_holds_21 rfl (Nat.le_of_ble_eq_true rfl) hk'.2.2.1.2.2.1 (by rw [hk'.2.2.2.2.1.2.2.1]; exact vp_in_nI (by omega) (by decide)) ?_
  rw [ncc, q.v (by decide) (by decide), ef]
  refine v_istore dX14_holds_22 (by decide) ?_
  refine v_loc [(0, pR (32, 0)), (1, pI (nI p)), (2, pI (nI D)), (3, pR (33, k)), (4, pI 0), (5, pI (nI f))] rfl ?_
  exact M_holds_loop g h b.1 (b.2.1.2.2.2 k hk) (by omega) ht et (by omega) ok (t - f) f [] _ _ h' (by omega) (Nat.le_refl _) (Nat.zero_le _) rfl rfl q e21 trivial s2
set_option maxRecDepth 20000 in
theorem M_bars_loop (g : G0) (h : Hp) {n : Nat} {w : Int32} {D : Nat} (b : QB h n w D) {h0 : Hp} {p : Nat} (hp : p < cn h 9) : ∀ (j m : Nat) (x : Int32) (h' : Hp), m + j = 13 → 1 ≤ m → x = nI m → Qf h h0 h' → V g kfX14_barsOf 3 0 0 3 [(0, pR (32, 0)), (1, pI (nI p)), (2, pI w), (3, pI (nI D)), (4, pI x)] [] h' (fun r h2 => r = some (pI (xBr h p (nI D) j m)) ∧ Qf h h0 h2) (fun _ _ a h2 => noX a h2) := by
  intro j
  induction j with
  | zero =>
    intro m x h' hij h1 hx q
    subst hx
    refine v_iload dX14_barsOf_3 rfl ?_
    refine v_bipush (12) dX14_barsOf_5 (by decide) ?_
    refine v_icmp_gt 39 dX14_barsOf_7 (by decide) (fun _ => ?_) (fun z => absurd (show nI 12 < nI m from nI_lt (by omega) (by omega)) z)
    refine v_bipush (-2) dX14_barsOf_39 (by decide) ?_
    refine v_ireturn dX14_barsOf_41 rfl rfl ?_
    exact ⟨rfl, q⟩
  | succ j ih =>
    intro m x h' hij h1 hx q
    subst hx
    refine v_iload dX14_barsOf_3 rfl ?_
    refine v_bipush (12) dX14_barsOf_5 (by decide) ?_
    refine v_icmp_gt 39 dX14_barsOf_7 (by decide) (fun z => absurd z (show ¬ nI 12 < nI m from nI_nlt (by omega) (by omega))) (fun _ => ?_)
    refine v_aload_n dX14_barsOf_10 rfl ?_
    refine v_iload_n dX14_barsOf_11 rfl ?_
    refine v_iload dX14_barsOf_12 rfl ?_
    refine v_iload_n dX14_barsOf_14 rfl ?_
    refine v_invV 0 0 (M_fnd g h b q h1 (by omega)) dX14_barsOf_15 cwX14_finds mlX14_301 (ob_32 _) rfl rfl (by decide) (by decide) (Nat.le_of_ble_eq_true rfl) (Nat.le_of_ble_eq_true rfl) (Nat.le_of_ble_eq_true rfl) (fun r h2 q2 => ?_) (fun _ _ q2 => q2.elim)
    rcases q2 with ⟨q2, ⟨rfl, z⟩ | ⟨k, c, hk, hc, rfl, z, e20, e21, pr, -⟩⟩
    · change V g _ _ _ _ _ _ (pI 0 :: _) h2 _ _
      refine v_if_eq 33 dX14_barsOf_18 (by decide) (fun _ => ?_) (fun z => absurd rfl z)
      refine v_iinc _ dX14_barsOf_33 rfl rfl (by decide) ?_
      refine v_goto 3 dX14_barsOf_36 (by decide) ?_
      refine v_loc [(0, pR (32, 0)), (1, pI (nI p)), (2, pI w), (3, pI (nI D)), (4, pI (nI m + 1))] rfl ?_
      rw [xBr, z]
      exact ih (m + 1) _ _ (by omega) (by omega) (nI_1 m) q2
    · change V g _ _ _ _ _ _ (pI 1 :: _) h2 _ _
      refine v_if_eq 33 dX14_barsOf_18 (by decide) (fun z => absurd z (by decide)) (fun _ => ?_)
      refine v_aload_n dX14_barsOf_21 rfl ?_
      refine v_iload_n dX14_barsOf_22 rfl ?_
      refine v_iload_n dX14_barsOf_23 rfl ?_
      refine v_invV 0 0 (M_hld g h b q2 hk hc hp e20 e21 pr) dX14_barsOf_24 cwX14_holds mlX14_336 (ob_32 _) rfl rfl (by decide) (by decide) (Nat.le_of_ble_eq_true rfl) (Nat.le_of_ble_eq_true rfl) (Nat.le_of_ble_eq_true rfl) (fun r h3 q2 => ?_) (fun _ _ q2 => q2.elim)
      obtain ⟨rfl, q3⟩ := q2
      change V g _ _ _ _ _ _ (pI (xHold h (offN h k + c) p (nI D)) :: _) h3 _ _
      refine v_if_ne 33 dX14_barsOf_27 (by decide) (fun c27 => ?_) (fun c27 => ?_)
      · refine v_iinc _ dX14_barsOf_33 rfl rfl (by decide) ?_
        refine v_goto 3 dX14_barsOf_36 (by decide) ?_
        refine v_loc [(0, pR (32, 0)), (1, pI (nI p)), (2, pI w), (3, pI (nI D)), (4, pI (nI m + 1))] rfl ?_
        rw [xBr, z]
        show V _ _ _ _ _ _ _ _ _ (fun r h2 => r = some (pI (if xHold h (offN h k + c) p (nI D) = 0 then nI m else _)) ∧ Qf h h0 h2) _
        rw [if_neg c27]
        exact ih (m + 1) _ _ (by omega) (by omega) (nI_1 m) q3
      · refine v_iload dX14_barsOf_30 rfl ?_
        refine v_ireturn dX14_barsOf_32 rfl rfl ?_
        exact ⟨by rw [xBr, z]; show some (pI (nI m)) = some (pI (if xHold h (offN h k + c) p (nI D) = 0 then nI m else _)); rw [if_pos c27], q3⟩
set_option maxRecDepth 20000 in
theorem M_brs (g : G0) (h : Hp) {n : Nat} {w : Int32} {D : Nat} (b : QB h n w D) {h0 h' : Hp} (q : Qf h h0 h') {p : Nat} (hp : p < cn h 9) : Mx g yX14_barsOf wX14_barsOf 3 [pR (32, 0), pI (nI p), pI w, pI (nI D)] h' 0 0 (fun r h2 => r = some (pI (xBar h p (nI D))) ∧ Qf h h0 h2) noX := by
  have hM' := SMQ b.1.1.1 q
  refine Mx.by kfX14_barsOf rfl (by decide) (Nat.le_of_ble_eq_true rfl) ?_
  refine v_iconst (1) dX14_barsOf_0 (by decide) ?_
  refine v_istore dX14_barsOf_1 (by decide) ?_
  refine v_loc [(0, pR (32, 0)), (1, pI (nI p)), (2, pI w), (3, pI (nI D)), (4, pI 1)] rfl ?_
  exact M_bars_loop g h b hp 12 1 1 h' (by omega) (by omega) rfl q
set_option maxRecDepth 20000 in
theorem M_clq_loop (g : G0) (h : Hp) {n : Nat} {w : Int32} {D : Nat} (b : QB h n w D) {h0 : Hp} : ∀ (j m : Nat) (t x : Int32) (h' : Hp), m + j = 13 → 1 ≤ m → x = nI m → Qf h h0 h' → V g kfX14_clausesOf 1 0 0 5 [(0, pR (32, 0)), (1, pI w), (2, pI (nI D)), (3, pI t), (4, pI x)] [] h' (fun r h2 => r = some (pI (xHw h j m t)) ∧ Qf h h0 h2) (fun _ _ a h2 => noX a h2) := by
  intro j
  induction j with
  | zero =>
    intro m t x h' hij h1 hx q
    subst hx
    refine v_iload dX14_clausesOf_5 rfl ?_
    refine v_bipush (12) dX14_clausesOf_7 (by decide) ?_
    refine v_icmp_gt 37 dX14_clausesOf_9 (by decide) (fun _ => ?_) (fun z => absurd (show nI 12 < nI m from nI_lt (by omega) (by omega)) z)
    refine v_iload_n dX14_clausesOf_37 rfl ?_
    refine v_ireturn dX14_clausesOf_38 rfl rfl ?_
    exact ⟨rfl, q⟩
  | succ j ih =>
    intro m t x h' hij h1 hx q
    subst hx
    refine v_iload dX14_clausesOf_5 rfl ?_
    refine v_bipush (12) dX14_clausesOf_7 (by decide) ?_
    refine v_icmp_gt 37 dX14_clausesOf_9 (by decide) (fun z => absurd z (show ¬ nI 12 < nI m from nI_nlt (by omega) (by omega))) (fun _ => ?_)
    refine v_iload_n dX14_clausesOf_12 rfl ?_
    refine v_aload_n dX14_clausesOf_13 rfl ?_
    refine v_iload_n dX14_clausesOf_14 rfl ?_
    refine v_iload dX14_clausesOf_15 rfl ?_
    refine v_iload_n dX14_clausesOf_17 rfl ?_
    refine v_invV 0 0 (M_fnd g h b q h1 (by omega)) dX14_clausesOf_18 cwX14_finds mlX14_301 (ob_32 _) rfl rfl (by decide) (by decide) (Nat.le_of_ble_eq_true rfl) (Nat.le_of_ble_eq_true rfl) (Nat.le_of_ble_eq_true rfl) (fun r h2 q2 => ?_) (fun _ _ q2 => q2.elim)
    rcases q2 with ⟨q2, ⟨rfl, z⟩ | ⟨k, c, hk, hc, rfl, z, e20, e21, pr, -⟩⟩
    · change V g _ _ _ _ _ _ (pI 0 :: _) h2 _ _
      refine v_if_eq 28 dX14_clausesOf_21 (by decide) (fun _ => ?_) (fun z => absurd rfl z)
      refine v_iconst (0) dX14_clausesOf_28 (by decide) ?_
      refine v_iadd dX14_clausesOf_29 ?_
      refine v_istore_n dX14_clausesOf_30 (by decide) ?_
      refine v_iinc _ dX14_clausesOf_31 rfl rfl (by decide) ?_
      refine v_goto 5 dX14_clausesOf_34 (by decide) ?_
      refine v_loc [(0, pR (32, 0)), (1, pI w), (2, pI (nI D)), (3, pI (t + 0)), (4, pI (nI m + 1))] rfl ?_
      rw [xHw, z]
      rw [show t + 0 = t from Int32.add_zero t]
      exact ih (m + 1) _ _ _ (by omega) (by omega) (nI_1 m) q2
    · change V g _ _ _ _ _ _ (pI 1 :: _) h2 _ _
      refine v_if_eq 28 dX14_clausesOf_21 (by decide) (fun z => absurd z (by decide)) (fun _ => ?_)
      refine v_iconst (1) dX14_clausesOf_24 (by decide) ?_
      refine v_goto 29 dX14_clausesOf_25 (by decide) ?_
      refine v_iadd dX14_clausesOf_29 ?_
      refine v_istore_n dX14_clausesOf_30 (by decide) ?_
      refine v_iinc _ dX14_clausesOf_31 rfl rfl (by decide) ?_
      refine v_goto 5 dX14_clausesOf_34 (by decide) ?_
      refine v_loc [(0, pR (32, 0)), (1, pI w), (2, pI (nI D)), (3, pI (t + 1)), (4, pI (nI m + 1))] rfl ?_
      rw [xHw, z]
      exact ih (m + 1) _ _ _ (by omega) (by omega) (nI_1 m) q2
set_option maxRecDepth 20000 in
theorem M_clq (g : G0) (h : Hp) {n : Nat} {w : Int32} {D : Nat} (b : QB h n w D) {h0 h' : Hp} (q : Qf h h0 h')  : Mx g yX14_clausesOf wX14_clausesOf 1 [pR (32, 0), pI w, pI (nI D)] h' 0 0 (fun r h2 => r = some (pI (xHow h)) ∧ Qf h h0 h2) noX := by
  have hM' := SMQ b.1.1.1 q
  refine Mx.by kfX14_clausesOf rfl (by decide) (Nat.le_of_ble_eq_true rfl) ?_
  refine v_iconst (0) dX14_clausesOf_0 (by decide) ?_
  refine v_istore_n dX14_clausesOf_1 (by decide) ?_
  refine v_iconst (1) dX14_clausesOf_2 (by decide) ?_
  refine v_istore dX14_clausesOf_3 (by decide) ?_
  refine v_loc [(0, pR (32, 0)), (1, pI w), (2, pI (nI D)), (3, pI 0), (4, pI 1)] rfl ?_
  exact M_clq_loop g h b 12 1 0 1 h' (by omega) (by omega) rfl q
def mMc (h : Hp) (p : Nat) (d : Int32) : Int32 := if xHow h ≤ 0 then 0 else if d < vi h (38, 2) p then 0 else if vi h (38, 3) p = -1 then (if xBar h p d = -2 then 1 else 0) else if vi h (38, 3) p ≤ d then 0 else (if xBar h p d = -2 then 1 else 0)
theorem mMc_eq {h : Hp} {p D : Nat} (a : P1 h p) (hD : D ≤ 40000) : mMc h p (nI D) = xAdm h p (nI D) := by
  obtain ⟨-, -, -, a3, a7, -⟩ := a
  unfold mMc xAdm
  rw [a3]
  by_cases c2 : nI D < vi h (38, 2) p
  · rw [if_pos c2, if_pos c2]; split <;> rfl
  · rw [if_neg c2, if_neg c2]
    rcases a7 with ⟨z1, z2⟩ | ⟨u, hu, z1, z2⟩
    · rw [z1, z2, if_pos rfl, if_pos (show nI D < 2147483647 from nI_lt (b := 2147483647) (by omega) (by decide))]
    · rw [z1, z2, if_neg (nI_ne1 (by omega))]
      by_cases c : nI D < nI u
      · rw [if_pos c, if_neg (Int32.not_le.mpr c)]
      · rw [if_neg c, if_pos (Int32.not_lt.mp c)]; split <;> rfl
set_option maxRecDepth 20000 in
theorem M_myc (g : G0) (h : Hp) {n : Nat} {w : Int32} {D : Nat} (b : QB h n w D) {h0 h' : Hp} (q : Qf h h0 h') {p : Nat} (hp : p < cn h 9) : Mx g yX14_mayCome wX14_mayCome 4 [pR (32, 0), pI (nI p), pI w, pI (nI D)] h' 0 0 (fun r h2 => r = some (pI (xAdm h p (nI D))) ∧ Qf h h0 h2) noX := by
  have hM' := SMQ b.1.1.1 q
  have p40 := b.2.2.2.1.2.1
  rw [← mMc_eq (b.2.2.2.1.2.2.1 p hp).1 b.2.2.2.2.2.1]
  have ncp : (nI p).toNatClampNeg = p := nI_clamp (by omega)
  refine Mx.by kfX14_mayCome rfl (by decide) (Nat.le_of_ble_eq_true rfl) ?_
  refine v_aload_n dX14_mayCome_0 rfl ?_
  refine v_iload_n dX14_mayCome_1 rfl ?_
  refine v_iload_n dX14_mayCome_2 rfl ?_
  refine v_invV 0 0 (M_clq g h b q) dX14_mayCome_3 cwX14_clausesOf mlX14_304 (ob_32 _) rfl rfl (by decide) (by decide) (Nat.le_of_ble_eq_true rfl) (Nat.le_of_ble_eq_true rfl) (Nat.le_of_ble_eq_true rfl) (fun r h3 q2 => ?_) (fun _ _ q2 => q2.elim)
  obtain ⟨rfl, q3⟩ := q2
  change V g _ _ _ _ _ _ (pI (xHow h) :: _) h3 _ _
  refine v_if_le 55 dX14_mayCome_6 (by decide) (fun c6 => ?_) (fun c6 => ?_)
  · refine v_iconst (0) dX14_mayCome_55 (by decide) ?_
    refine v_ireturn dX14_mayCome_56 rfl rfl ?_
    first | exact ⟨by simp only [mMc, if_pos c6], q3⟩ | exact ⟨by simp only [mMc, if_pos c6], q4⟩
  · refine v_aload_n dX14_mayCome_9 rfl ?_
    refine v_getR (some (38, 2)) fl_X14_42 dX14_mayCome_10 rfl rfl (Nat.le_of_ble_eq_true rfl) (mh_32_0 (SMQ b.1.1.1 q3)) (mr_32_0_26 (SMQ b.1.1.1 q3)) ?_
    refine v_iload_n dX14_mayCome_13 rfl ?_
    refine v_iald dX14_mayCome_14 rfl (Nat.le_of_ble_eq_true rfl) (mh_38_2 (SMQ b.1.1.1 q3)) (by rw [ml_38_2 (SMQ b.1.1.1 q3)]; exact vp_in_nI (by omega) (by decide)) ?_
    rw [ncp, q3.v (by decide) (by decide)]
    refine v_iload_n dX14_mayCome_15 rfl ?_
    refine v_icmp_gt 55 dX14_mayCome_16 (by decide) (fun c16 => ?_) (fun c16 => ?_)
    · refine v_iconst (0) dX14_mayCome_55 (by decide) ?_
      refine v_ireturn dX14_mayCome_56 rfl rfl ?_
      first | exact ⟨by simp only [mMc, if_neg c6, if_pos c16], q3⟩ | exact ⟨by simp only [mMc, if_neg c6, if_pos c16], q4⟩
    · refine v_aload_n dX14_mayCome_19 rfl ?_
      refine v_getR (some (38, 3)) fl_X14_45 dX14_mayCome_20 rfl rfl (Nat.le_of_ble_eq_true rfl) (mh_32_0 (SMQ b.1.1.1 q3)) (mr_32_0_27 (SMQ b.1.1.1 q3)) ?_
      refine v_iload_n dX14_mayCome_23 rfl ?_
      refine v_iald dX14_mayCome_24 rfl (Nat.le_of_ble_eq_true rfl) (mh_38_3 (SMQ b.1.1.1 q3)) (by rw [ml_38_3 (SMQ b.1.1.1 q3)]; exact vp_in_nI (by omega) (by decide)) ?_
      rw [ncp, q3.v (by decide) (by decide)]
      refine v_iconst (-1) dX14_mayCome_25 (by decide) ?_
      refine v_icmp_eq 39 dX14_mayCome_26 (by decide) (fun c26 => ?_) (fun c26 => ?_)
      · refine v_aload_n dX14_mayCome_39 rfl ?_
        refine v_iload_n dX14_mayCome_40 rfl ?_
        refine v_iload_n dX14_mayCome_41 rfl ?_
        refine v_iload_n dX14_mayCome_42 rfl ?_
        refine v_invV 0 0 (M_brs g h b q3 hp) dX14_mayCome_43 cwX14_barsOf mlX14_340 (ob_32 _) rfl rfl (by decide) (by decide) (Nat.le_of_ble_eq_true rfl) (Nat.le_of_ble_eq_true rfl) (Nat.le_of_ble_eq_true rfl) (fun r h4 q2 => ?_) (fun _ _ q2 => q2.elim)
        obtain ⟨rfl, q4⟩ := q2
        change V g _ _ _ _ _ _ (pI (xBar h p (nI D)) :: _) h4 _ _
        refine v_bipush (-2) dX14_mayCome_46 (by decide) ?_
        refine v_icmp_ne 55 dX14_mayCome_48 (by decide) (fun c48 => ?_) (fun c48 => ?_)
        · refine v_iconst (0) dX14_mayCome_55 (by decide) ?_
          refine v_ireturn dX14_mayCome_56 rfl rfl ?_
          first | exact ⟨by simp only [mMc, if_neg c6, if_neg c16, if_pos c26, if_neg c48], q3⟩ | exact ⟨by simp only [mMc, if_neg c6, if_neg c16, if_pos c26, if_neg c48], q4⟩
        · refine v_iconst (1) dX14_mayCome_51 (by decide) ?_
          refine v_goto 56 dX14_mayCome_52 (by decide) ?_
          refine v_ireturn dX14_mayCome_56 rfl rfl ?_
          first | exact ⟨by simp only [mMc, if_neg c6, if_neg c16, if_pos c26, if_pos c48], q3⟩ | exact ⟨by simp only [mMc, if_neg c6, if_neg c16, if_pos c26, if_pos c48], q4⟩
      · refine v_aload_n dX14_mayCome_29 rfl ?_
        refine v_getR (some (38, 3)) fl_X14_45 dX14_mayCome_30 rfl rfl (Nat.le_of_ble_eq_true rfl) (mh_32_0 (SMQ b.1.1.1 q3)) (mr_32_0_27 (SMQ b.1.1.1 q3)) ?_
        refine v_iload_n dX14_mayCome_33 rfl ?_
        refine v_iald dX14_mayCome_34 rfl (Nat.le_of_ble_eq_true rfl) (mh_38_3 (SMQ b.1.1.1 q3)) (by rw [ml_38_3 (SMQ b.1.1.1 q3)]; exact vp_in_nI (by omega) (by decide)) ?_
        rw [ncp, q3.v (by decide) (by decide)]
        refine v_iload_n dX14_mayCome_35 rfl ?_
        refine v_icmp_le 55 dX14_mayCome_36 (by decide) (fun c36 => ?_) (fun c36 => ?_)
        · refine v_iconst (0) dX14_mayCome_55 (by decide) ?_
          refine v_ireturn dX14_mayCome_56 rfl rfl ?_
          first | exact ⟨by simp only [mMc, if_neg c6, if_neg c16, if_neg c26, if_pos c36], q3⟩ | exact ⟨by simp only [mMc, if_neg c6, if_neg c16, if_neg c26, if_pos c36], q4⟩
        · refine v_aload_n dX14_mayCome_39 rfl ?_
          refine v_iload_n dX14_mayCome_40 rfl ?_
          refine v_iload_n dX14_mayCome_41 rfl ?_
          refine v_iload_n dX14_mayCome_42 rfl ?_
          refine v_invV 0 0 (M_brs g h b q3 hp) dX14_mayCome_43 cwX14_barsOf mlX14_340 (ob_32 _) rfl rfl (by decide) (by decide) (Nat.le_of_ble_eq_true rfl) (Nat.le_of_ble_eq_true rfl) (Nat.le_of_ble_eq_true rfl) (fun r h4 q2 => ?_) (fun _ _ q2 => q2.elim)
          obtain ⟨rfl, q4⟩ := q2
          change V g _ _ _ _ _ _ (pI (xBar h p (nI D)) :: _) h4 _ _
          refine v_bipush (-2) dX14_mayCome_46 (by decide) ?_
          refine v_icmp_ne 55 dX14_mayCome_48 (by decide) (fun c48 => ?_) (fun c48 => ?_)
          · refine v_iconst (0) dX14_mayCome_55 (by decide) ?_
            refine v_ireturn dX14_mayCome_56 rfl rfl ?_
            first | exact ⟨by simp only [mMc, if_neg c6, if_neg c16, if_neg c26, if_neg c36, if_neg c48], q3⟩ | exact ⟨by simp only [mMc, if_neg c6, if_neg c16, if_neg c26, if_neg c36, if_neg c48], q4⟩
          · refine v_iconst (1) dX14_mayCome_51 (by decide) ?_
            refine v_goto 56 dX14_mayCome_52 (by decide) ?_
            refine v_ireturn dX14_mayCome_56 rfl rfl ?_
            first | exact ⟨by simp only [mMc, if_neg c6, if_neg c16, if_neg c26, if_neg c36, if_pos c48], q3⟩ | exact ⟨by simp only [mMc, if_neg c6, if_neg c16, if_neg c26, if_neg c36, if_pos c48], q4⟩
