/-! how far a token goes -/
theorem spn_1 (b : Nat → Int32) {j q : Nat} (h : ¬ xLet (b q) = 0) (hj : 0 < j) : q + 1 ≤ spn b j q := by
  cases j with
  | zero => omega
  | succ j => rw [spn, if_neg h]; exact (spn_le b j (q + 1)).1
theorem tnA_1 (b : Nat → Int32) {j q : Nat} (v : Int32) (h : ¬ xDig (b q) = 0) (hj : 0 < j) : q + 1 ≤ (tnA b j q v).1 := by
  cases j with
  | zero => omega
  | succ j => rw [tnA, if_neg h]; exact (tnA_le b j (q + 1) _).1
theorem tok_adv {b : Nat → Int32} {e q : Nat} (he : e ≤ 300) (hq : q ≤ e) (h : ¬ (tok b e q).2.2.1 = 0) : q + 1 ≤ (tok b e q).1 := by
  have hs := skp_le b (e - q) q
  unfold tok at h ⊢
  generalize skp b (e - q) q = s at hs h ⊢
  unfold tokS at h ⊢
  by_cases c : nI s < nI e
  · have sl : s < e := (nI_ltI (by omega) (by omega)).mp c
    rw [if_pos c]
    by_cases cd : xDig (b s) = 0
    · rw [if_pos cd]
      by_cases cl : xLet (b s) = 0
      · rw [if_pos cl]; split <;> (show q + 1 ≤ s + 1; omega)
      · rw [if_neg cl]; have := spn_1 b (j := e - s) cl (by omega); show q + 1 ≤ spn b (e - s) s; omega
    · rw [if_neg cd]; have := tnA_1 b (j := e - s) 0 cd (by omega); show q + 1 ≤ (tnA b (e - s) s 0).1; omega
  · rw [if_neg c] at h; exact absurd rfl h
theorem tok_end {b : Nat → Int32} {e q : Nat} (he : e ≤ 300) (hq : q ≤ e) : (tok b e q).1 ≤ e := (tok_le b hq he).2
theorem tok_w {b : Nat → Int32} {e q j : Nat} (he : e ≤ 300) (hq : q ≤ e) (hj : j < 11) (h : isK j (tok b e q).2.2.1 (tok b e q).2.2.2) : q + lenS.getD j 0 ≤ (tok b e q).1 := by
  have hs := skp_le b (e - q) q
  have rg := isK_rng hj h
  unfold tok at h rg ⊢
  generalize skp b (e - q) q = s at hs h rg ⊢
  unfold tokS at h rg ⊢
  by_cases c : nI s < nI e
  · have sl : s < e := (nI_ltI (by omega) (by omega)).mp c
    rw [if_pos c] at h rg ⊢
    by_cases cd : xDig (b s) = 0
    · rw [if_pos cd] at h rg ⊢
      by_cases cl : xLet (b s) = 0
      · rw [if_pos cl] at rg
        exfalso
        by_cases cs : xSgn (b s) = 0
        · rw [if_pos cs] at rg; exact absurd rg (show ¬ ((1 : Int32) = 4 ∨ (1 : Int32) = 5 ∨ (1 : Int32) = 6 ∨ (1 : Int32) = 7 ∨ (1 : Int32) = 8 ∨ (1 : Int32) = 9 ∨ (1 : Int32) = 10) by decide)
        · rw [if_neg cs] at rg
          replace rg : b s = 4 ∨ b s = 5 ∨ b s = 6 ∨ b s = 7 ∨ b s = 8 ∨ b s = 9 ∨ b s = 10 := rg
          rcases (sgn_iff _).mp cs with z | z | z | z | z | z | z | z <;> (rw [z] at rg; revert rg; decide)
      · rw [if_neg cl] at h rg ⊢
        replace h : isK j (tokW b s (spn b (e - s) s) 0).1 (tokW b s (spn b (e - s) s) 0).2 := h
        replace rg : (tokW b s (spn b (e - s) s) 0).1 = 4 ∨ (tokW b s (spn b (e - s) s) 0).1 = 5 ∨ (tokW b s (spn b (e - s) s) 0).1 = 6 ∨ (tokW b s (spn b (e - s) s) 0).1 = 7 ∨ (tokW b s (spn b (e - s) s) 0).1 = 8 ∨ (tokW b s (spn b (e - s) s) 0).1 = 9 ∨ (tokW b s (spn b (e - s) s) 0).1 = 10 := rg
        show q + lenS.getD j 0 ≤ spn b (e - s) s
        have sp := spn_le b (e - s) s
        by_cases z : 8 < spn b (e - s) s - s
        · exfalso
          have k1 : tokW b s (spn b (e - s) s) 0 = (1, 0) := by unfold tokW; rw [if_pos (show (8 : Int32) < nI (spn b (e - s) s - s) from nI_lt (a := 8) z (by omega))]
          rw [k1] at rg; revert rg; decide
        · rcases tokW_of (b := b) (s := s) (t := spn b (e - s) s) sp.1 (by omega) 0 with ⟨i, hi, h1, h2⟩ | ⟨-, h2⟩
          · have : i = j := isK_un hj hi h h2
            subst this
            have := ((spl_iff (by omega)).mp h1).1
            omega
          · exfalso; rw [h2] at rg; revert rg; decide
    · exfalso
      rw [if_neg cd] at rg
      by_cases z : (4 : Int32) < nI ((tnA b (e - s) s 0).1 - s)
      · rw [if_pos z] at rg; exact absurd rg (show ¬ ((1 : Int32) = 4 ∨ (1 : Int32) = 5 ∨ (1 : Int32) = 6 ∨ (1 : Int32) = 7 ∨ (1 : Int32) = 8 ∨ (1 : Int32) = 9 ∨ (1 : Int32) = 10) by decide)
      · rw [if_neg z] at rg; exact absurd rg (show ¬ ((2 : Int32) = 4 ∨ (2 : Int32) = 5 ∨ (2 : Int32) = 6 ∨ (2 : Int32) = 7 ∨ (2 : Int32) = 8 ∨ (2 : Int32) = 9 ∨ (2 : Int32) = 10) by decide)
  · exfalso; rw [if_neg c] at rg; exact absurd rg (show ¬ ((0 : Int32) = 4 ∨ (0 : Int32) = 5 ∨ (0 : Int32) = 6 ∨ (0 : Int32) = 7 ∨ (0 : Int32) = 8 ∨ (0 : Int32) = 9 ∨ (0 : Int32) = 10) by decide)
theorem dig_v {x : Int32} (h : ¬ xDig x = 0) : ∃ d, d ≤ 9 ∧ x = nI (48 + d) := by
  unfold xDig at h
  split at h
  · exact absurd rfl h
  · rename_i c1
    split at h
    · exact absurd rfl h
    · rename_i c2
      obtain ⟨j, hj, e⟩ := nI_of2 (M := 57) (n := 57) (by decide) (fun z => c1 (Int32.lt_trans z (by decide))) (Int32.not_lt.mp c2)
      have j48 : 48 ≤ j := by
        have := c1; rw [e] at this
        exact Nat.le_of_not_lt (fun z => this (nI_lt (a := j) (b := 48) z (by decide)))
      exact ⟨j - 48, by omega, by rw [e]; congr 1; omega⟩
theorem tnA_v (b : Nat → Int32) : ∀ (j q V m : Nat), (tnA b j q (nI V)).1 ≤ q + m → ∃ U, U + 1 ≤ (V + 1) * 10 ^ m ∧ (tnA b j q (nI V)).2 = nI U
  | 0, q, V, m, _ => ⟨V, by have : 1 ≤ 10 ^ m := Nat.one_le_pow _ _ (by decide); exact Nat.le_mul_of_pos_right _ (by omega), rfl⟩
  | j + 1, q, V, m, h => by
    rw [tnA] at h ⊢
    split
    · exact ⟨V, by have : 1 ≤ 10 ^ m := Nat.one_le_pow _ _ (by decide); exact Nat.le_mul_of_pos_right _ (by omega), rfl⟩
    · rename_i z
      rw [if_neg z] at h
      obtain ⟨d, hd, ed⟩ := dig_v z
      have ev : nI V * 10 + b q - 48 = nI (V * 10 + d) := by
        rw [ed, show (10 : Int32) = nI 10 from rfl, nI_mul, nI_add, show (48 : Int32) = nI 48 from rfl, nI_sub (by omega)]; congr 1; omega
      rw [ev] at h ⊢
      have hp := tnA_le b j (q + 1) (nI (V * 10 + d))
      cases m with
      | zero => omega
      | succ m =>
        obtain ⟨U, hU, eU⟩ := tnA_v b j (q + 1) (V * 10 + d) m (by omega)
        refine ⟨U, Nat.le_trans hU ?_, eU⟩
        rw [Nat.pow_succ, Nat.mul_comm (10 ^ m) 10, ← Nat.mul_assoc]
        exact Nat.mul_le_mul_right _ (by omega)
theorem tok_num {b : Nat → Int32} {e q : Nat} (he : e ≤ 300) (hq : q ≤ e) (h : (tok b e q).2.2.1 = 2) : ∃ u, u ≤ 9999 ∧ (tok b e q).2.2.2 = nI u := by
  have hs := skp_le b (e - q) q
  unfold tok at h ⊢
  generalize skp b (e - q) q = s at hs h ⊢
  unfold tokS at h ⊢
  by_cases c : nI s < nI e
  · have sl : s < e := (nI_ltI (by omega) (by omega)).mp c
    rw [if_pos c] at h ⊢
    by_cases cd : xDig (b s) = 0
    · exfalso
      rw [if_pos cd] at h
      by_cases cl : xLet (b s) = 0
      · rw [if_pos cl] at h
        by_cases cs : xSgn (b s) = 0
        · rw [if_pos cs] at h; exact absurd h (by show ¬ (1 : Int32) = 2; decide)
        · rw [if_neg cs] at h
          replace h : b s = 2 := h
          rcases (sgn_iff _).mp cs with z | z | z | z | z | z | z | z <;> (rw [z] at h; exact absurd h (by decide))
      · rw [if_neg cl] at h
        replace h : (tokW b s (spn b (e - s) s) 0).1 = 2 := h
        have sp := spn_le b (e - s) s
        by_cases z : 8 < spn b (e - s) s - s
        · have k1 : tokW b s (spn b (e - s) s) 0 = (1, 0) := by unfold tokW; rw [if_pos (show (8 : Int32) < nI (spn b (e - s) s - s) from nI_lt (a := 8) z (by omega))]
          rw [k1] at h; exact absurd h (by decide)
        · rcases tokW_of (b := b) (s := s) (t := spn b (e - s) s) sp.1 (by omega) 0 with ⟨i, hi, h1, h2⟩ | ⟨-, h2⟩
          · rcases isK_rng hi h2 with y | y | y | y | y | y | y <;> (rw [y] at h; exact absurd h (by decide))
          · rw [h2] at h; exact absurd h (by decide)
    · rw [if_neg cd] at h ⊢
      by_cases z : (4 : Int32) < nI ((tnA b (e - s) s 0).1 - s)
      · rw [if_pos z] at h; exact absurd h (by show ¬ (1 : Int32) = 2; decide)
      · have tl := tnA_le b (e - s) s 0
        have z4 : (tnA b (e - s) s 0).1 ≤ s + 4 := by
          refine Nat.le_of_not_lt (fun y => z ?_)
          exact nI_lt (a := 4) (b := (tnA b (e - s) s 0).1 - s) (by omega) (by omega)
        obtain ⟨U, hU, eU⟩ := tnA_v b (e - s) s 0 4 z4
        exact ⟨U, by omega, eU⟩
  · rw [if_neg c] at h; exact absurd h (by show ¬ (0 : Int32) = 2; decide)
/-! the reference writes a sign -/
def mPu (h : Hp) (S : Ad) (a5 a6 a7 : Ad) (n : Nat) (s m t : Int32) : Hp := sI (sI (sI (sI h a5 n s) a6 n m) a7 n t) S 3 (nI (n + 1))
set_option maxRecDepth 20000 in
theorem M_put33 (g : G0) (h : Hp) {k n : Nat} (hk : SK h k) (hn : n < 130) (en : vi h (33, k) 3 = nI n) {s m t : Int32} : Mx g yX12_put wX12_put 0 [pR (33, k), pI s, pI m, pI t] h 0 0 (qE none (mPu h (33, k) (45, k) (46, k) (47, k) n s m t)) noX := by
  refine Mx.by kfX12_put rfl (by decide) (Nat.le_of_ble_eq_true rfl) ?_
  have ncn : (nI n).toNatClampNeg = n := nI_clamp (by omega)
  refine v_aload_n dX12_put_0 rfl ?_
  refine v_getR (some (45, k)) fl_X12_27 dX12_put_1 rfl rfl (Nat.le_of_ble_eq_true rfl) hk.1 hk.2.2.2.1.2.2.2.2.2.1 ?_
  refine v_aload_n dX12_put_4 rfl ?_
  refine v_getI fl_X12_42 dX12_put_5 rfl rfl (Nat.le_of_ble_eq_true rfl) hk.1 ?_
  rw [en]
  refine v_iload_n dX12_put_8 rfl ?_
  refine v_iast dX12_put_9 rfl (Nat.le_of_ble_eq_true rfl) hk.2.2.1.2.2.2.2.2.1 (by rw [show ln (h) (45, k) = 130 from hk.2.2.2.2.1.2.2.2.2.2.1]; exact vp_in_nI hn (by decide)) ?_
  rw [ncn]
  refine v_aload_n dX12_put_10 rfl ?_
  refine v_getR (some (46, k)) fl_X12_30 dX12_put_11 rfl rfl (Nat.le_of_ble_eq_true rfl) hk.1 hk.2.2.2.1.2.2.2.2.2.2.1 ?_
  refine v_aload_n dX12_put_14 rfl ?_
  refine v_getI fl_X12_42 dX12_put_15 rfl rfl (Nat.le_of_ble_eq_true rfl) hk.1 ?_
  rw [show vi (sI h (45, k) n s) (33, k) 3 = nI n from by rw [vi_sI_ne _ _ _ _ (fun z => (by cases z))]; exact en]
  refine v_iload_n dX12_put_18 rfl ?_
  refine v_iast dX12_put_19 rfl (Nat.le_of_ble_eq_true rfl) hk.2.2.1.2.2.2.2.2.2.1 (by rw [show ln (sI h (45, k) n s) (46, k) = 130 from hk.2.2.2.2.1.2.2.2.2.2.2.1]; exact vp_in_nI hn (by decide)) ?_
  rw [ncn]
  refine v_aload_n dX12_put_20 rfl ?_
  refine v_getR (some (47, k)) fl_X12_33 dX12_put_21 rfl rfl (Nat.le_of_ble_eq_true rfl) hk.1 hk.2.2.2.1.2.2.2.2.2.2.2.1 ?_
  refine v_aload_n dX12_put_24 rfl ?_
  refine v_getI fl_X12_42 dX12_put_25 rfl rfl (Nat.le_of_ble_eq_true rfl) hk.1 ?_
  rw [show vi (sI (sI h (45, k) n s) (46, k) n m) (33, k) 3 = nI n from by rw [vi_sI_ne _ _ _ _ (fun z => (by cases z)), vi_sI_ne _ _ _ _ (fun z => (by cases z))]; exact en]
  refine v_iload_n dX12_put_28 rfl ?_
  refine v_iast dX12_put_29 rfl (Nat.le_of_ble_eq_true rfl) hk.2.2.1.2.2.2.2.2.2.2.1 (by rw [show ln (sI (sI h (45, k) n s) (46, k) n m) (47, k) = 130 from hk.2.2.2.2.1.2.2.2.2.2.2.2.1]; exact vp_in_nI hn (by decide)) ?_
  rw [ncn]
  refine v_aload_n dX12_put_30 rfl ?_
  refine v_dup dX12_put_31 rfl ?_
  refine v_getI fl_X12_42 dX12_put_32 rfl rfl (Nat.le_of_ble_eq_true rfl) hk.1 ?_
  rw [show vi (sI (sI (sI h (45, k) n s) (46, k) n m) (47, k) n t) (33, k) 3 = nI n from by rw [vi_sI_ne _ _ _ _ (fun z => (by cases z)), vi_sI_ne _ _ _ _ (fun z => (by cases z)), vi_sI_ne _ _ _ _ (fun z => (by cases z))]; exact en]
  refine v_iconst (1) dX12_put_35 (by decide) ?_
  refine v_iadd dX12_put_36 ?_
  rw [nI_1]
  refine v_putI fl_X12_42 (fun z => by cases z) dX12_put_37 rfl rfl (Nat.le_of_ble_eq_true rfl) rfl rfl hk.1 ?_
  refine v_return dX12_put_40 rfl ?_
  exact ⟨rfl, rfl⟩
