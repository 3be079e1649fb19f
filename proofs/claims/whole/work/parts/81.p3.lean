def wB (j : Nat) : Nat → Int32 := fun i => (bytS.getD j []).getD i 0
def wv (j : Nat) : Int64 := wO (wB j) (lenS.getD j 0) 0 0
def mK (j : Nat) (h : Hp) : Int32 := if vi h (32, 0) 13 = 2 then (if vl h (32, 0) 19 = wv j then 1 else 0) else 0
set_option maxRecDepth 20000 in
theorem M_wo_loop (g : G0) (h : Hp) {j : Nat} (hj : j < 11) : ∀ (n i : Nat) (w : Int64) (x : Int32), i + n = lenS.getD j 0 → x = nI i → V g kfX14_wordOf 5 0 0 4 [(0, pR (64, j)), (1, pL w), (3, pI x)] [] h (qE (some (pL (wO (wB j) n i w))) h) (fun _ _ a h' => noX a h') := by
  have l6 := len6 j
  intro n
  induction n with
  | zero =>
    intro i w x hij hx
    subst hx
    refine v_iload_n dX14_wordOf_4 rfl ?_
    refine v_aload_n dX14_wordOf_5 rfl ?_
    refine v_invStr (m_strlen g h hj) dX14_wordOf_6 cwJ0_length_8abf5 mlX14_138 rfl hj rfl rfl (by decide) (by decide) (Nat.le_of_ble_eq_true rfl) ?_
    refine v_icmp_ge 36 dX14_wordOf_9 (by decide) (fun _ => ?_) (fun z => absurd (nI_le (by omega) (by omega)) z)
    refine v_lload_n dX14_wordOf_36 rfl ?_
    refine v_lreturn dX14_wordOf_37 rfl ?_
    exact ⟨rfl, rfl⟩
  | succ n ih =>
    intro i w x hij hx
    subst hx
    refine v_iload_n dX14_wordOf_4 rfl ?_
    refine v_aload_n dX14_wordOf_5 rfl ?_
    refine v_invStr (m_strlen g h hj) dX14_wordOf_6 cwJ0_length_8abf5 mlX14_138 rfl hj rfl rfl (by decide) (by decide) (Nat.le_of_ble_eq_true rfl) ?_
    refine v_icmp_ge 36 dX14_wordOf_9 (by decide) (fun z => absurd z (nI_ge (by omega) (by omega))) (fun _ => ?_)
    refine v_ldc2 (32) dX14_wordOf_12 ctX14_144 ?_
    refine v_lload_n dX14_wordOf_15 rfl ?_
    refine v_lmul dX14_wordOf_16 ?_
    refine v_aload_n dX14_wordOf_17 rfl ?_
    refine v_iload_n dX14_wordOf_18 rfl ?_
    refine v_invStr (m_charAt g h hj (show i < lenS.getD j 0 by omega)) dX14_wordOf_19 cwJ0_charAt_5068e mlX14_146 rfl hj rfl rfl (by decide) (by decide) (Nat.le_of_ble_eq_true rfl) ?_
    refine v_bipush (97) dX14_wordOf_22 (by decide) ?_
    refine v_isub dX14_wordOf_24 ?_
    refine v_iconst (1) dX14_wordOf_25 (by decide) ?_
    refine v_iadd dX14_wordOf_26 ?_
    refine v_i2l dX14_wordOf_27 ?_
    refine v_ladd dX14_wordOf_28 ?_
    refine v_lstore_n dX14_wordOf_29 (by decide) ?_
    refine v_iinc _ dX14_wordOf_30 rfl rfl (by decide) ?_
    refine v_goto 4 dX14_wordOf_33 (by decide) ?_
    rw [wO]
    refine v_loc [(0, pR (64, j)), (1, pL (32 * w + ((bytS.getD j []).getD i 0 - 97 + 1).toInt64)), (3, pI (nI i + 1))] rfl ?_
    exact ih (i + 1) _ _ (by omega) (nI_1 i)
set_option maxRecDepth 20000 in
theorem M_wordOf (g : G0) (h : Hp) {j : Nat} (hj : j < 11) : Mx g yX14_wordOf wX14_wordOf 5 [pR (64, j)] h 0 0 (qE (some (pL (wv j))) h) noX := by
  refine Mx.by kfX14_wordOf rfl (by decide) (Nat.le_of_ble_eq_true rfl) ?_
  refine v_lconst 0 dX14_wordOf_0 (by decide) ?_
  refine v_lstore_n dX14_wordOf_1 (by decide) ?_
  refine v_iconst (0) dX14_wordOf_2 (by decide) ?_
  refine v_istore_n dX14_wordOf_3 (by decide) ?_
  refine v_loc [(0, pR (64, j)), (1, pL 0), (3, pI 0)] rfl ?_
  exact M_wo_loop g h hj _ 0 0 0 (by omega) rfl
theorem lc0 (x y : Int64) : (lg_cmp x y = 0) ↔ x = y := lg_cmp_eq x y
set_option maxRecDepth 20000 in
theorem M_isWord (g : G0) (h : Hp) (hM : SM h) {j : Nat} (hj : j < 11) : Mx g yX14_isWord wX14_isWord 6 [pR (32, 0), pR (64, j)] h 0 0 (qE (some (pI (mK j h))) h) noX := by
  refine Mx.by kfX14_isWord rfl (by decide) (Nat.le_of_ble_eq_true rfl) ?_
  refine v_aload_n dX14_isWord_0 rfl ?_
  refine v_getI fl_X14_156 dX14_isWord_1 rfl rfl (Nat.le_of_ble_eq_true rfl) (mh_32_0 hM) ?_
  refine v_iconst (2) dX14_isWord_4 (by decide) ?_
  refine v_icmp_ne 24 dX14_isWord_5 (by decide) (fun c5 => ?_) (fun c5 => ?_)
  · refine v_iconst (0) dX14_isWord_24 (by decide) ?_
    refine v_ireturn dX14_isWord_25 rfl rfl ?_
    first | exact ⟨by rw [mK, if_pos c5, if_pos ((lc0 _ _).mp c17)], rfl⟩ | exact ⟨by rw [mK, if_pos c5, if_neg (fun z => c17 ((lc0 _ _).mpr z))], rfl⟩ | exact ⟨by rw [mK, if_neg c5], rfl⟩
  · refine v_aload_n dX14_isWord_8 rfl ?_
    refine v_getL fl_X14_166 dX14_isWord_9 rfl rfl (Nat.le_of_ble_eq_true rfl) (mh_32_0 hM) ?_
    refine v_aload_n dX14_isWord_12 rfl ?_
    refine v_invSE (M_wordOf g h hj) dX14_isWord_13 cwX14_wordOf mlX14_176 rfl rfl (by decide) (by decide) (Nat.le_of_ble_eq_true rfl) ?_
    refine v_lcmp dX14_isWord_16 ?_
    refine v_if_ne 24 dX14_isWord_17 (by decide) (fun c17 => ?_) (fun c17 => ?_)
    · refine v_iconst (0) dX14_isWord_24 (by decide) ?_
      refine v_ireturn dX14_isWord_25 rfl rfl ?_
      first | exact ⟨by rw [mK, if_pos c5, if_pos ((lc0 _ _).mp c17)], rfl⟩ | exact ⟨by rw [mK, if_pos c5, if_neg (fun z => c17 ((lc0 _ _).mpr z))], rfl⟩ | exact ⟨by rw [mK, if_neg c5], rfl⟩
    · refine v_iconst (1) dX14_isWord_20 (by decide) ?_
      refine v_goto 25 dX14_isWord_21 (by decide) ?_
      refine v_ireturn dX14_isWord_25 rfl rfl ?_
      first | exact ⟨by rw [mK, if_pos c5, if_pos ((lc0 _ _).mp c17)], rfl⟩ | exact ⟨by rw [mK, if_pos c5, if_neg (fun z => c17 ((lc0 _ _).mpr z))], rfl⟩ | exact ⟨by rw [mK, if_neg c5], rfl⟩
def mI (c : Int32) (h : Hp) : Int32 := if vi h (32, 0) 13 = 4 then (if vi h (32, 0) 15 = c then 1 else 0) else 0
set_option maxRecDepth 20000 in
theorem M_is (g : G0) (h : Hp) (hM : SM h) {c : Int32} : Mx g yX14_is wX14_is 0 [pR (32, 0), pI c] h 0 0 (qE (some (pI (mI c h))) h) noX := by
  refine Mx.by kfX14_is rfl (by decide) (Nat.le_of_ble_eq_true rfl) ?_
  refine v_aload_n dX14_is_0 rfl ?_
  refine v_getI fl_X14_156 dX14_is_1 rfl rfl (Nat.le_of_ble_eq_true rfl) (mh_32_0 hM) ?_
  refine v_iconst (4) dX14_is_4 (by decide) ?_
  refine v_icmp_ne 20 dX14_is_5 (by decide) (fun c5 => ?_) (fun c5 => ?_)
  · refine v_iconst (0) dX14_is_20 (by decide) ?_
    refine v_ireturn dX14_is_21 rfl rfl ?_
    exact ⟨by simp only [mI, if_neg c5], rfl⟩
  · refine v_aload_n dX14_is_8 rfl ?_
    refine v_getI fl_X14_159 dX14_is_9 rfl rfl (Nat.le_of_ble_eq_true rfl) (mh_32_0 hM) ?_
    refine v_iload_n dX14_is_12 rfl ?_
    refine v_icmp_ne 20 dX14_is_13 (by decide) (fun c13 => ?_) (fun c13 => ?_)
    · refine v_iconst (0) dX14_is_20 (by decide) ?_
      refine v_ireturn dX14_is_21 rfl rfl ?_
      exact ⟨by simp only [mI, if_pos c5, if_neg c13], rfl⟩
    · refine v_iconst (1) dX14_is_16 (by decide) ?_
      refine v_goto 21 dX14_is_17 (by decide) ?_
      refine v_ireturn dX14_is_21 rfl rfl ?_
      exact ⟨by simp only [mI, if_pos c5, if_pos c13], rfl⟩
def mSt (h : Hp) (k : Int32) : Hp := sI (sI h (35, 0) 6 k) (35, 0) 7 (vi h (32, 0) 14)
set_option maxRecDepth 20000 in
theorem M_stop (g : G0) (h : Hp) (hM : SM h) {k : Int32} : Mx g yX14_stop wX14_stop 0 [pR (32, 0), pI k] h 0 0 (qE (some (pR (35, 0))) (mSt h k)) noX := by
  refine Mx.by kfX14_stop rfl (by decide) (Nat.le_of_ble_eq_true rfl) ?_
  refine v_aload_n dX14_stop_0 rfl ?_
  refine v_getR (some (35, 0)) fl_X14_27 dX14_stop_1 rfl rfl (Nat.le_of_ble_eq_true rfl) (mh_32_0 hM) (mr_32_0_8 hM) ?_
  refine v_iload_n dX14_stop_4 rfl ?_
  refine v_putI fl_X14_128 (fun z => by cases z) dX14_stop_5 rfl rfl (Nat.le_of_ble_eq_true rfl) rfl rfl (mh_35_0 hM) ?_
  refine v_aload_n dX14_stop_8 rfl ?_
  refine v_getR (some (35, 0)) fl_X14_27 dX14_stop_9 rfl rfl (Nat.le_of_ble_eq_true rfl) (mh_32_0 hM) (mr_32_0_8 hM) ?_
  refine v_aload_n dX14_stop_12 rfl ?_
  refine v_getI fl_X14_131 dX14_stop_13 rfl rfl (Nat.le_of_ble_eq_true rfl) (mh_32_0 hM) ?_
  rw [show vi (sI h (35, 0) 6 k) (32, 0) 14 = vi h (32, 0) 14 from vi_sI_ne _ _ _ _ (by decide)]
  refine v_putI fl_X14_134 (fun z => by cases z) dX14_stop_16 rfl rfl (Nat.le_of_ble_eq_true rfl) rfl rfl (mh_35_0 hM) ?_
  refine v_aload_n dX14_stop_19 rfl ?_
  refine v_getR (some (35, 0)) fl_X14_27 dX14_stop_20 rfl rfl (Nat.le_of_ble_eq_true rfl) (mh_32_0 hM) (mr_32_0_8 hM) ?_
  refine v_areturn dX14_stop_23 rfl (Or.inl ⟨_, rfl⟩) ?_
  exact ⟨rfl, rfl⟩
/-! which word: the number against the spelling -/
def dg (b : Nat → Int32) (i : Nat) : Nat := (b i - 97 + 1).toNatClampNeg
theorem let_dg {x : Int32} (h : ¬ xLet x = 0) : ∃ k, 1 ≤ k ∧ k ≤ 26 ∧ x - 97 + 1 = nI k ∧ x = nI (96 + k) := by
  unfold xLet at h
  split at h
  · exact absurd rfl h
  · rename_i c1
    split at h
    · exact absurd rfl h
    · rename_i c2
      obtain ⟨j, hj, e⟩ := nI_of2 (M := 122) (n := 122) (by decide) (fun z => c1 (Int32.lt_trans z (by decide))) (Int32.not_lt.mp c2)
      have j97 : 97 ≤ j := by
        have := c1; rw [e] at this
        exact Nat.le_of_not_lt (fun z => this (nI_lt (a := j) (b := 97) z (by decide)))
      refine ⟨j - 96, by omega, by omega, ?_, by rw [e]; congr 1; omega⟩
      rw [e, show (97 : Int32) = nI 97 from rfl, nI_sub (by omega), nI_1]; congr 1; omega
theorem wO_n {b : Nat → Int32} : ∀ (n q a : Nat), (∀ i, i < n → ¬ xLet (b (q + i)) = 0) → wO b n q (lN a) = lN (nO (dg b) n q a)
  | 0, _, _, _ => rfl
  | n + 1, q, a, h => by
    obtain ⟨k, k1, k2, k3, -⟩ := let_dg (h 0 (by omega))
    rw [Nat.add_zero] at k3
    have e : dg b q = k := by unfold dg; rw [k3, nI_clamp (by omega)]
    rw [wO, nO, k3, nI_l (by omega), show (32 : Int64) = lN 32 from rfl, lN_mul, lN_add, e]
    exact wO_n n (q + 1) _ (fun i hi => by have := h (i + 1) (by omega); rwa [show q + (i + 1) = q + 1 + i by omega] at this)
theorem bytS_let : ∀ j, j < 11 → ∀ i, i < lenS.getD j 0 → ¬ xLet (wB j i) = 0 := by
  have key : ∀ j : Fin 11, ∀ i : Fin 6, i.val < lenS.getD j.val 0 → ¬ xLet (wB j.val i.val) = 0 := by decide
  intro j hj i hi
  have := len6 j
  exact key ⟨j, hj⟩ ⟨i, by omega⟩ hi
theorem lN_inj {a b : Nat} (ha : a < 2 ^ 62) (hb : b < 2 ^ 62) (h : lN a = lN b) : a = b := by
  have e1 : (lN a).toInt = (a : Int) := lg_ofNat_toInt (by omega)
  have e2 : (lN b).toInt = (b : Int) := lg_ofNat_toInt (by omega)
  rw [h, e2] at e1; omega
theorem pow8 {n : Nat} (h : n ≤ 8) : 32 ^ n < 2 ^ 62 := Nat.lt_of_le_of_lt (Nat.pow_le_pow_right (by decide) h) (by decide)
/-- the number is a word's iff the letters are -/
theorem wv_iff {b : Nat → Int32} {s n j : Nat} (hn : n ≤ 8) (hj : j < 11) (hl : ∀ i, i < n → ¬ xLet (b (s + i)) = 0) : wO b n s 0 = wv j ↔ (n = lenS.getD j 0 ∧ ∀ i, i < n → b (s + i) = wB j i) := by
  have l6 := len6 j
  have h2 : ∀ i, i < lenS.getD j 0 → ¬ xLet (wB j (0 + i)) = 0 := fun i hi => by rw [Nat.zero_add]; exact bytS_let j hj i hi
  have e1 : wO b n s 0 = lN (nO (dg b) n s 0) := wO_n n s 0 hl
  have e2 : wv j = lN (nO (dg (wB j)) (lenS.getD j 0) 0 0) := wO_n _ 0 0 h2
  have d1 : ∀ {c : Nat → Int32} {i : Nat}, ¬ xLet (c i) = 0 → 1 ≤ dg c i ∧ dg c i < 32 ∧ c i = nI (96 + dg c i) := by
    intro c i h
    obtain ⟨k, k1, k2, k3, k4⟩ := let_dg h
    have e : dg c i = k := by unfold dg; rw [k3, nI_clamp (by omega)]
    rw [e]; exact ⟨k1, by omega, k4⟩
  constructor
  · intro h
    rw [e1, e2] at h
    have b1 := nO_lt (dg b) n s (fun i hi => (d1 (hl i hi)).2.1)
    have b2 := nO_lt (dg (wB j)) (lenS.getD j 0) 0 (fun i hi => (d1 (h2 i hi)).2.1)
    have h' := lN_inj (Nat.lt_trans b1 (pow8 hn)) (Nat.lt_trans b2 (pow8 (by omega))) h
    obtain ⟨k1, k2⟩ := nO_inj (dg b) (dg (wB j)) n _ s 0 (fun i hi => ⟨(d1 (hl i hi)).1, (d1 (hl i hi)).2.1⟩) (fun i hi => ⟨(d1 (h2 i hi)).1, (d1 (h2 i hi)).2.1⟩) h'
    refine ⟨k1, fun i hi => ?_⟩
    have := k2 i hi
    rw [(d1 (hl i hi)).2.2, this, ← (d1 (h2 i (by omega))).2.2, Nat.zero_add]
  · rintro ⟨k1, k2⟩
    have key : ∀ (m q r : Nat) (w : Int64), (∀ i, i < m → b (q + i) = wB j (r + i)) → wO b m q w = wO (wB j) m r w := by
      intro m
      induction m with
      | zero => intro q r w _; rfl
      | succ m ih =>
        intro q r w hh
        have h0 := hh 0 (by omega)
        rw [Nat.add_zero, Nat.add_zero] at h0
        rw [wO, wO, h0]
        exact ih (q + 1) (r + 1) _ (fun i hi => by have := hh (i + 1) (by omega); rwa [show q + (i + 1) = q + 1 + i by omega, show r + (i + 1) = r + 1 + i by omega] at this)
    rw [wv, ← k1]
    exact key n s 0 0 (fun i hi => by rw [Nat.zero_add]; exact k2 i hi)
theorem spT_iff {b : Nat → Int32} {s j : Nat} : ∀ (n i : Nat), spT b s j n i = 0 ↔ ¬ ∀ k, i ≤ k → k < i + n → b (s + k) = wB j k
  | 0, i => by
    rw [spT]
    exact ⟨fun z => absurd z (by decide), fun z => absurd (fun k h1 h2 => by omega) z⟩
  | n + 1, i => by
    rw [spT]
    by_cases c : b (s + i) = (bytS.getD j []).getD i 0
    · rw [if_pos c, spT_iff n (i + 1)]
      refine ⟨fun z y => z (fun k h1 h2 => y k (by omega) (by omega)), fun z y => z (fun k h1 h2 => ?_)⟩
      by_cases e : k = i
      · rw [e]; exact c
      · exact y k (by omega) (by omega)
    · rw [if_neg c]
      exact ⟨fun _ y => c (y i (by omega) (by omega)), fun _ => rfl⟩
theorem spl_iff {b : Nat → Int32} {s n j : Nat} (hn : n ≤ 8) : (¬ spl b s n j = 0) ↔ (n = lenS.getD j 0 ∧ ∀ i, i < n → b (s + i) = wB j i) := by
  have l6 := len6 j
  unfold spl
  by_cases c : nI n = nI (lenS.getD j 0)
  · have e := (nI_eq (by omega) (by omega)).mp c
    rw [if_pos c, spT_iff]
    refine ⟨fun z => ⟨e, fun i hi => ?_⟩, fun z y => y (fun k _ hk => z.2 k (by omega))⟩
    exact Decidable.byContradiction (fun w => z (fun y => w (y i (by omega) (by omega))))
  · rw [if_neg c]
    exact ⟨fun z => absurd rfl z, fun z => absurd (by rw [z.1]) c⟩
theorem wv_spl {b : Nat → Int32} {s n j : Nat} (hn : n ≤ 8) (hj : j < 11) (hl : ∀ i, i < n → ¬ xLet (b (s + i)) = 0) : wO b n s 0 = wv j ↔ ¬ spl b s n j = 0 := (wv_iff hn hj hl).trans (spl_iff hn).symm
