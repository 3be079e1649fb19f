/-! the reference: fill -/
def TrR (h : Hp) : Prop := ∃ T, T ≤ 8 ∧ vi h (5, 0) 1 = nI T ∧ vi h (32, 0) 38 = nI T ∧ (∀ i, i < 8 → vi h (14, 0) i = vi h (39, 2) i) ∧ ((T = 0 ∧ vi h (5, 0) 2 = 0 ∧ vi h (32, 0) 39 = -1) ∨ ∃ u, u < T ∧ vi h (5, 0) 2 = nI u ∧ vi h (32, 0) 39 = nI u)
theorem modS {u k T : Nat} (hT : 0 < T) : (u + (k + 1)) % T = if T ≤ (u + k) % T + 1 then 0 else (u + k) % T + 1 := by
  have h1 := Nat.mod_lt (u + k) hT
  rw [show u + (k + 1) = (u + k) + 1 by omega, Nat.add_mod]
  by_cases c : T ≤ (u + k) % T + 1
  · rw [if_pos c]
    have e : (u + k) % T + 1 = T := by omega
    by_cases t1 : T = 1
    · subst t1; omega
    · rw [Nat.mod_eq_of_lt (show 1 < T by omega), e, Nat.mod_self]
  · rw [if_neg c, Nat.mod_eq_of_lt (show 1 < T by omega), Nat.mod_eq_of_lt (by omega)]
theorem trGiv_ok {h : Hp} {T : Nat} (hT : T ≤ 8) : ∀ (j : Nat) (t : Nat), t < T → vi h (5, 0) 1 = nI T → trGiv h j (nI t) = -1 ∨ ∃ q, q < T ∧ trGiv h j (nI t) = nI q
  | 0, t, _, _ => Or.inl rfl
  | j + 1, t, ht, e => by
    rw [trGiv]
    split
    · exact Or.inr ⟨t, ht, rfl⟩
    · rw [trBeh, e, nI_1]
      by_cases c : T ≤ t + 1
      · rw [if_pos (nI_le c (by omega))]; exact trGiv_ok hT j 0 (by omega) e
      · rw [if_neg (nI_ge (by omega) (by omega))]; exact trGiv_ok hT j (t + 1) (by omega) e
theorem xGv_ok {h : Hp} (r : TrR h) : xGv h = -1 ∨ ∃ q T, q < T ∧ T ≤ 8 ∧ vi h (5, 0) 1 = nI T ∧ vi h (32, 0) 38 = nI T ∧ xGv h = nI q := by
  obtain ⟨T, hT, e1, e2, -, c⟩ := r
  rw [xGv, e1, nI_clamp (by omega)]
  rcases c with ⟨z, -⟩ | ⟨u, hu, e3, -⟩
  · rw [z]; exact Or.inl rfl
  · rw [e3]
    rcases trGiv_ok hT T u hu e1 with z | ⟨q, hq, z⟩
    · exact Or.inl z
    · exact Or.inr ⟨q, T, hq, hT, rfl, e2, z⟩
set_option maxRecDepth 20000 in
theorem M_give_loop (g : G0) (h : Hp) (hM0 : SM h) {h0 h' : Hp} (q : Qf h h0 h') {T u r : Nat} (hT : T ≤ 8) (hu : u < T) (e1 : vi h (5, 0) 1 = nI T) (e2 : vi h (32, 0) 38 = nI T) (e3 : vi h (32, 0) 39 = nI u) (ea : ∀ i, i < 8 → vi h (14, 0) i = vi h (39, 2) i) {Q : Option PV → Hp → Prop} {E : EP} : ∀ (j k : Nat) (x : Int32), k + j = T → x = nI k → (∀ y, V g kfX14_fill 12 0 0 89 [(0, pR (32, 0)), (1, pI (nI r)), (2, pI (trGiv h j (nI ((u + k) % T)))), (3, pI y)] [] h' Q E) → V g kfX14_fill 12 0 0 39 [(0, pR (32, 0)), (1, pI (nI r)), (2, pI (-1)), (3, pI x)] [] h' Q E := by
  have hM' := SMQ hM0 q
  intro j
  induction j with
  | zero =>
    intro k x hij hx K
    subst hx
    refine v_iload_n dX14_fill_39 rfl ?_
    refine v_aload_n dX14_fill_40 rfl ?_
    refine v_getI fl_X14_358 dX14_fill_41 rfl rfl (Nat.le_of_ble_eq_true rfl) (mh_32_0 hM') ?_
    rw [q.m (by decide), e2]
    refine v_icmp_ge 89 dX14_fill_44 (by decide) (fun _ => ?_) (fun z => absurd (nI_le (by omega) (by omega)) z)
    exact K _
  | succ j ih =>
    intro k x hij hx K
    subst hx
    have mT : (u + k) % T < T := Nat.mod_lt _ (by omega)
    have m8 : (u + k) % T < 8 := by omega
    have ncm : (nI ((u + k) % T)).toNatClampNeg = (u + k) % T := nI_clamp (by omega)
    have step : vi h (14, 0) ((u + k) % T) = 0 → trGiv h (j + 1) (nI ((u + k) % T)) = nI ((u + k) % T) := by
      intro z
      rw [trGiv, if_pos ⟨nI_pos (by omega), nI_lt (b := 8) m8 (by decide), by rw [ncm]; exact z⟩]
    have step2 : ¬ vi h (14, 0) ((u + k) % T) = 0 → trGiv h (j + 1) (nI ((u + k) % T)) = trGiv h j (nI ((u + (k + 1)) % T)) := by
      intro z
      rw [trGiv, if_neg (fun y => z (by rw [ncm] at y; exact y.2.2)), trBeh, e1, nI_1, modS (by omega)]
      by_cases c : T ≤ (u + k) % T + 1
      · rw [if_pos (nI_le c (by omega)), if_pos c]; rfl
      · rw [if_neg (nI_ge (by omega) (by omega)), if_neg c]
    refine v_iload_n dX14_fill_39 rfl ?_
    refine v_aload_n dX14_fill_40 rfl ?_
    refine v_getI fl_X14_358 dX14_fill_41 rfl rfl (Nat.le_of_ble_eq_true rfl) (mh_32_0 hM') ?_
    rw [q.m (by decide), e2]
    refine v_icmp_ge 89 dX14_fill_44 (by decide) (fun z => absurd z (nI_ge (by omega) (by omega))) (fun _ => ?_)
    refine v_iload_n dX14_fill_47 rfl ?_
    refine v_iconst (-1) dX14_fill_48 (by decide) ?_
    refine v_icmp_ne 89 dX14_fill_49 (by decide) (fun z => absurd rfl z) (fun _ => ?_)
    refine v_aload_n dX14_fill_52 rfl ?_
    refine v_getR (some (39, 2)) fl_X14_97 dX14_fill_53 rfl rfl (Nat.le_of_ble_eq_true rfl) (mh_32_0 hM') (mr_32_0_47 hM') ?_
    refine v_aload_n dX14_fill_56 rfl ?_
    refine v_getI fl_X14_73 dX14_fill_57 rfl rfl (Nat.le_of_ble_eq_true rfl) (mh_32_0 hM') ?_
    rw [q.m (by decide), e3]
    refine v_iload_n dX14_fill_60 rfl ?_
    refine v_iadd dX14_fill_61 ?_
    rw [nI_add]
    refine v_aload_n dX14_fill_62 rfl ?_
    refine v_getI fl_X14_358 dX14_fill_63 rfl rfl (Nat.le_of_ble_eq_true rfl) (mh_32_0 hM') ?_
    rw [q.m (by decide), e2]
    refine v_irem dX14_fill_66 (nI_ne0 (by omega) (by omega)) ?_
    rw [nI_rem (by omega) (by omega)]
    refine v_zald dX14_fill_67 rfl (Nat.le_of_ble_eq_true rfl) (mh_39_2 hM') (by rw [ml_39_2 hM']; exact vp_in_nI (by omega) (by decide)) ?_
    rw [ncm, q.k (by decide), ← ea _ m8]
    refine v_if_ne 83 dX14_fill_68 (by decide) (fun c68 => ?_) (fun c68 => ?_)
    · refine v_iinc _ dX14_fill_83 rfl rfl (by decide) ?_
      refine v_goto 39 dX14_fill_86 (by decide) ?_
      refine v_loc [(0, pR (32, 0)), (1, pI (nI r)), (2, pI (-1)), (3, pI (nI k + 1))] rfl ?_
      rw [step2 c68] at K
      exact ih (k + 1) _ (by omega) (nI_1 k) K
    · refine v_aload_n dX14_fill_71 rfl ?_
      refine v_getI fl_X14_73 dX14_fill_72 rfl rfl (Nat.le_of_ble_eq_true rfl) (mh_32_0 hM') ?_
      rw [q.m (by decide), e3]
      refine v_iload_n dX14_fill_75 rfl ?_
      refine v_iadd dX14_fill_76 ?_
      rw [nI_add]
      refine v_aload_n dX14_fill_77 rfl ?_
      refine v_getI fl_X14_358 dX14_fill_78 rfl rfl (Nat.le_of_ble_eq_true rfl) (mh_32_0 hM') ?_
      rw [q.m (by decide), e2]
      refine v_irem dX14_fill_81 (nI_ne0 (by omega) (by omega)) ?_
      rw [nI_rem (by omega) (by omega)]
      refine v_istore_n dX14_fill_82 (by decide) ?_
      refine v_iinc _ dX14_fill_83 rfl rfl (by decide) ?_
      refine v_goto 39 dX14_fill_86 (by decide) ?_
      refine v_loc [(0, pR (32, 0)), (1, pI (nI r)), (2, pI (nI ((u + k) % T))), (3, pI (nI k + 1))] rfl ?_
      rw [step c68] at K
      refine v_iload_n dX14_fill_39 rfl ?_
      refine v_aload_n dX14_fill_40 rfl ?_
      refine v_getI fl_X14_358 dX14_fill_41 rfl rfl (Nat.le_of_ble_eq_true rfl) (mh_32_0 hM') ?_
      rw [q.m (by decide), e2]
      refine v_icmp_ge 89 dX14_fill_44 (by decide) (fun c44 => ?_) (fun c44 => ?_)
      · exact K _
      · refine v_iload_n dX14_fill_47 rfl ?_
        refine v_iconst (-1) dX14_fill_48 (by decide) ?_
        refine v_icmp_ne 89 dX14_fill_49 (by decide) (fun _ => ?_) (fun z => absurd z (nI_ne1 (by omega)))
        exact K _
def mFi1 (h : Hp) (s r : Nat) (w : Int32) : Hp := sI (sI h (38, 13) s (nI r)) (38, 14) s w
def mFi2 (h : Hp) (s r : Nat) (w : Int32) : Hp := sI (sI (mFi1 h s r w) (38, 15) s (vi h (32, 0) 23)) (38, 16) s (-1)
def mFi3 (h : Hp) (s r : Nat) (w v : Int32) : Hp := sI (sI (mFi2 h s r w) (38, 11) r (nI s)) (38, 12) r v
def mFi4 (h : Hp) (s r : Nat) (w v : Int32) : Hp := sI (sI (mFi3 h s r w v) (38, 6) w.toNatClampNeg (nI r)) (32, 0) 37 (nI s + 1)
def mFi (h : Hp) (s r : Nat) (w v : Int32) : Hp := sI (mFi4 h s r w v) (32, 0) 39 (v + 1 - (v + 1) / vi h (32, 0) 38 * vi h (32, 0) 38)
theorem mFi_m (h : Hp) (s r : Nat) (w v : Int32) (f : Nat) : vi (mFi1 h s r w) (32, 0) f = vi h (32, 0) f ∧ vi (mFi2 h s r w) (32, 0) f = vi h (32, 0) f ∧ vi (mFi3 h s r w v) (32, 0) f = vi h (32, 0) f := by
  unfold mFi3 mFi2 mFi1
  refine ⟨?_, ?_, ?_⟩ <;> (repeat rw [vi_sI_ne _ _ _ _ (by decide)])
theorem mFi_38 (h : Hp) (s r : Nat) (w v : Int32) : vi (mFi4 h s r w v) (32, 0) 38 = vi h (32, 0) 38 := by
  unfold mFi4; rw [vi_sI_nk _ _ _ (by decide), vi_sI_ne _ _ _ _ (by decide)]; exact (mFi_m h s r w v 38).2.2
theorem xCh_ok {h : Hp} {d : Int32} : ∀ (j k : Nat) (c b : Int32), (c = -2 ∨ ∃ q, q < k ∧ c = nI q) → xCh h d j k c b = -2 ∨ ∃ q, q < k + j ∧ xCh h d j k c b = nI q
  | 0, k, c, b, hc => hc
  | j + 1, k, c, b, hc => by
    have hs : ∀ b, xCh h d j (k + 1) c b = -2 ∨ ∃ q, q < k + (j + 1) ∧ xCh h d j (k + 1) c b = nI q := by
      intro b
      rw [show k + (j + 1) = k + 1 + j by omega]
      exact xCh_ok j (k + 1) c b (hc.imp id fun ⟨q, hq, e⟩ => ⟨q, by omega, e⟩)
    have ht : ∀ b, xCh h d j (k + 1) (nI k) b = -2 ∨ ∃ q, q < k + (j + 1) ∧ xCh h d j (k + 1) (nI k) b = nI q := by
      intro b
      rw [show k + (j + 1) = k + 1 + j by omega]
      exact xCh_ok j (k + 1) _ b (Or.inr ⟨k, by omega, rfl⟩)
    rw [xCh]
    split
    · split
      · exact hs b
      · split
        · exact hs b
        · exact ht _
    · exact hs b
set_option maxRecDepth 20000 in
theorem M_fill1 (g : G0) (h : Hp) (hM : SM h) {r : Int32} (no : mRb h r = 0) : Mx g yX14_fill wX14_fill 12 [pR (32, 0), pI r] h 0 0 (qE (some (pI (-1))) (mT (mZ h) 1)) noX := by
  have hMz : SM (mZ h) := hM
  have ez : mRb (mZ h) r = mRb h r := by unfold mRb; rw [mZ_v _ _ (by decide)]
  refine Mx.by kfX14_fill rfl (by decide) (Nat.le_of_ble_eq_true rfl) ?_
  refine v_aload_n dX14_fill_0 rfl ?_
  refine v_iconst (0) dX14_fill_1 (by decide) ?_
  refine v_putI fl_X14_112 (fun z => by cases z) dX14_fill_2 rfl rfl (Nat.le_of_ble_eq_true rfl) rfl rfl (mh_32_0 hM) ?_
  change V g _ _ _ _ _ _ _ (mZ h) _ _
  refine v_aload_n dX14_fill_5 rfl ?_
  refine v_iload_n dX14_fill_6 rfl ?_
  refine v_invVE (M_isRoom g (mZ h) hMz) dX14_fill_7 cwX14_isRoom mlX14_368 (ob_32 _) rfl rfl (by decide) (by decide) (Nat.le_of_ble_eq_true rfl) ?_
  rw [ez]
  refine v_if_ne 19 dX14_fill_10 (by decide) (fun z => absurd no z) (fun _ => ?_)
  refine v_aload_n dX14_fill_13 rfl ?_
  refine v_iconst (1) dX14_fill_14 (by decide) ?_
  refine v_invVE (M_refused g (mZ h) hMz) dX14_fill_15 cwX14_refused mlX14_121 (ob_32 _) rfl rfl (by decide) (by decide) (Nat.le_of_ble_eq_true rfl) ?_
  refine v_ireturn dX14_fill_18 rfl rfl ?_
  exact ⟨rfl, rfl⟩
set_option maxRecDepth 20000 in
theorem M_fill5 (g : G0) (h : Hp) (hM : SM h) {r : Nat} (hr : r < 20) (yes : ¬ mRb h (nI r) = 0) (no : ¬ vi h (38, 11) r = -1) : Mx g yX14_fill wX14_fill 12 [pR (32, 0), pI (nI r)] h 0 0 (qE (some (pI (-1))) (mT (mZ h) 5)) noX := by
  have hMz : SM (mZ h) := hM
  have ez : mRb (mZ h) (nI r) = mRb h (nI r) := by unfold mRb; rw [mZ_v _ _ (by decide)]
  have ncr : (nI r).toNatClampNeg = r := nI_clamp (by omega)
  refine Mx.by kfX14_fill rfl (by decide) (Nat.le_of_ble_eq_true rfl) ?_
  refine v_aload_n dX14_fill_0 rfl ?_
  refine v_iconst (0) dX14_fill_1 (by decide) ?_
  refine v_putI fl_X14_112 (fun z => by cases z) dX14_fill_2 rfl rfl (Nat.le_of_ble_eq_true rfl) rfl rfl (mh_32_0 hM) ?_
  change V g _ _ _ _ _ _ _ (mZ h) _ _
  refine v_aload_n dX14_fill_5 rfl ?_
  refine v_iload_n dX14_fill_6 rfl ?_
  refine v_invVE (M_isRoom g (mZ h) hMz) dX14_fill_7 cwX14_isRoom mlX14_368 (ob_32 _) rfl rfl (by decide) (by decide) (Nat.le_of_ble_eq_true rfl) ?_
  rw [ez]
  refine v_if_ne 19 dX14_fill_10 (by decide) (fun _ => ?_) (fun z => absurd z yes)
  refine v_aload_n dX14_fill_19 rfl ?_
  refine v_getR (some (38, 11)) fl_X14_79 dX14_fill_20 rfl rfl (Nat.le_of_ble_eq_true rfl) (mh_32_0 hM) (mr_32_0_41 hMz) ?_
  refine v_iload_n dX14_fill_23 rfl ?_
  refine v_iald dX14_fill_24 rfl (Nat.le_of_ble_eq_true rfl) (mh_38_11 hMz) (by rw [ml_38_11 hMz]; exact vp_in_nI (by omega) (by decide)) ?_
  rw [ncr, mZ_o _ _ (by decide)]
  refine v_iconst (-1) dX14_fill_25 (by decide) ?_
  refine v_icmp_eq 35 dX14_fill_26 (by decide) (fun z => absurd z no) (fun _ => ?_)
  refine v_aload_n dX14_fill_29 rfl ?_
  refine v_iconst (5) dX14_fill_30 (by decide) ?_
  refine v_invVE (M_refused g (mZ h) hMz) dX14_fill_31 cwX14_refused mlX14_121 (ob_32 _) rfl rfl (by decide) (by decide) (Nat.le_of_ble_eq_true rfl) ?_
  refine v_ireturn dX14_fill_34 rfl rfl ?_
  exact ⟨rfl, rfl⟩
/-- what filling comes to: h the ground, h0 the heap in which the reference begins -/
def FiQ (h h0 : Hp) (r S : Nat) (rv : Option PV) (h3 : Hp) : Prop := ∃ h2, Fr h0 h2 ∧
  (((xGv h = -1 ∨ xCh h (vi h (0, 0) 13) (cn h 9) 0 (-2) (-1) = -2) ∧ rv = some (pI (-1)) ∧ h3 = mT h2 6) ∨
   (¬ (xGv h = -1 ∨ xCh h (vi h (0, 0) 13) (cn h 9) 0 (-2) (-1) = -2) ∧ S = 100 ∧ rv = some (pI (-1)) ∧ h3 = mT h2 3) ∨
   (¬ (xGv h = -1 ∨ xCh h (vi h (0, 0) 13) (cn h 9) 0 (-2) (-1) = -2) ∧ S < 100 ∧ rv = some (pI (xCh h (vi h (0, 0) 13) (cn h 9) 0 (-2) (-1))) ∧ h3 = mT (mFi h2 S r (xCh h (vi h (0, 0) 13) (cn h 9) 0 (-2) (-1)) (xGv h)) 0))
set_option maxRecDepth 20000 in
theorem M_fillG (g : G0) (h : Hp) {n : Nat} {w : Int32} {D : Nat} (b : QB h n w D) (mono : ∀ p p', p ≤ p' → p' < cn h 9 → vi h (9, p) 3 ≤ vi h (9, p') 3) (tr : TrR h) {h0 : Hp} (ag : Ag h h0) {r S : Nat} (hr : r < 20) (hS : S ≤ 100) (eS : vi h (32, 0) 37 = nI S) (ew : vi h (38, 10) r = w) (eD : vi h (32, 0) 23 = nI D) (eD2 : vi h (0, 0) 13 = nI D) (yes : ¬ mRb h0 (nI r) = 0) (no : vi h0 (38, 11) r = -1) : Mx g yX14_fill wX14_fill 12 [pR (32, 0), pI (nI r)] h0 0 0 (FiQ h h0 r S) noX := by
  have hM : SM h0 := SMQ b.1.1.1 (Qf.of ag)
  have hMz : SM (mZ h0) := hM
  have q := (Qf.of ag).mZ
  have ez : mRb (mZ h0) (nI r) = mRb h0 (nI r) := by unfold mRb; rw [mZ_v _ _ (by decide)]
  have ncr : (nI r).toNatClampNeg = r := nI_clamp (by omega)
  have tr2 := tr
  have gok := xGv_ok tr
  have p40 := b.2.2.2.1.2.1
  have cok := xCh_ok (h := h) (d := nI D) (cn h 9) 0 (-2) (-1) (Or.inl rfl)
  rw [Nat.zero_add] at cok
  unfold FiQ
  rw [eD2]
  obtain ⟨T, hT, t1, t2, t3, t4⟩ := tr
  refine Mx.by kfX14_fill rfl (by decide) (Nat.le_of_ble_eq_true rfl) ?_
  refine v_aload_n dX14_fill_0 rfl ?_
  refine v_iconst (0) dX14_fill_1 (by decide) ?_
  refine v_putI fl_X14_112 (fun z => by cases z) dX14_fill_2 rfl rfl (Nat.le_of_ble_eq_true rfl) rfl rfl (mh_32_0 hM) ?_
  change V g _ _ _ _ _ _ _ (mZ h0) _ _
  refine v_aload_n dX14_fill_5 rfl ?_
  refine v_iload_n dX14_fill_6 rfl ?_
  refine v_invVE (M_isRoom g (mZ h0) hMz) dX14_fill_7 cwX14_isRoom mlX14_368 (ob_32 _) rfl rfl (by decide) (by decide) (Nat.le_of_ble_eq_true rfl) ?_
  rw [ez]
  refine v_if_ne 19 dX14_fill_10 (by decide) (fun _ => ?_) (fun z => absurd z yes)
  refine v_aload_n dX14_fill_19 rfl ?_
  refine v_getR (some (38, 11)) fl_X14_79 dX14_fill_20 rfl rfl (Nat.le_of_ble_eq_true rfl) (mh_32_0 hM) (mr_32_0_41 hMz) ?_
  refine v_iload_n dX14_fill_23 rfl ?_
  refine v_iald dX14_fill_24 rfl (Nat.le_of_ble_eq_true rfl) (mh_38_11 hMz) (by rw [ml_38_11 hMz]; exact vp_in_nI (by omega) (by decide)) ?_
  rw [ncr, mZ_o _ _ (by decide)]
  refine v_iconst (-1) dX14_fill_25 (by decide) ?_
  refine v_icmp_eq 35 dX14_fill_26 (by decide) (fun _ => ?_) (fun z => absurd no z)
  refine v_iconst (-1) dX14_fill_35 (by decide) ?_
  refine v_istore_n dX14_fill_36 (by decide) ?_
  refine v_iconst (0) dX14_fill_37 (by decide) ?_
  refine v_istore_n dX14_fill_38 (by decide) ?_
  refine v_loc [(0, pR (32, 0)), (1, pI (nI r)), (2, pI (-1)), (3, pI 0)] rfl ?_
  have go : ∀ y, V g kfX14_fill 12 0 0 89 [(0, pR (32, 0)), (1, pI (nI r)), (2, pI (xGv h)), (3, pI y)] [] (mZ h0) (FiQ h h0 r S) (fun _ _ a h' => noX a h') := ?_
  · rcases t4 with ⟨z1, z2, z3⟩ | ⟨u, hu, z2, z3⟩
    · have eg : xGv h = -1 := by rw [xGv, t1, z1]; rfl
      rw [eg] at go
      unfold FiQ at go; rw [eD2] at go
      refine v_iload_n dX14_fill_39 rfl ?_
      refine v_aload_n dX14_fill_40 rfl ?_
      refine v_getI fl_X14_358 dX14_fill_41 rfl rfl (Nat.le_of_ble_eq_true rfl) (mh_32_0 hMz) ?_
      rw [q.m (by decide), t2, z1]
      refine v_icmp_ge 89 dX14_fill_44 (by decide) (fun _ => ?_) (fun z => absurd (Int32.le_refl _) z)
      exact go _
    · have eg : xGv h = trGiv h T (nI ((u + 0) % T)) := by rw [xGv, t1, nI_clamp (by omega), z2, Nat.add_zero, Nat.mod_eq_of_lt hu]
      rw [eg] at go
      unfold FiQ at go; rw [eD2] at go
      exact M_give_loop g h b.1.1.1 q hT hu t1 t2 z3 t3 T 0 0 (by omega) rfl go
  intro y
  unfold FiQ
  rw [eD2]
  by_cases eg : xGv h = -1
  · generalize e0 : xGv h = v0 at *
    subst eg
    refine v_iload_n dX14_fill_89 rfl ?_
    refine v_iconst (-1) dX14_fill_90 (by decide) ?_
    refine v_icmp_ne 99 dX14_fill_91 (by decide) (fun z => absurd rfl z) (fun _ => ?_)
    refine v_bipush (-2) dX14_fill_94 (by decide) ?_
    refine v_goto 113 dX14_fill_96 (by decide) ?_
    refine v_istore_n dX14_fill_113 (by decide) ?_
    refine v_iload_n dX14_fill_114 rfl ?_
    refine v_bipush (-2) dX14_fill_115 (by decide) ?_
    refine v_icmp_ne 127 dX14_fill_117 (by decide) (fun z => absurd rfl z) (fun _ => ?_)
    refine v_aload_n dX14_fill_120 rfl ?_
    refine v_bipush (6) dX14_fill_121 (by decide) ?_
    refine v_invVE (M_refused g (mZ h0) hMz) dX14_fill_123 cwX14_refused mlX14_121 (ob_32 _) rfl rfl (by decide) (by decide) (Nat.le_of_ble_eq_true rfl) ?_
    refine v_ireturn dX14_fill_126 rfl rfl ?_
    exact ⟨mZ h0, q.2, Or.inl ⟨Or.inl rfl, rfl, rfl⟩⟩
  · obtain ⟨v, T2, hv, hT2, v1, v2, ev⟩ := gok.resolve_left eg
    have eT2 : T2 = T := (nI_eq (by omega) (by omega)).mp (v1.symm.trans t1)
    subst eT2
    refine v_iload_n dX14_fill_89 rfl ?_
    refine v_iconst (-1) dX14_fill_90 (by decide) ?_
    refine v_icmp_ne 99 dX14_fill_91 (by decide) (fun _ => ?_) (fun z => absurd z eg)
    refine v_aload_n dX14_fill_99 rfl ?_
    refine v_aload_n dX14_fill_100 rfl ?_
    refine v_getR (some (38, 10)) fl_X14_76 dX14_fill_101 rfl rfl (Nat.le_of_ble_eq_true rfl) (mh_32_0 hMz) (mr_32_0_40 hMz) ?_
    refine v_iload_n dX14_fill_104 rfl ?_
    refine v_iald dX14_fill_105 rfl (Nat.le_of_ble_eq_true rfl) (mh_38_10 hMz) (by rw [ml_38_10 hMz]; exact vp_in_nI (by omega) (by decide)) ?_
    rw [ncr, q.v (by decide) (by decide), ew]
    refine v_aload_n dX14_fill_106 rfl ?_
    refine v_getI fl_X14_312 dX14_fill_107 rfl rfl (Nat.le_of_ble_eq_true rfl) (mh_32_0 hMz) ?_
    rw [q.m (by decide), eD]
    refine v_invV 0 0 (M_nxt g h b q mono) dX14_fill_110 cwX14_nextOf mlX14_352 (ob_32 _) rfl rfl (by decide) (by decide) (Nat.le_of_ble_eq_true rfl) (Nat.le_of_ble_eq_true rfl) (Nat.le_of_ble_eq_true rfl) (fun r2 h2 q2 => ?_) (fun _ _ q2 => q2.elim)
    obtain ⟨rfl, q2⟩ := q2
    change V g _ _ _ _ _ _ (pI (xCh h (nI D) (cn h 9) 0 (-2) (-1)) :: _) h2 _ _
    have hM2 := SMQ b.1.1.1 q2
    have e37 : vi h2 (32, 0) 37 = nI S := (q2.m (by decide)).trans eS
    refine v_istore_n dX14_fill_113 (by decide) ?_
    refine v_iload_n dX14_fill_114 rfl ?_
    refine v_bipush (-2) dX14_fill_115 (by decide) ?_
    refine v_icmp_ne 127 dX14_fill_117 (by decide) (fun c117 => ?_) (fun c117 => ?_)
    · obtain ⟨c, hc, ec⟩ := cok.resolve_left c117
      have ncS : (nI S).toNatClampNeg = S := nI_clamp (by omega)
      rw [ec]
      refine v_aload_n dX14_fill_127 rfl ?_
      refine v_getI fl_X14_371 dX14_fill_128 rfl rfl (Nat.le_of_ble_eq_true rfl) (mh_32_0 hM2) ?_
      rw [e37]
      refine v_bipush (100) dX14_fill_131 (by decide) ?_
      refine v_icmp_ne 142 dX14_fill_133 (by decide) (fun c133 => ?_) (fun c133 => ?_)
      · have hS1 : S < 100 := by have : S ≠ 100 := fun y => c133 (by rw [y]; rfl); omega
        refine v_aload_n dX14_fill_142 rfl ?_
        refine v_getR (some (38, 13)) fl_X14_85 dX14_fill_143 rfl rfl (Nat.le_of_ble_eq_true rfl) (mh_32_0 hM2) (mr_32_0_43 hM2) ?_
        refine v_aload_n dX14_fill_146 rfl ?_
        refine v_getI fl_X14_371 dX14_fill_147 rfl rfl (Nat.le_of_ble_eq_true rfl) (mh_32_0 hM2) ?_
        rw [e37]
        refine v_iload_n dX14_fill_150 rfl ?_
        refine v_iast dX14_fill_151 rfl (Nat.le_of_ble_eq_true rfl) (mh_38_13 hM2) (by rw [show ln (h2) (38, 13) = 100 from ml_38_13 hM2]; exact vp_in_nI (by omega) (by decide)) ?_
        rw [ncS]
        refine v_aload_n dX14_fill_152 rfl ?_
        refine v_getR (some (38, 14)) fl_X14_88 dX14_fill_153 rfl rfl (Nat.le_of_ble_eq_true rfl) (mh_32_0 hM2) (mr_32_0_44 hM2) ?_
        refine v_aload_n dX14_fill_156 rfl ?_
        refine v_getI fl_X14_371 dX14_fill_157 rfl rfl (Nat.le_of_ble_eq_true rfl) (mh_32_0 hM2) ?_
        rw [show vi (sI h2 (38, 13) S (nI r)) (32, 0) 37 = vi h2 (32, 0) 37 from vi_sI_ne _ _ _ _ (by decide)]
        rw [e37]
        refine v_iload_n dX14_fill_160 rfl ?_
        refine v_iast dX14_fill_161 rfl (Nat.le_of_ble_eq_true rfl) (mh_38_14 hM2) (by rw [show ln (sI h2 (38, 13) S (nI r)) (38, 14) = 100 from ml_38_14 hM2]; exact vp_in_nI (by omega) (by decide)) ?_
        rw [ncS]
        change V g _ _ _ _ _ _ _ (mFi1 h2 S r (nI c)) _ _
        refine v_aload_n dX14_fill_162 rfl ?_
        refine v_getR (some (38, 15)) fl_X14_91 dX14_fill_163 rfl rfl (Nat.le_of_ble_eq_true rfl) (mh_32_0 hM2) (mr_32_0_45 hM2) ?_
        refine v_aload_n dX14_fill_166 rfl ?_
        refine v_getI fl_X14_371 dX14_fill_167 rfl rfl (Nat.le_of_ble_eq_true rfl) (mh_32_0 hM2) ?_
        rw [(mFi_m h2 S r (nI c) 0 37).1, e37]
        refine v_aload_n dX14_fill_170 rfl ?_
        refine v_getI fl_X14_312 dX14_fill_171 rfl rfl (Nat.le_of_ble_eq_true rfl) (mh_32_0 hM2) ?_
        rw [(mFi_m h2 S r (nI c) 0 23).1]
        refine v_iast dX14_fill_174 rfl (Nat.le_of_ble_eq_true rfl) (mh_38_15 hM2) (by rw [show ln (mFi1 h2 S r (nI c)) (38, 15) = 100 from ml_38_15 hM2]; exact vp_in_nI (by omega) (by decide)) ?_
        rw [ncS]
        refine v_aload_n dX14_fill_175 rfl ?_
        refine v_getR (some (38, 16)) fl_X14_94 dX14_fill_176 rfl rfl (Nat.le_of_ble_eq_true rfl) (mh_32_0 hM2) (mr_32_0_46 hM2) ?_
        refine v_aload_n dX14_fill_179 rfl ?_
        refine v_getI fl_X14_371 dX14_fill_180 rfl rfl (Nat.le_of_ble_eq_true rfl) (mh_32_0 hM2) ?_
        rw [show vi (sI (mFi1 h2 S r (nI c)) (38, 15) S (vi h2 (32, 0) 23)) (32, 0) 37 = vi h2 (32, 0) 37 from (vi_sI_ne _ _ _ _ (by decide)).trans (mFi_m h2 S r (nI c) 0 37).1, e37]
        refine v_iconst (-1) dX14_fill_183 (by decide) ?_
        refine v_iast dX14_fill_184 rfl (Nat.le_of_ble_eq_true rfl) (mh_38_16 hM2) (by rw [show ln (sI (mFi1 h2 S r (nI c)) (38, 15) S (vi h2 (32, 0) 23)) (38, 16) = 100 from ml_38_16 hM2]; exact vp_in_nI (by omega) (by decide)) ?_
        rw [ncS]
        change V g _ _ _ _ _ _ _ (mFi2 h2 S r (nI c)) _ _
        refine v_aload_n dX14_fill_185 rfl ?_
        refine v_getR (some (38, 11)) fl_X14_79 dX14_fill_186 rfl rfl (Nat.le_of_ble_eq_true rfl) (mh_32_0 hM2) (mr_32_0_41 hM2) ?_
        refine v_iload_n dX14_fill_189 rfl ?_
        refine v_aload_n dX14_fill_190 rfl ?_
        refine v_getI fl_X14_371 dX14_fill_191 rfl rfl (Nat.le_of_ble_eq_true rfl) (mh_32_0 hM2) ?_
        rw [(mFi_m h2 S r (nI c) 0 37).2.1, e37]
        refine v_iast dX14_fill_194 rfl (Nat.le_of_ble_eq_true rfl) (mh_38_11 hM2) (by rw [show ln (mFi2 h2 S r (nI c)) (38, 11) = 20 from ml_38_11 hM2]; exact vp_in_nI (by omega) (by decide)) ?_
        rw [ncr]
        refine v_aload_n dX14_fill_195 rfl ?_
        refine v_getR (some (38, 12)) fl_X14_82 dX14_fill_196 rfl rfl (Nat.le_of_ble_eq_true rfl) (mh_32_0 hM2) (mr_32_0_42 hM2) ?_
        refine v_iload_n dX14_fill_199 rfl ?_
        refine v_iload_n dX14_fill_200 rfl ?_
        refine v_iast dX14_fill_201 rfl (Nat.le_of_ble_eq_true rfl) (mh_38_12 hM2) (by rw [show ln (sI (mFi2 h2 S r (nI c)) (38, 11) r (nI S)) (38, 12) = 20 from ml_38_12 hM2]; exact vp_in_nI (by omega) (by decide)) ?_
        rw [ncr]
        change V g _ _ _ _ _ _ _ (mFi3 h2 S r (nI c) (xGv h)) _ _
        refine v_aload_n dX14_fill_202 rfl ?_
        refine v_getR (some (38, 6)) fl_X14_54 dX14_fill_203 rfl rfl (Nat.le_of_ble_eq_true rfl) (mh_32_0 hM2) (mr_32_0_30 hM2) ?_
        refine v_iload_n dX14_fill_206 rfl ?_
        refine v_iload_n dX14_fill_207 rfl ?_
        refine v_iast dX14_fill_208 rfl (Nat.le_of_ble_eq_true rfl) (mh_38_6 hM2) (by rw [show ln (mFi3 h2 S r (nI c) (xGv h)) (38, 6) = 40 from ml_38_6 hM2]; exact vp_in_nI (by omega) (by decide)) ?_
        refine v_aload_n dX14_fill_209 rfl ?_
        refine v_dup dX14_fill_210 rfl ?_
        refine v_getI fl_X14_371 dX14_fill_211 rfl rfl (Nat.le_of_ble_eq_true rfl) (mh_32_0 hM2) ?_
        rw [show vi (sI (mFi3 h2 S r (nI c) (xGv h)) (38, 6) (nI c).toNatClampNeg (nI r)) (32, 0) 37 = nI S from (vi_sI_ne _ _ _ _ (by decide)).trans ((mFi_m h2 S r (nI c) (xGv h) 37).2.2.trans e37)]
        refine v_iconst (1) dX14_fill_214 (by decide) ?_
        refine v_iadd dX14_fill_215 ?_
        refine v_putI fl_X14_371 (fun z => by cases z) dX14_fill_216 rfl rfl (Nat.le_of_ble_eq_true rfl) rfl rfl (mh_32_0 hM2) ?_
        change V g _ _ _ _ _ _ _ (mFi4 h2 S r (nI c) (xGv h)) _ _
        refine v_aload_n dX14_fill_219 rfl ?_
        refine v_iload_n dX14_fill_220 rfl ?_
        refine v_iconst (1) dX14_fill_221 (by decide) ?_
        refine v_iadd dX14_fill_222 ?_
        refine v_aload_n dX14_fill_223 rfl ?_
        refine v_getI fl_X14_358 dX14_fill_224 rfl rfl (Nat.le_of_ble_eq_true rfl) (mh_32_0 hM2) ?_
        rw [mFi_38]
        refine v_irem dX14_fill_227 (by rw [q2.m (by decide), v2]; exact nI_ne0 (by omega) (by omega)) ?_
        refine v_putI fl_X14_73 (fun z => by cases z) dX14_fill_228 rfl rfl (Nat.le_of_ble_eq_true rfl) rfl rfl (mh_32_0 hM2) ?_
        change V g _ _ _ _ _ _ _ (mFi h2 S r (nI c) (xGv h)) _ _
        refine v_aload_n dX14_fill_231 rfl ?_
        refine v_iload_n dX14_fill_232 rfl ?_
        refine v_invVE (M_done g (mFi h2 S r (nI c) (xGv h)) hM2) dX14_fill_233 cwX14_done mlX14_125 (ob_32 _) rfl rfl (by decide) (by decide) (Nat.le_of_ble_eq_true rfl) ?_
        refine v_ireturn dX14_fill_236 rfl rfl ?_
        exact ⟨h2, q2.2, Or.inr (Or.inr ⟨fun z => z.elim eg (fun y => c117 (ec.trans y)), by have : S ≠ 100 := fun y => c133 (by rw [y]; rfl); omega, rfl, rfl⟩)⟩
      · refine v_aload_n dX14_fill_136 rfl ?_
        refine v_iconst (3) dX14_fill_137 (by decide) ?_
        refine v_invVE (M_refused g h2 hM2) dX14_fill_138 cwX14_refused mlX14_121 (ob_32 _) rfl rfl (by decide) (by decide) (Nat.le_of_ble_eq_true rfl) ?_
        refine v_ireturn dX14_fill_141 rfl rfl ?_
        exact ⟨h2, q2.2, Or.inr (Or.inl ⟨fun z => z.elim eg (fun y => c117 (ec.trans y)), (nI_eq (by omega) (by decide)).mp c133, rfl, rfl⟩)⟩
    · refine v_aload_n dX14_fill_120 rfl ?_
      refine v_bipush (6) dX14_fill_121 (by decide) ?_
      refine v_invVE (M_refused g h2 hM2) dX14_fill_123 cwX14_refused mlX14_121 (ob_32 _) rfl rfl (by decide) (by decide) (Nat.le_of_ble_eq_true rfl) ?_
      refine v_ireturn dX14_fill_126 rfl rfl ?_
      exact ⟨h2, q2.2, Or.inl ⟨Or.inr c117, rfl, rfl⟩⟩
