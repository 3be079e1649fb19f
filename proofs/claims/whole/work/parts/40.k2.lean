/-- what keeping needs of the heap -/
def KJ (hk : Hp) (c : Nat) (T : Nat → Nat) (s : Int32) (wh nu : Nat → Int32) : Prop := SX hk ∧ AL hk 0 8 (cn hk 8) ∧ cn hk 8 ≤ 900 ∧ vi hk (2, 0) 5 = nI c ∧ vi hk (0, 0) 11 = s ∧ ∀ i, i < c → vi hk (13, 3) i = wh i ∧ vi hk (13, 4) i = nu i ∧ vi hk (13, 5) i = nI (T i)
def fromT (T : Nat → Nat) : Nat → Nat
  | 0 => 0
  | i + 1 => T i
def kc2 (hk : Hp) (f t : Nat) : Hp := cpH (nw hk 8 0) f t
def kc3 (hk : Hp) (f t : Nat) (s w d x y : Int32) : Hp := ci6 (kc2 hk f t) (cn hk 8) s w d x y (some (17, cn (nw hk 8 0) 17))
theorem kc2_cn (hk : Hp) (f t : Nat) : cn (kc2 hk f t) 8 = cn hk 8 + 1 := by
  show cn (nw (nw hk 8 0) 17 (t - f)) 8 = _
  rw [cn_nw, if_neg (by decide), cn_nw, if_pos rfl]
theorem SXk2 {hk : Hp} (s : SX hk) (f t : Nat) : SX (kc2 hk f t) := SX.sIs (SX.nw (SX.nw s (by decide) (by decide) (by decide)) (by decide) (by decide) (by decide))
theorem SXk3 {hk : Hp} (hS : SX hk) (f t : Nat) (s w d x y : Int32) : SX (kc3 hk f t s w d x y) := SXp (SX.sI (SX.sI (SX.sI (SX.sI (SX.sI (SXk2 hS f t)))))) (by show ∀ q ∈ xR, q.1.1.1 ≠ 8; decide)
theorem ALk3 {hk : Hp} {j q n : Nat} (hA : AL hk j q n) (f t : Nat) (s w d x y : Int32) : AL (kc3 hk f t s w d x y) j q n := by
  have n8 : ((8, cn hk 8) : Ad).1 ≠ 7 := fun z => by cases z
  have m8 : ((8, cn hk 8) : Ad).1 ≠ 16 := fun z => by cases z
  have a2 : AL (kc2 hk f t) j q n := AL_sIs (AL_nw (AL_nw hA (by decide) (by decide)) (by decide) (by decide)) (fun z => by cases z)
  exact AL_sR (AL_sIk (AL_sIk (AL_sIk (AL_sIk (AL_sIk a2 n8) n8) n8) n8) n8) n8 m8
set_option maxRecDepth 20000 in
theorem keep_loop (g : G0) {c : Nat} (hc : c ≤ 12) {T : Nat → Nat} (hT : ∀ i, i < c → fromT T i ≤ T i ∧ T i < 300) {s w d : Int32} {wh nu : Nat → Int32} (J : Nat → Hp → Prop) (hJ : ∀ k hk, k < c → J k hk → KJ hk c T s wh nu) (hJc : ∀ hk, J c hk → SX hk ∧ vi hk (2, 0) 5 = nI c) (hst : ∀ k hk h', k < c → J k hk → AddF (kc3 hk (fromT T k) (T k) s w d (wh k) (nu k)) h' 0 → AL h' 0 8 (cn hk 8 + 1) → J (k + 1) h') : ∀ (j k : Nat) (x : Int32) (hk : Hp), k + j = c → x = nI k → J k hk → V g kfX11_keepChanges 8 (3 * j) (1806 * j) 2 [(0, pR (0, 0)), (1, pI w), (2, pI d), (3, pI x)] [] hk (fun r h' => r = none ∧ J c h') (fun _ _ a h' => noX a h') := by
  intro j
  induction j with
  | zero =>
    intro k x hk hkj hx jk
    subst hx
    obtain rfl : k = c := by omega
    obtain ⟨hS, e5⟩ := hJc hk jk
    refine v_iload_n dX11_keepChanges_2 rfl ?_
    refine v_aload_n dX11_keepChanges_3 rfl ?_
    refine v_getR (some (2, 0)) fl_X11_23 dX11_keepChanges_4 rfl rfl (Nat.le_of_ble_eq_true rfl) (xh_0_0 hS) (xr_0_0_1 hS) ?_
    refine v_getI fl_X11_274 dX11_keepChanges_7 rfl rfl (Nat.le_of_ble_eq_true rfl) (xh_2_0 hS) ?_
    rw [e5]
    refine v_icmp_ge 64 dX11_keepChanges_10 (by decide) (fun _ => ?_) (fun z => absurd (nI_le (by omega) (by omega)) z)
    refine v_return dX11_keepChanges_64 rfl ?_
    exact ⟨rfl, jk⟩
  | succ j ih =>
    intro k x hk hkj hx jk
    subst hx
    have hkc : k < c := by omega
    obtain ⟨hS, hA, hn9, e5, es, e3⟩ := hJ k hk hkc jk
    obtain ⟨ew, en, eT⟩ := e3 k hkc
    have hS1 : SX (nw hk 8 0) := SX.nw hS (by decide) (by decide) (by decide)
    have nv : ∀ (p i f : Nat), p ≠ 8 → vi (nw hk 8 0) (p, i) f = vi hk (p, i) f := fun p i f hp => by rw [vi_nw, if_neg (fun z => hp (by cases z; rfl))]
    have e5' : vi (nw hk 8 0) (2, 0) 5 = nI c := by rw [nv _ _ _ (by decide)]; exact e5
    have es' : vi (nw hk 8 0) (0, 0) 11 = s := by rw [nv _ _ _ (by decide)]; exact es
    have ew' : vi (nw hk 8 0) (13, 3) k = wh k := by rw [nv _ _ _ (by decide)]; exact ew
    have en' : vi (nw hk 8 0) (13, 4) k = nu k := by rw [nv _ _ _ (by decide)]; exact en
    have eT' : vi (nw hk 8 0) (13, 5) k = nI (T k) := by rw [nv _ _ _ (by decide)]; exact eT
    have hcode := m_codeOf g (nw hk 8 0) hS1 hkc hc e5' (f := fromT T k) (t := T k) (fun z => by rw [z]; rfl) (fun m z => by subst z; rw [nv _ _ _ (by decide)]; exact (e3 m (by omega)).2.2) eT' (hT k hkc).1 (hT k hkc).2
    have hS3 : SX (kc3 hk (fromT T k) (T k) s w d (wh k) (nu k)) := SXk3 hS _ _ _ _ _ _ _
    have hA3 : AL (kc3 hk (fromT T k) (T k) s w d (wh k) (nu k)) 0 8 (cn hk 8) := ALk3 hA _ _ _ _ _ _ _
    have hlt : cn hk 8 < cn (kc2 hk (fromT T k) (T k)) 8 := by rw [kc2_cn]; omega
    refine v_iload_n dX11_keepChanges_2 rfl ?_
    refine v_aload_n dX11_keepChanges_3 rfl ?_
    refine v_getR (some (2, 0)) fl_X11_23 dX11_keepChanges_4 rfl rfl (Nat.le_of_ble_eq_true rfl) (xh_0_0 hS) (xr_0_0_1 hS) ?_
    refine v_getI fl_X11_274 dX11_keepChanges_7 rfl rfl (Nat.le_of_ble_eq_true rfl) (xh_2_0 hS) ?_
    rw [e5]
    refine v_icmp_ge 64 dX11_keepChanges_10 (by decide) (fun z => absurd z (nI_ge (by omega) (by omega))) (fun _ => ?_)
    refine v_aload_n dX11_keepChanges_13 rfl ?_
    refine v_getR (some (7, 0)) fl_X11_30 dX11_keepChanges_14 rfl rfl (Nat.le_of_ble_eq_true rfl) (xh_0_0 hS) (xr_0_0_2 hS) ?_
    refine v_new 8 (3 * j + 2) (1806 * j + 1800) dX11_keepChanges_17 rfl clX11_126 rfl (by decide) (by omega) (by show (1806 * j + 1800) + 6 ≤ 1806 * (j + 1); omega) ?_
    refine v_dup dX11_keepChanges_20 rfl ?_
    refine v_aload_n dX11_keepChanges_21 rfl ?_
    refine v_getI fl_X11_107 dX11_keepChanges_22 rfl rfl (Nat.le_of_ble_eq_true rfl) (xh_0_0 hS1) ?_
    rw [es']
    refine v_iload_n dX11_keepChanges_25 rfl ?_
    refine v_iload_n dX11_keepChanges_26 rfl ?_
    refine v_aload_n dX11_keepChanges_27 rfl ?_
    refine v_getR (some (2, 0)) fl_X11_23 dX11_keepChanges_28 rfl rfl (Nat.le_of_ble_eq_true rfl) (xh_0_0 hS1) (xr_0_0_1 hS1) ?_
    refine v_iload_n dX11_keepChanges_31 rfl ?_
    refine v_invVE (m_RwhatOf g (nw hk 8 0) hS1 hkc hc e5') dX11_keepChanges_32 cwX4_whatOf mlX11_276 (ob_2 _) rfl rfl (by decide) (by decide) (Nat.le_of_ble_eq_true rfl) ?_
    rw [ew']
    refine v_aload_n dX11_keepChanges_35 rfl ?_
    refine v_getR (some (2, 0)) fl_X11_23 dX11_keepChanges_36 rfl rfl (Nat.le_of_ble_eq_true rfl) (xh_0_0 hS1) (xr_0_0_1 hS1) ?_
    refine v_iload_n dX11_keepChanges_39 rfl ?_
    refine v_invVE (m_RnumberOf g (nw hk 8 0) hS1 hkc hc e5') dX11_keepChanges_40 cwX4_numberOf mlX11_279 (ob_2 _) rfl rfl (by decide) (by decide) (Nat.le_of_ble_eq_true rfl) ?_
    rw [en']
    refine v_aload_n dX11_keepChanges_43 rfl ?_
    refine v_getR (some (2, 0)) fl_X11_23 dX11_keepChanges_44 rfl rfl (Nat.le_of_ble_eq_true rfl) (xh_0_0 hS1) (xr_0_0_1 hS1) ?_
    refine v_iload_n dX11_keepChanges_47 rfl ?_
    refine v_invV (3 * j + 1) (1806 * j + 1500) hcode dX11_keepChanges_48 cwX4_codeOf mlX11_282 (ob_2 _) rfl rfl (by decide) (by decide) (Nat.le_of_ble_eq_true rfl) (by omega) (by omega) (fun r h2 q2 => ?_) (fun _ _ q2 => q2.elim)
    obtain ⟨rfl, rfl⟩ := q2
    change V g _ _ _ _ _ _ (pR (17, cn (nw hk 8 0) 17) :: _) (kc2 hk (fromT T k) (T k)) _ _
    refine v_invIE (3 * j + 1) (1806 * j + 1500) (m_Change_init g (kc2 hk (fromT T k) (T k)) hlt) dX11_keepChanges_51 cwX0_init rfl mlX11_286 rfl rfl (by decide) (by decide) (Nat.le_of_ble_eq_true rfl) (by omega) (by omega) ?_
    change V g _ _ _ _ _ _ (pR (8, cn hk 8) :: _) (kc3 hk (fromT T k) (T k) s w d (wh k) (nu k)) _ _
    refine v_invV (3 * j) (1806 * j) (m_add g (kc3 hk (fromT T k) (T k) s w d (wh k) (nu k)) pq_8 (xh_7_0 hS3) hA3 hn9) dX11_keepChanges_54 cwJx4a65c_add_9ea2d mlX11_146 (ob_7 _) rfl rfl (by decide) (by decide) (Nat.le_of_ble_eq_true rfl) (by omega) (by omega) (fun r h2 q2 => ?_) (fun _ _ q2 => q2.elim)
    obtain ⟨rfl, hA4, hF⟩ := q2
    change V g _ _ _ _ _ _ (pI 1 :: _) h2 _ _
    refine v_pop dX11_keepChanges_57 rfl ?_
    refine v_iinc _ dX11_keepChanges_58 rfl rfl (by decide) ?_
    refine v_goto 2 dX11_keepChanges_61 (by decide) ?_
    refine v_loc [(0, pR (0, 0)), (1, pI w), (2, pI d), (3, pI (nI k + 1))] rfl ?_
    exact ih (k + 1) _ h2 (by omega) (nI_1 k) (hst k hk h2 hkc jk hF hA4)
