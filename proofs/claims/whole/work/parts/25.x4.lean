/-- the class's own shape -/
def RSh (h : Hp) : Prop := ∀ r, r < cn h 10 → ∀ a, vr h (10, r) 1 = some a → a.1 = 11 ∧ a.2 < cn h 11
def SSh (h : Hp) : Prop := ∀ s, s < cn h 11 → ∃ p, p < cn h 9 ∧ vi h (11, s) 1 = nI p
def XI (h : Hp) : Prop := SX h ∧ (AL h 0 8 (cn h 8) ∧ AL h 1 9 (cn h 9) ∧ AL h 2 10 (cn h 10) ∧ AL h 3 11 (cn h 11) ∧ AL h 4 12 (cn h 12)) ∧ PSh h ∧ CSh h ∧ (cn h 17 = cn h 8 ∧ cn h 18 = cn h 9 ∧ cn h 19 = cn h 9) ∧ (cn h 8 ≤ 480 ∧ cn h 9 ≤ 40 ∧ cn h 10 ≤ 20 ∧ cn h 11 ≤ 100 ∧ cn h 12 ≤ 10) ∧ RSh h ∧ SSh h ∧ ∃ t, t ≤ 8 ∧ vi h (5, 0) 1 = nI t
theorem XI.a0 {h : Hp} (i : XI h) : AL h 0 8 (cn h 8) := i.2.1.1
theorem XI.a1 {h : Hp} (i : XI h) : AL h 1 9 (cn h 9) := i.2.1.2.1
theorem XI.a2 {h : Hp} (i : XI h) : AL h 2 10 (cn h 10) := i.2.1.2.2.1
theorem XI.a3 {h : Hp} (i : XI h) : AL h 3 11 (cn h 11) := i.2.1.2.2.2.1
theorem XI.a4 {h : Hp} (i : XI h) : AL h 4 12 (cn h 12) := i.2.1.2.2.2.2
theorem XI.ps {h : Hp} (i : XI h) : PSh h := i.2.2.1
theorem XI.cs {h : Hp} (i : XI h) : CSh h := i.2.2.2.1
theorem XI.le {h : Hp} (i : XI h) : cn h 8 ≤ 480 ∧ cn h 9 ≤ 40 ∧ cn h 10 ≤ 20 ∧ cn h 11 ≤ 100 ∧ cn h 12 ≤ 10 := i.2.2.2.2.2.1
theorem XI.rs {h : Hp} (i : XI h) : RSh h := i.2.2.2.2.2.2.1
theorem XI.ss {h : Hp} (i : XI h) : SSh h := i.2.2.2.2.2.2.2.1
theorem XI.tr {h : Hp} (i : XI h) : ∃ t, t ≤ 8 ∧ vi h (5, 0) 1 = nI t := i.2.2.2.2.2.2.2.2
theorem AL_sIk {h : Hp} {j q n : Nat} (hA : AL h j q n) {a : Ad} {k : Nat} {x : Int32} (ha : a.1 ≠ 7) : AL (sI h a k x) j q n :=
  ⟨by rw [vi_sI, if_neg (fun z => ha (by rw [← z.1]))]; exact hA.1, hA.2⟩
/-- a put that the shape doesn't speak of -/
def okP (a : Ad) (k : Nat) : Prop := a.1 ≠ 7 ∧ (a.1 = 9 → k ≠ 6) ∧ (a.1 = 8 → k ≠ 4) ∧ (a.1 = 11 → k ≠ 1) ∧ (a.1 = 5 → k ≠ 1)
theorem XIsI {h : Hp} (i : XI h) {a : Ad} {k : Nat} {x : Int32} (ok : okP a k) : XI (sI h a k x) := by
  obtain ⟨k7, k9, k8, k11, k5⟩ := ok
  refine ⟨i.1, ⟨AL_sIk i.a0 k7, AL_sIk i.a1 k7, AL_sIk i.a2 k7, AL_sIk i.a3 k7, AL_sIk i.a4 k7⟩, ?_, ?_, i.2.2.2.2.1, i.le, i.rs, ?_, ?_⟩
  · intro p hp
    obtain ⟨z1, z2, z3, t, ht, hv⟩ := i.ps p hp
    exact ⟨z1, z2, z3, t, ht, by rw [vi_sI, if_neg (fun z => k9 (by rw [← z.1]) z.2.symm)]; exact hv⟩
  · intro p hp
    obtain ⟨z1, z2, z3, t, ht, hv⟩ := i.cs p hp
    exact ⟨z1, z2, z3, t, ht, by rw [vi_sI, if_neg (fun z => k8 (by rw [← z.1]) z.2.symm)]; exact hv⟩
  · intro p hp
    obtain ⟨t, ht, hv⟩ := i.ss p hp
    exact ⟨t, ht, by rw [vi_sI, if_neg (fun z => k11 (by rw [← z.1]) z.2.symm)]; exact hv⟩
  · obtain ⟨t, ht, hv⟩ := i.tr
    exact ⟨t, ht, by rw [vi_sI, if_neg (fun z => k5 (by rw [← z.1]) z.2.symm)]; exact hv⟩
theorem XIs15 {h : Hp} (i : XI h) (f : Nat → Option Ad) : XI (sRs h (15, 0) f) :=
  ⟨s15 i.1 f, ⟨i.a0.sRs rfl f, i.a1.sRs rfl f, i.a2.sRs rfl f, i.a3.sRs rfl f, i.a4.sRs rfl f⟩, i.ps.s15 f, i.cs.s15 f, i.2.2.2.2.1, i.le, fun r hr a ha => i.rs r hr a (by rw [vr_sRs_ne _ _ _ (by intro z; cases z)] at ha; exact ha), i.ss, i.tr⟩
def xT (h : Hp) (w : Int32) : Hp := sI h (0, 0) 14 w
theorem XIxT {h : Hp} (i : XI h) (w : Int32) : XI (xT h w) := XIsI i (a := (0, 0)) (k := 14) ⟨by decide, by decide, by decide, by decide, by decide⟩
set_option maxRecDepth 20000 in
theorem m_refuse (g : G0) (h : Hp) (hS : SX h) {w : Int32} : Mx g yX11_refuse wX11_refuse 0 [pR (0, 0), pI w] h 0 0 (qE (some (pI (-1))) (xT h w)) noX := by
  refine Mx.by kfX11_refuse rfl (by decide) (Nat.le_of_ble_eq_true rfl) ?_
  refine v_aload_n dX11_refuse_0 rfl ?_
  refine v_iload_n dX11_refuse_1 rfl ?_
  refine v_putI fl_X11_114 (fun z => by cases z) dX11_refuse_2 rfl rfl (Nat.le_of_ble_eq_true rfl) rfl rfl (xh_0_0 hS) ?_
  refine v_iconst (-1) dX11_refuse_5 (by decide) ?_
  refine v_ireturn dX11_refuse_6 rfl rfl ?_
  exact ⟨rfl, rfl⟩
set_option maxRecDepth 20000 in
theorem m_accept (g : G0) (h : Hp) (hS : SX h) {w : Int32} : Mx g yX11_accept wX11_accept 0 [pR (0, 0), pI w] h 0 0 (qE (some (pI w)) (xT h 0)) noX := by
  refine Mx.by kfX11_accept rfl (by decide) (Nat.le_of_ble_eq_true rfl) ?_
  refine v_aload_n dX11_accept_0 rfl ?_
  refine v_iconst (0) dX11_accept_1 (by decide) ?_
  refine v_putI fl_X11_114 (fun z => by cases z) dX11_accept_2 rfl rfl (Nat.le_of_ble_eq_true rfl) rfl rfl (xh_0_0 hS) ?_
  refine v_iload_n dX11_accept_5 rfl ?_
  refine v_ireturn dX11_accept_6 rfl rfl ?_
  exact ⟨rfl, rfl⟩
def xWb (h : Hp) (w : Int32) : Int32 := if w < 0 then 0 else if vi h (0, 0) 10 ≤ w then 0 else 1
def xDy (d : Int32) : Int32 := if d < 0 then 0 else if 40000 < d then 0 else 1
def xPer (h : Hp) (p : Int32) : Option Ad := if p < 0 then none else if vi h (7, 1) 2 ≤ p then none else some (9, p.toNatClampNeg)
def xRoo (h : Hp) (p : Int32) : Option Ad := if p < 0 then none else if vi h (7, 2) 2 ≤ p then none else some (10, p.toNatClampNeg)
theorem xPer_ok {h : Hp} (i : XI h) {p : Int32} {a : Ad} (ha : xPer h p = some a) : a.1 = 9 ∧ a.2 < cn h 9 ∧ p = nI a.2 := by
  unfold xPer at ha
  split at ha
  · cases ha
  · rename_i c1
    split at ha
    · cases ha
    · rename_i c2
      cases ha
      obtain ⟨j, hj, rfl⟩ := nI_of c1
      have := i.le
      rw [i.a1.1] at c2
      have l : j < cn h 9 := (nI_ltI hj (by omega)).mp (Int32.not_le.mp c2)
      rw [nI_clamp hj]
      exact ⟨rfl, l, rfl⟩
theorem xRoo_ok {h : Hp} (i : XI h) {p : Int32} {a : Ad} (ha : xRoo h p = some a) : a.1 = 10 ∧ a.2 < cn h 10 ∧ p = nI a.2 := by
  unfold xRoo at ha
  split at ha
  · cases ha
  · rename_i c1
    split at ha
    · cases ha
    · rename_i c2
      cases ha
      obtain ⟨j, hj, rfl⟩ := nI_of c1
      have := i.le
      rw [i.a2.1] at c2
      have l : j < cn h 10 := (nI_ltI hj (by omega)).mp (Int32.not_le.mp c2)
      rw [nI_clamp hj]
      exact ⟨rfl, l, rfl⟩
theorem rng112 {n : Int32} (h1 : ¬ n < 1) (h2 : ¬ 12 < n) : ∃ m, 1 ≤ m ∧ m ≤ 12 ∧ n = nI m := by
  have a1 : (1 : Int) ≤ n.toInt := by have := Int32.not_lt.mp h1; exact Int32.le_iff_toInt_le.mp this
  have a2 : n.toInt ≤ 12 := by have := Int32.not_lt.mp h2; exact Int32.le_iff_toInt_le.mp this
  refine ⟨n.toInt.toNat, by omega, by omega, ?_⟩
  apply Int32.toInt_inj.mp
  rw [nI_toInt (by omega)]
  omega
set_option maxRecDepth 20000 in
theorem m_isWill (g : G0) (h : Hp) (hS : SX h) {w : Int32} : Mx g yX11_isWill wX11_isWill 0 [pR (0, 0), pI w] h 0 0 (qE (some (pI (xWb h w))) h) noX := by
  refine Mx.by kfX11_isWill rfl (by decide) (Nat.le_of_ble_eq_true rfl) ?_
  refine v_iload_n dX11_isWill_0 rfl ?_
  refine v_if_lt 16 dX11_isWill_1 (by decide) (fun c1 => ?_) (fun c1 => ?_)
  · refine v_iconst (0) dX11_isWill_16 (by decide) ?_
    refine v_ireturn dX11_isWill_17 rfl rfl ?_
    exact ⟨by simp only [xWb, if_pos c1], rfl⟩
  · refine v_iload_n dX11_isWill_4 rfl ?_
    refine v_aload_n dX11_isWill_5 rfl ?_
    refine v_getI fl_X11_71 dX11_isWill_6 rfl rfl (Nat.le_of_ble_eq_true rfl) (xh_0_0 hS) ?_
    refine v_icmp_ge 16 dX11_isWill_9 (by decide) (fun c9 => ?_) (fun c9 => ?_)
    · refine v_iconst (0) dX11_isWill_16 (by decide) ?_
      refine v_ireturn dX11_isWill_17 rfl rfl ?_
      exact ⟨by simp only [xWb, if_neg c1, if_pos c9], rfl⟩
    · refine v_iconst (1) dX11_isWill_12 (by decide) ?_
      refine v_goto 17 dX11_isWill_13 (by decide) ?_
      refine v_ireturn dX11_isWill_17 rfl rfl ?_
      exact ⟨by simp only [xWb, if_neg c1, if_neg c9], rfl⟩
set_option maxRecDepth 20000 in
theorem m_isDay (g : G0) (h : Hp) {w : Int32} : Mx g yX11_isDay wX11_isDay 0 [pI w] h 0 0 (qE (some (pI (xDy w))) h) noX := by
  refine Mx.by kfX11_isDay rfl (by decide) (Nat.le_of_ble_eq_true rfl) ?_
  refine v_iload_n dX11_isDay_0 rfl ?_
  refine v_if_lt 14 dX11_isDay_1 (by decide) (fun c1 => ?_) (fun c1 => ?_)
  · refine v_iconst (0) dX11_isDay_14 (by decide) ?_
    refine v_ireturn dX11_isDay_15 rfl rfl ?_
    exact ⟨by simp only [xDy, if_pos c1], rfl⟩
  · refine v_iload_n dX11_isDay_4 rfl ?_
    refine v_ldc (40000) dX11_isDay_5 ctX11_237 ?_
    refine v_icmp_gt 14 dX11_isDay_7 (by decide) (fun c7 => ?_) (fun c7 => ?_)
    · refine v_iconst (0) dX11_isDay_14 (by decide) ?_
      refine v_ireturn dX11_isDay_15 rfl rfl ?_
      exact ⟨by simp only [xDy, if_neg c1, if_pos c7], rfl⟩
    · refine v_iconst (1) dX11_isDay_10 (by decide) ?_
      refine v_goto 15 dX11_isDay_11 (by decide) ?_
      refine v_ireturn dX11_isDay_15 rfl rfl ?_
      exact ⟨by simp only [xDy, if_neg c1, if_neg c7], rfl⟩
set_option maxRecDepth 20000 in
theorem m_personAt (g : G0) (h : Hp) (i : XI h) {p : Int32} : Mx g yX11_personAt wX11_personAt 3 [pR (0, 0), pI p] h 0 0 (qE (some (pO (xPer h p))) h) noX := by
  have hS := i.1
  have le := i.le
  refine Mx.by kfX11_personAt rfl (by decide) (Nat.le_of_ble_eq_true rfl) ?_
  refine v_iload_n dX11_personAt_0 rfl ?_
  refine v_if_lt 29 dX11_personAt_1 (by decide) (fun c1 => ?_) (fun c1 => ?_)
  · refine v_null dX11_personAt_29 ?_
    refine v_areturn dX11_personAt_30 rfl (Or.inl ⟨_, rfl⟩) ?_
    refine ⟨?_, rfl⟩
    first
    | (simp only [xPer, if_pos c1]; done)
    | (simp only [xPer, if_pos c1, nI_clamp hj31]; done)
  · refine v_iload_n dX11_personAt_4 rfl ?_
    refine v_aload_n dX11_personAt_5 rfl ?_
    refine v_getR (some (7, 1)) fl_X11_41 dX11_personAt_6 rfl rfl (Nat.le_of_ble_eq_true rfl) (xh_0_0 hS) (xr_0_0_4 hS) ?_
    refine v_invVE (m_size g h (xh_7_1 hS)) dX11_personAt_9 cwJx4a65c_size_8abf5 mlX11_138 (ob_7 _) rfl rfl (by decide) (by decide) (Nat.le_of_ble_eq_true rfl) ?_
    refine v_icmp_ge 29 dX11_personAt_12 (by decide) (fun c12 => ?_) (fun c12 => ?_)
    · refine v_null dX11_personAt_29 ?_
      refine v_areturn dX11_personAt_30 rfl (Or.inl ⟨_, rfl⟩) ?_
      refine ⟨?_, rfl⟩
      first
      | (simp only [xPer, if_neg c1, if_pos c12]; done)
      | (simp only [xPer, if_neg c1, if_pos c12, nI_clamp hj31]; done)
    · obtain ⟨j, hj31, rfl⟩ := nI_of c1
      have c12a := c12
      rw [i.a1.1] at c12a
      have hj : j < cn h 9 := (nI_ltI hj31 (by omega)).mp (Int32.not_le.mp c12a)
      refine v_aload_n dX11_personAt_15 rfl ?_
      refine v_getR (some (7, 1)) fl_X11_41 dX11_personAt_16 rfl rfl (Nat.le_of_ble_eq_true rfl) (xh_0_0 hS) (xr_0_0_4 hS) ?_
      refine v_iload_n dX11_personAt_19 rfl ?_
      refine v_invVE (m_get g h (xh_7_1 hS) i.a1 hj) dX11_personAt_20 cwJx4a65c_get_915e3 mlX11_190 (ob_7 _) rfl rfl (by decide) (by decide) (Nat.le_of_ble_eq_true rfl) ?_
      refine v_cast dX11_personAt_23 clX11_141 (fun a z => by cases z; exact ⟨Nat.le_of_ble_eq_true rfl, _, _, rfl, rfl, rfl⟩) ?_
      refine v_goto 30 dX11_personAt_26 (by decide) ?_
      refine v_areturn dX11_personAt_30 rfl (Or.inl ⟨_, rfl⟩) ?_
      refine ⟨?_, rfl⟩
      first
      | (simp only [xPer, if_neg c1, if_neg c12]; done)
      | (simp only [xPer, if_neg c1, if_neg c12, nI_clamp hj31]; done)
set_option maxRecDepth 20000 in
theorem m_roomAt (g : G0) (h : Hp) (i : XI h) {p : Int32} : Mx g yX11_roomAt wX11_roomAt 3 [pR (0, 0), pI p] h 0 0 (qE (some (pO (xRoo h p))) h) noX := by
  have hS := i.1
  have le := i.le
  refine Mx.by kfX11_roomAt rfl (by decide) (Nat.le_of_ble_eq_true rfl) ?_
  refine v_iload_n dX11_roomAt_0 rfl ?_
  refine v_if_lt 29 dX11_roomAt_1 (by decide) (fun c1 => ?_) (fun c1 => ?_)
  · refine v_null dX11_roomAt_29 ?_
    refine v_areturn dX11_roomAt_30 rfl (Or.inl ⟨_, rfl⟩) ?_
    refine ⟨?_, rfl⟩
    first
    | (simp only [xRoo, if_pos c1]; done)
    | (simp only [xRoo, if_pos c1, nI_clamp hj31]; done)
  · refine v_iload_n dX11_roomAt_4 rfl ?_
    refine v_aload_n dX11_roomAt_5 rfl ?_
    refine v_getR (some (7, 2)) fl_X11_44 dX11_roomAt_6 rfl rfl (Nat.le_of_ble_eq_true rfl) (xh_0_0 hS) (xr_0_0_5 hS) ?_
    refine v_invVE (m_size g h (xh_7_2 hS)) dX11_roomAt_9 cwJx4a65c_size_8abf5 mlX11_138 (ob_7 _) rfl rfl (by decide) (by decide) (Nat.le_of_ble_eq_true rfl) ?_
    refine v_icmp_ge 29 dX11_roomAt_12 (by decide) (fun c12 => ?_) (fun c12 => ?_)
    · refine v_null dX11_roomAt_29 ?_
      refine v_areturn dX11_roomAt_30 rfl (Or.inl ⟨_, rfl⟩) ?_
      refine ⟨?_, rfl⟩
      first
      | (simp only [xRoo, if_neg c1, if_pos c12]; done)
      | (simp only [xRoo, if_neg c1, if_pos c12, nI_clamp hj31]; done)
    · obtain ⟨j, hj31, rfl⟩ := nI_of c1
      have c12a := c12
      rw [i.a2.1] at c12a
      have hj : j < cn h 10 := (nI_ltI hj31 (by omega)).mp (Int32.not_le.mp c12a)
      refine v_aload_n dX11_roomAt_15 rfl ?_
      refine v_getR (some (7, 2)) fl_X11_44 dX11_roomAt_16 rfl rfl (Nat.le_of_ble_eq_true rfl) (xh_0_0 hS) (xr_0_0_5 hS) ?_
      refine v_iload_n dX11_roomAt_19 rfl ?_
      refine v_invVE (m_get g h (xh_7_2 hS) i.a2 hj) dX11_roomAt_20 cwJx4a65c_get_915e3 mlX11_190 (ob_7 _) rfl rfl (by decide) (by decide) (Nat.le_of_ble_eq_true rfl) ?_
      refine v_cast dX11_roomAt_23 clX11_197 (fun a z => by cases z; exact ⟨Nat.le_of_ble_eq_true rfl, _, _, rfl, rfl, rfl⟩) ?_
      refine v_goto 30 dX11_roomAt_26 (by decide) ?_
      refine v_areturn dX11_roomAt_30 rfl (Or.inl ⟨_, rfl⟩) ?_
      refine ⟨?_, rfl⟩
      first
      | (simp only [xRoo, if_neg c1, if_neg c12]; done)
      | (simp only [xRoo, if_neg c1, if_neg c12, nI_clamp hj31]; done)
def xWill (h : Hp) : Int32 × Hp := if vi h (0, 0) 10 < 4 then (vi (sI h (0, 0) 10 (vi h (0, 0) 10 + 1)) (0, 0) 10 - 1, xT (sI h (0, 0) 10 (vi h (0, 0) 10 + 1)) 0) else (-1, xT h 3)
set_option maxRecDepth 20000 in
theorem m_will (g : G0) (h : Hp) (i : XI h)  : Mx g yX11_will wX11_will 8 [pR (0, 0)] h 0 0 (qE (some (pI (xWill h).1)) (xWill h).2) noX := by
  have hS := i.1
  refine Mx.by kfX11_will rfl (by decide) (Nat.le_of_ble_eq_true rfl) ?_
  refine v_aload_n dX11_will_0 rfl ?_
  refine v_getI fl_X11_71 dX11_will_1 rfl rfl (Nat.le_of_ble_eq_true rfl) (xh_0_0 hS) ?_
  refine v_iconst (4) dX11_will_4 (by decide) ?_
  refine v_icmp_lt 14 dX11_will_5 (by decide) (fun c5 => ?_) (fun c5 => ?_)
  · refine v_aload_n dX11_will_14 rfl ?_
    refine v_dup dX11_will_15 rfl ?_
    refine v_getI fl_X11_71 dX11_will_16 rfl rfl (Nat.le_of_ble_eq_true rfl) (xh_0_0 hS) ?_
    refine v_iconst (1) dX11_will_19 (by decide) ?_
    refine v_iadd dX11_will_20 ?_
    refine v_putI fl_X11_71 (fun z => by cases z) dX11_will_21 rfl rfl (Nat.le_of_ble_eq_true rfl) rfl rfl (xh_0_0 hS) ?_
    refine v_aload_n dX11_will_24 rfl ?_
    refine v_aload_n dX11_will_25 rfl ?_
    refine v_getI fl_X11_71 dX11_will_26 rfl rfl (Nat.le_of_ble_eq_true rfl) (xh_0_0 hS) ?_
    refine v_iconst (1) dX11_will_29 (by decide) ?_
    refine v_isub dX11_will_30 ?_
    refine v_invVE (m_accept g _ (SX.sI hS)) dX11_will_31 cwX11_accept mlX11_78 (ob_0 _) rfl rfl (by decide) (by decide) (Nat.le_of_ble_eq_true rfl) ?_
    refine v_ireturn dX11_will_34 rfl rfl ?_
    exact ⟨by simp only [xWill, if_pos c5], by simp only [xWill, if_pos c5]⟩
  · refine v_aload_n dX11_will_8 rfl ?_
    refine v_iconst (3) dX11_will_9 (by decide) ?_
    refine v_invVE (m_refuse g h hS) dX11_will_10 cwX11_refuse mlX11_74 (ob_0 _) rfl rfl (by decide) (by decide) (Nat.le_of_ble_eq_true rfl) ?_
    refine v_ireturn dX11_will_13 rfl rfl ?_
    exact ⟨by simp only [xWill, if_neg c5], by simp only [xWill, if_neg c5]⟩
def xFault (h : Hp) : Int32 × Hp := (vi h (0, 0) 15, h)
set_option maxRecDepth 20000 in
theorem m_fault (g : G0) (h : Hp) (i : XI h)  : Mx g yX11_fault wX11_fault 8 [pR (0, 0)] h 0 0 (qE (some (pI (xFault h).1)) (xFault h).2) noX := by
  have hS := i.1
  refine Mx.by kfX11_fault rfl (by decide) (Nat.le_of_ble_eq_true rfl) ?_
  refine v_aload_n dX11_fault_0 rfl ?_
  refine v_getI fl_X11_98 dX11_fault_1 rfl rfl (Nat.le_of_ble_eq_true rfl) (xh_0_0 hS) ?_
  refine v_ireturn dX11_fault_4 rfl rfl ?_
  exact ⟨rfl, rfl⟩
def xTrouble (h : Hp) : Int32 × Hp := (vi h (0, 0) 14, h)
set_option maxRecDepth 20000 in
theorem m_trouble (g : G0) (h : Hp) (i : XI h)  : Mx g yX11_trouble wX11_trouble 8 [pR (0, 0)] h 0 0 (qE (some (pI (xTrouble h).1)) (xTrouble h).2) noX := by
  have hS := i.1
  refine Mx.by kfX11_trouble rfl (by decide) (Nat.le_of_ble_eq_true rfl) ?_
  refine v_aload_n dX11_trouble_0 rfl ?_
  refine v_getI fl_X11_114 dX11_trouble_1 rfl rfl (Nat.le_of_ble_eq_true rfl) (xh_0_0 hS) ?_
  refine v_ireturn dX11_trouble_4 rfl rfl ?_
  exact ⟨rfl, rfl⟩
def xWhere (h : Hp) : Int32 × Hp := if vi h (0, 0) 14 = 4 then (vi h (0, 0) 16, h) else (-1, h)
set_option maxRecDepth 20000 in
theorem m_where (g : G0) (h : Hp) (i : XI h)  : Mx g yX11_where wX11_where 8 [pR (0, 0)] h 0 0 (qE (some (pI (xWhere h).1)) (xWhere h).2) noX := by
  have hS := i.1
  refine Mx.by kfX11_where rfl (by decide) (Nat.le_of_ble_eq_true rfl) ?_
  refine v_aload_n dX11_where_0 rfl ?_
  refine v_getI fl_X11_114 dX11_where_1 rfl rfl (Nat.le_of_ble_eq_true rfl) (xh_0_0 hS) ?_
  refine v_iconst (4) dX11_where_4 (by decide) ?_
  refine v_icmp_ne 15 dX11_where_5 (by decide) (fun c5 => ?_) (fun c5 => ?_)
  · refine v_iconst (-1) dX11_where_15 (by decide) ?_
    refine v_ireturn dX11_where_16 rfl rfl ?_
    exact ⟨by simp only [xWhere, if_neg c5], by simp only [xWhere, if_neg c5]⟩
  · refine v_aload_n dX11_where_8 rfl ?_
    refine v_getI fl_X11_104 dX11_where_9 rfl rfl (Nat.le_of_ble_eq_true rfl) (xh_0_0 hS) ?_
    refine v_goto 16 dX11_where_12 (by decide) ?_
    refine v_ireturn dX11_where_16 rfl rfl ?_
    exact ⟨by simp only [xWhere, if_pos c5], by simp only [xWhere, if_pos c5]⟩
def xDole (h : Hp) (v : Int32) : Int32 × Hp := if v < 0 then (0, xT h 2) else if v ≤ 999 then (1, xT (sI h (0, 0) 12 v) 0) else (0, xT h 2)
set_option maxRecDepth 20000 in
theorem m_dole (g : G0) (h : Hp) (i : XI h) {v : Int32} : Mx g yX11_dole wX11_dole 8 [pR (0, 0), pI v] h 0 0 (qE (some (pI (xDole h v).1)) (xDole h v).2) noX := by
  have hS := i.1
  refine Mx.by kfX11_dole rfl (by decide) (Nat.le_of_ble_eq_true rfl) ?_
  refine v_iload_n dX11_dole_0 rfl ?_
  refine v_if_lt 11 dX11_dole_1 (by decide) (fun c1 => ?_) (fun c1 => ?_)
  · refine v_aload_n dX11_dole_11 rfl ?_
    refine v_iconst (2) dX11_dole_12 (by decide) ?_
    refine v_invVE (m_refuse g h hS) dX11_dole_13 cwX11_refuse mlX11_74 (ob_0 _) rfl rfl (by decide) (by decide) (Nat.le_of_ble_eq_true rfl) ?_
    refine v_pop dX11_dole_16 rfl ?_
    refine v_iconst (0) dX11_dole_17 (by decide) ?_
    refine v_ireturn dX11_dole_18 rfl rfl ?_
    exact ⟨by simp only [xDole, if_pos c1], by simp only [xDole, if_pos c1]⟩
  · refine v_iload_n dX11_dole_4 rfl ?_
    refine v_sipush (999) dX11_dole_5 (by decide) ?_
    refine v_icmp_le 19 dX11_dole_8 (by decide) (fun c8 => ?_) (fun c8 => ?_)
    · refine v_aload_n dX11_dole_19 rfl ?_
      refine v_iload_n dX11_dole_20 rfl ?_
      refine v_putI fl_X11_67 (fun z => by cases z) dX11_dole_21 rfl rfl (Nat.le_of_ble_eq_true rfl) rfl rfl (xh_0_0 hS) ?_
      refine v_aload_n dX11_dole_24 rfl ?_
      refine v_iconst (0) dX11_dole_25 (by decide) ?_
      refine v_invVE (m_accept g _ (SX.sI hS)) dX11_dole_26 cwX11_accept mlX11_78 (ob_0 _) rfl rfl (by decide) (by decide) (Nat.le_of_ble_eq_true rfl) ?_
      refine v_pop dX11_dole_29 rfl ?_
      refine v_iconst (1) dX11_dole_30 (by decide) ?_
      refine v_ireturn dX11_dole_31 rfl rfl ?_
      exact ⟨by simp only [xDole, if_neg c1, if_pos c8], by simp only [xDole, if_neg c1, if_pos c8]⟩
    · refine v_aload_n dX11_dole_11 rfl ?_
      refine v_iconst (2) dX11_dole_12 (by decide) ?_
      refine v_invVE (m_refuse g h hS) dX11_dole_13 cwX11_refuse mlX11_74 (ob_0 _) rfl rfl (by decide) (by decide) (Nat.le_of_ble_eq_true rfl) ?_
      refine v_pop dX11_dole_16 rfl ?_
      refine v_iconst (0) dX11_dole_17 (by decide) ?_
      refine v_ireturn dX11_dole_18 rfl rfl ?_
      exact ⟨by simp only [xDole, if_neg c1, if_neg c8], by simp only [xDole, if_neg c1, if_neg c8]⟩
def xTrustee (h : Hp) : Int32 × Hp := if vi h (5, 0) 1 < 8 then (vi (sI h (5, 0) 1 (vi h (5, 0) 1 + 1)) (5, 0) 1 - 1, xT (sI h (5, 0) 1 (vi h (5, 0) 1 + 1)) 0) else (-1, xT h 3)
set_option maxRecDepth 20000 in
theorem m_trustee (g : G0) (h : Hp) (i : XI h)  : Mx g yX11_trustee wX11_trustee 8 [pR (0, 0)] h 0 0 (qE (some (pI (xTrustee h).1)) (xTrustee h).2) noX := by
  have hS := i.1
  refine Mx.by kfX11_trustee rfl (by decide) (Nat.le_of_ble_eq_true rfl) ?_
  refine v_aload_n dX11_trustee_0 rfl ?_
  refine v_getR (some (5, 0)) fl_X11_53 dX11_trustee_1 rfl rfl (Nat.le_of_ble_eq_true rfl) (xh_0_0 hS) (xr_0_0_7 hS) ?_
  refine v_getI fl_X11_201 dX11_trustee_4 rfl rfl (Nat.le_of_ble_eq_true rfl) (xh_5_0 hS) ?_
  refine v_bipush (8) dX11_trustee_7 (by decide) ?_
  refine v_icmp_lt 18 dX11_trustee_9 (by decide) (fun c9 => ?_) (fun c9 => ?_)
  · refine v_aload_n dX11_trustee_18 rfl ?_
    refine v_getR (some (5, 0)) fl_X11_53 dX11_trustee_19 rfl rfl (Nat.le_of_ble_eq_true rfl) (xh_0_0 hS) (xr_0_0_7 hS) ?_
    refine v_dup dX11_trustee_22 rfl ?_
    refine v_getI fl_X11_201 dX11_trustee_23 rfl rfl (Nat.le_of_ble_eq_true rfl) (xh_5_0 hS) ?_
    refine v_iconst (1) dX11_trustee_26 (by decide) ?_
    refine v_iadd dX11_trustee_27 ?_
    refine v_putI fl_X11_201 (fun z => by cases z) dX11_trustee_28 rfl rfl (Nat.le_of_ble_eq_true rfl) rfl rfl (xh_5_0 hS) ?_
    refine v_aload_n dX11_trustee_31 rfl ?_
    refine v_aload_n dX11_trustee_32 rfl ?_
    refine v_getR (some (5, 0)) fl_X11_53 dX11_trustee_33 rfl rfl (Nat.le_of_ble_eq_true rfl) (xh_0_0 hS) (xr_0_0_7 hS) ?_
    refine v_getI fl_X11_201 dX11_trustee_36 rfl rfl (Nat.le_of_ble_eq_true rfl) (xh_5_0 hS) ?_
    refine v_iconst (1) dX11_trustee_39 (by decide) ?_
    refine v_isub dX11_trustee_40 ?_
    refine v_invVE (m_accept g _ (SX.sI hS)) dX11_trustee_41 cwX11_accept mlX11_78 (ob_0 _) rfl rfl (by decide) (by decide) (Nat.le_of_ble_eq_true rfl) ?_
    refine v_ireturn dX11_trustee_44 rfl rfl ?_
    exact ⟨by simp only [xTrustee, if_pos c9], by simp only [xTrustee, if_pos c9]⟩
  · refine v_aload_n dX11_trustee_12 rfl ?_
    refine v_iconst (3) dX11_trustee_13 (by decide) ?_
    refine v_invVE (m_refuse g h hS) dX11_trustee_14 cwX11_refuse mlX11_74 (ob_0 _) rfl rfl (by decide) (by decide) (Nat.le_of_ble_eq_true rfl) ?_
    refine v_ireturn dX11_trustee_17 rfl rfl ?_
    exact ⟨by simp only [xTrustee, if_neg c9], by simp only [xTrustee, if_neg c9]⟩
def xAway (h : Hp) (t b : Int32) : Int32 × Hp := if t < 0 then (0, xT h 1) else if t < vi h (5, 0) 1 then (1, xT (sI h (14, 0) t.toNatClampNeg (vp_nar .boolean b)) 0) else (0, xT h 1)
set_option maxRecDepth 20000 in
theorem m_away (g : G0) (h : Hp) (i : XI h) {t b : Int32} : Mx g yX11_away wX11_away 8 [pR (0, 0), pI t, pI b] h 0 0 (qE (some (pI (xAway h t b).1)) (xAway h t b).2) noX := by
  have hS := i.1
  refine Mx.by kfX11_away rfl (by decide) (Nat.le_of_ble_eq_true rfl) ?_
  refine v_iload_n dX11_away_0 rfl ?_
  refine v_if_lt 15 dX11_away_1 (by decide) (fun c1 => ?_) (fun c1 => ?_)
  · refine v_aload_n dX11_away_15 rfl ?_
    refine v_iconst (1) dX11_away_16 (by decide) ?_
    refine v_invVE (m_refuse g h hS) dX11_away_17 cwX11_refuse mlX11_74 (ob_0 _) rfl rfl (by decide) (by decide) (Nat.le_of_ble_eq_true rfl) ?_
    refine v_pop dX11_away_20 rfl ?_
    refine v_iconst (0) dX11_away_21 (by decide) ?_
    refine v_ireturn dX11_away_22 rfl rfl ?_
    refine ⟨?_, ?_⟩ <;> first | (simp only [xAway, if_pos c1]; done) | (simp only [xAway, if_pos c1, nI_clamp hj31]; done)
  · refine v_iload_n dX11_away_4 rfl ?_
    refine v_aload_n dX11_away_5 rfl ?_
    refine v_getR (some (5, 0)) fl_X11_53 dX11_away_6 rfl rfl (Nat.le_of_ble_eq_true rfl) (xh_0_0 hS) (xr_0_0_7 hS) ?_
    refine v_getI fl_X11_201 dX11_away_9 rfl rfl (Nat.le_of_ble_eq_true rfl) (xh_5_0 hS) ?_
    refine v_icmp_lt 23 dX11_away_12 (by decide) (fun c12 => ?_) (fun c12 => ?_)
    · obtain ⟨n, hn8, hnv⟩ := i.tr
      obtain ⟨j, hj31, rfl⟩ := nI_of c1
      have c12a := c12
      rw [hnv] at c12a
      have ht : j < 8 := by have := (nI_ltI hj31 (by omega)).mp c12a; omega
      refine v_aload_n dX11_away_23 rfl ?_
      refine v_getR (some (5, 0)) fl_X11_53 dX11_away_24 rfl rfl (Nat.le_of_ble_eq_true rfl) (xh_0_0 hS) (xr_0_0_7 hS) ?_
      refine v_iload_n dX11_away_27 rfl ?_
      refine v_iload_n dX11_away_28 rfl ?_
      refine v_invVE (m_setAbsent g h hS ht) dX11_away_29 cwX9_setAbsent mlX11_203 (ob_5 _) rfl rfl (by decide) (by decide) (Nat.le_of_ble_eq_true rfl) ?_
      refine v_aload_n dX11_away_32 rfl ?_
      refine v_iconst (0) dX11_away_33 (by decide) ?_
      refine v_invVE (m_accept g _ (SX.sI hS)) dX11_away_34 cwX11_accept mlX11_78 (ob_0 _) rfl rfl (by decide) (by decide) (Nat.le_of_ble_eq_true rfl) ?_
      refine v_pop dX11_away_37 rfl ?_
      refine v_iconst (1) dX11_away_38 (by decide) ?_
      refine v_ireturn dX11_away_39 rfl rfl ?_
      refine ⟨?_, ?_⟩ <;> first | (simp only [xAway, if_neg c1, if_pos c12]; done) | (simp only [xAway, if_neg c1, if_pos c12, nI_clamp hj31]; done)
    · refine v_aload_n dX11_away_15 rfl ?_
      refine v_iconst (1) dX11_away_16 (by decide) ?_
      refine v_invVE (m_refuse g h hS) dX11_away_17 cwX11_refuse mlX11_74 (ob_0 _) rfl rfl (by decide) (by decide) (Nat.le_of_ble_eq_true rfl) ?_
      refine v_pop dX11_away_20 rfl ?_
      refine v_iconst (0) dX11_away_21 (by decide) ?_
      refine v_ireturn dX11_away_22 rfl rfl ?_
      refine ⟨?_, ?_⟩ <;> first | (simp only [xAway, if_neg c1, if_neg c12]; done) | (simp only [xAway, if_neg c1, if_neg c12, nI_clamp hj31]; done)
def xOwed (h : Hp) (p : Int32) : Int32 × Hp := match xPer h p with
  | none => (-1, h)
  | some a => (vi h a 9, h)
set_option maxRecDepth 20000 in
theorem m_owed (g : G0) (h : Hp) (i : XI h) {p : Int32} : Mx g yX11_owed wX11_owed 8 [pR (0, 0), pI p] h 0 0 (qE (some (pI (xOwed h p).1)) (xOwed h p).2) noX := by
  have hS := i.1
  obtain ⟨o, ho⟩ : ∃ o, xPer h p = o := ⟨_, rfl⟩
  have ce := m_personAt g h i (p := p)
  rw [ho] at ce
  refine Mx.by kfX11_owed rfl (by decide) (Nat.le_of_ble_eq_true rfl) ?_
  refine v_aload_n dX11_owed_0 rfl ?_
  refine v_iload_n dX11_owed_1 rfl ?_
  refine v_invVE (ce) dX11_owed_2 cwX11_personAt mlX11_150 (ob_0 _) rfl rfl (by decide) (by decide) (Nat.le_of_ble_eq_true rfl) ?_
  refine v_astore_n dX11_owed_5 (by decide) ?_
  refine v_aload_n dX11_owed_6 rfl ?_
  refine v_ifnonnull 14 dX11_owed_7 (by decide) (fun c7 => ?_) (fun a7 c7 => ?_)
  · refine v_iconst (-1) dX11_owed_10 (by decide) ?_
    refine v_goto 18 dX11_owed_11 (by decide) ?_
    refine v_ireturn dX11_owed_18 rfl rfl ?_
    first | (subst c7; exact ⟨by simp only [xOwed, ho], by simp only [xOwed, ho]⟩) | exact ⟨by simp only [xOwed, ho], by simp only [xOwed, ho]⟩
  · subst c7
    obtain ⟨a1, a2⟩ := a7
    obtain ⟨e1, a2lt, -⟩ := xPer_ok i ho
    obtain rfl : a1 = 9 := e1
    refine v_aload_n dX11_owed_14 rfl ?_
    refine v_getI fl_X11_247 dX11_owed_15 rfl rfl (Nat.le_of_ble_eq_true rfl) a2lt ?_
    refine v_ireturn dX11_owed_18 rfl rfl ?_
    first | (subst c7; exact ⟨by simp only [xOwed, ho], by simp only [xOwed, ho]⟩) | exact ⟨by simp only [xOwed, ho], by simp only [xOwed, ho]⟩
def xGot (h : Hp) (p : Int32) : Int32 × Hp := match xPer h p with
  | none => (-1, h)
  | some a => (vi h a 10, h)
set_option maxRecDepth 20000 in
theorem m_got (g : G0) (h : Hp) (i : XI h) {p : Int32} : Mx g yX11_got wX11_got 8 [pR (0, 0), pI p] h 0 0 (qE (some (pI (xGot h p).1)) (xGot h p).2) noX := by
  have hS := i.1
  obtain ⟨o, ho⟩ : ∃ o, xPer h p = o := ⟨_, rfl⟩
  have ce := m_personAt g h i (p := p)
  rw [ho] at ce
  refine Mx.by kfX11_got rfl (by decide) (Nat.le_of_ble_eq_true rfl) ?_
  refine v_aload_n dX11_got_0 rfl ?_
  refine v_iload_n dX11_got_1 rfl ?_
  refine v_invVE (ce) dX11_got_2 cwX11_personAt mlX11_150 (ob_0 _) rfl rfl (by decide) (by decide) (Nat.le_of_ble_eq_true rfl) ?_
  refine v_astore_n dX11_got_5 (by decide) ?_
  refine v_aload_n dX11_got_6 rfl ?_
  refine v_ifnonnull 14 dX11_got_7 (by decide) (fun c7 => ?_) (fun a7 c7 => ?_)
  · refine v_iconst (-1) dX11_got_10 (by decide) ?_
    refine v_goto 18 dX11_got_11 (by decide) ?_
    refine v_ireturn dX11_got_18 rfl rfl ?_
    first | (subst c7; exact ⟨by simp only [xGot, ho], by simp only [xGot, ho]⟩) | exact ⟨by simp only [xGot, ho], by simp only [xGot, ho]⟩
  · subst c7
    obtain ⟨a1, a2⟩ := a7
    obtain ⟨e1, a2lt, -⟩ := xPer_ok i ho
    obtain rfl : a1 = 9 := e1
    refine v_aload_n dX11_got_14 rfl ?_
    refine v_getI fl_X11_250 dX11_got_15 rfl rfl (Nat.le_of_ble_eq_true rfl) a2lt ?_
    refine v_ireturn dX11_got_18 rfl rfl ?_
    first | (subst c7; exact ⟨by simp only [xGot, ho], by simp only [xGot, ho]⟩) | exact ⟨by simp only [xGot, ho], by simp only [xGot, ho]⟩
