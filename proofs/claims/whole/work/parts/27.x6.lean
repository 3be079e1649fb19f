theorem outOf {k : Int32} (k0 : ¬ k = 0) (k1 : ¬ k = 1) (k2 : ¬ k = 2) (k3 : ¬ k = 3) : k.toInt < 0 ∨ 3 < k.toInt := by
  have e0 : ¬ k.toInt = 0 := fun z => k0 (Int32.toInt_inj.mp z)
  have e1 : ¬ k.toInt = 1 := fun z => k1 (Int32.toInt_inj.mp z)
  have e2 : ¬ k.toInt = 2 := fun z => k2 (Int32.toInt_inj.mp z)
  have e3 : ¬ k.toInt = 3 := fun z => k3 (Int32.toInt_inj.mp z)
  omega
def xStP (h : Hp) (a : Ad) (f : Nat) : Int32 := match vr h a 1 with
  | none => -2
  | some s => vi h s f
def xRoomOf (h : Hp) (r k : Int32) : Int32 × Hp := match xRoo h r with
  | none => (-1, h)
  | some a => if k = 0 then (vi h a 0, h) else if k = 1 then (xStP h a 1, h) else if k = 2 then (xStP h a 2, h) else if k = 3 then (vi h a 2, h) else (-1, h)
set_option maxRecDepth 20000 in
theorem m_roomOf0 (g : G0) (h : Hp) (i : XI h) {r : Int32} : Mx g yX11_roomOf wX11_roomOf 8 [pR (0, 0), pI r, pI 0] h 0 0 (qE (some (pI (xRoomOf h r 0).1)) (xRoomOf h r 0).2) noX := by
  have hS := i.1
  obtain ⟨o, ho⟩ : ∃ o, xRoo h r = o := ⟨_, rfl⟩
  have ce := m_roomAt g h i (p := r)
  rw [ho] at ce
  refine Mx.by kfX11_roomOf rfl (by decide) (Nat.le_of_ble_eq_true rfl) ?_
  refine v_aload_n dX11_roomOf_0 rfl ?_
  refine v_iload_n dX11_roomOf_1 rfl ?_
  refine v_invVE (ce) dX11_roomOf_2 cwX11_roomAt mlX11_167 (ob_0 _) rfl rfl (by decide) (by decide) (Nat.le_of_ble_eq_true rfl) ?_
  refine v_astore_n dX11_roomOf_5 (by decide) ?_
  refine v_aload_n dX11_roomOf_6 rfl ?_
  refine v_ifnonnull 12 dX11_roomOf_7 (by decide) (fun c7 => ?_) (fun a7 c7 => ?_)
  · refine v_iconst (-1) dX11_roomOf_10 (by decide) ?_
    refine v_ireturn dX11_roomOf_11 rfl rfl ?_
    first | (subst c7; refine ⟨?_, ?_⟩ <;> (simp only [xRoomOf, ho]; done)) | (refine ⟨?_, ?_⟩ <;> (simp only [xRoomOf, ho, ↓reduceIte]; done))
  · subst c7
    obtain ⟨a1, a2⟩ := a7
    obtain ⟨e1, a2lt, e3⟩ := xRoo_ok i ho
    obtain rfl : a1 = 10 := e1
    obtain ⟨os, hs⟩ : ∃ os, vr h (10, a2) 1 = os := ⟨_, rfl⟩
    refine v_iload_n dX11_roomOf_12 rfl ?_
    refine v_tableIn 44 dX11_roomOf_13 (by decide) (by decide) (by rfl) (by decide) ?_
    refine v_aload_n dX11_roomOf_44 rfl ?_
    refine v_getI fl_X11_214 dX11_roomOf_45 rfl rfl (Nat.le_of_ble_eq_true rfl) a2lt ?_
    refine v_ireturn dX11_roomOf_48 rfl rfl ?_
    first | (subst c7; refine ⟨?_, ?_⟩ <;> (simp only [xRoomOf, ho]; done)) | (refine ⟨?_, ?_⟩ <;> (simp only [xRoomOf, ho, ↓reduceIte]; done))
set_option maxRecDepth 20000 in
theorem m_roomOf1 (g : G0) (h : Hp) (i : XI h) {r : Int32} : Mx g yX11_roomOf wX11_roomOf 8 [pR (0, 0), pI r, pI 1] h 0 0 (qE (some (pI (xRoomOf h r 1).1)) (xRoomOf h r 1).2) noX := by
  have hS := i.1
  obtain ⟨o, ho⟩ : ∃ o, xRoo h r = o := ⟨_, rfl⟩
  have ce := m_roomAt g h i (p := r)
  rw [ho] at ce
  refine Mx.by kfX11_roomOf rfl (by decide) (Nat.le_of_ble_eq_true rfl) ?_
  refine v_aload_n dX11_roomOf_0 rfl ?_
  refine v_iload_n dX11_roomOf_1 rfl ?_
  refine v_invVE (ce) dX11_roomOf_2 cwX11_roomAt mlX11_167 (ob_0 _) rfl rfl (by decide) (by decide) (Nat.le_of_ble_eq_true rfl) ?_
  refine v_astore_n dX11_roomOf_5 (by decide) ?_
  refine v_aload_n dX11_roomOf_6 rfl ?_
  refine v_ifnonnull 12 dX11_roomOf_7 (by decide) (fun c7 => ?_) (fun a7 c7 => ?_)
  · refine v_iconst (-1) dX11_roomOf_10 (by decide) ?_
    refine v_ireturn dX11_roomOf_11 rfl rfl ?_
    first | (subst c7; refine ⟨?_, ?_⟩ <;> (simp only [xRoomOf, ho]; done)) | (subst c53; refine ⟨?_, ?_⟩ <;> (simp only [xRoomOf, xStP, ho, hs, if_neg (show ¬ ((1 : Int32) = 0) by decide), if_pos rfl, ↓reduceIte]; done)) | (refine ⟨?_, ?_⟩ <;> (simp only [xRoomOf, xStP, ho, hs, if_neg (show ¬ ((1 : Int32) = 0) by decide), ↓reduceIte]; done))
  · subst c7
    obtain ⟨a1, a2⟩ := a7
    obtain ⟨e1, a2lt, e3⟩ := xRoo_ok i ho
    obtain rfl : a1 = 10 := e1
    obtain ⟨os, hs⟩ : ∃ os, vr h (10, a2) 1 = os := ⟨_, rfl⟩
    refine v_iload_n dX11_roomOf_12 rfl ?_
    refine v_tableIn 49 dX11_roomOf_13 (by decide) (by decide) (by rfl) (by decide) ?_
    refine v_aload_n dX11_roomOf_49 rfl ?_
    refine v_getR (os) fl_X11_207 dX11_roomOf_50 rfl rfl (Nat.le_of_ble_eq_true rfl) a2lt hs ?_
    refine v_ifnonnull 61 dX11_roomOf_53 (by decide) (fun c53 => ?_) (fun a53 c53 => ?_)
    · refine v_bipush (-2) dX11_roomOf_56 (by decide) ?_
      refine v_goto 68 dX11_roomOf_58 (by decide) ?_
      refine v_ireturn dX11_roomOf_68 rfl rfl ?_
      first | (subst c7; refine ⟨?_, ?_⟩ <;> (simp only [xRoomOf, ho]; done)) | (subst c53; refine ⟨?_, ?_⟩ <;> (simp only [xRoomOf, xStP, ho, hs, if_neg (show ¬ ((1 : Int32) = 0) by decide), if_pos rfl, ↓reduceIte]; done)) | (refine ⟨?_, ?_⟩ <;> (simp only [xRoomOf, xStP, ho, hs, if_neg (show ¬ ((1 : Int32) = 0) by decide), ↓reduceIte]; done))
    · subst c53
      obtain ⟨s1, s2⟩ := a53
      obtain ⟨f1, s2lt⟩ := i.rs a2 a2lt _ hs
      obtain rfl : s1 = 11 := f1
      refine v_aload_n dX11_roomOf_61 rfl ?_
      refine v_getR (some (11, s2)) fl_X11_207 dX11_roomOf_62 rfl rfl (Nat.le_of_ble_eq_true rfl) a2lt hs ?_
      refine v_getI fl_X11_227 dX11_roomOf_65 rfl rfl (Nat.le_of_ble_eq_true rfl) s2lt ?_
      refine v_ireturn dX11_roomOf_68 rfl rfl ?_
      first | (subst c7; refine ⟨?_, ?_⟩ <;> (simp only [xRoomOf, ho]; done)) | (subst c53; refine ⟨?_, ?_⟩ <;> (simp only [xRoomOf, xStP, ho, hs, if_neg (show ¬ ((1 : Int32) = 0) by decide), if_pos rfl, ↓reduceIte]; done)) | (refine ⟨?_, ?_⟩ <;> (simp only [xRoomOf, xStP, ho, hs, if_neg (show ¬ ((1 : Int32) = 0) by decide), ↓reduceIte]; done))
set_option maxRecDepth 20000 in
theorem m_roomOf2 (g : G0) (h : Hp) (i : XI h) {r : Int32} : Mx g yX11_roomOf wX11_roomOf 8 [pR (0, 0), pI r, pI 2] h 0 0 (qE (some (pI (xRoomOf h r 2).1)) (xRoomOf h r 2).2) noX := by
  have hS := i.1
  obtain ⟨o, ho⟩ : ∃ o, xRoo h r = o := ⟨_, rfl⟩
  have ce := m_roomAt g h i (p := r)
  rw [ho] at ce
  refine Mx.by kfX11_roomOf rfl (by decide) (Nat.le_of_ble_eq_true rfl) ?_
  refine v_aload_n dX11_roomOf_0 rfl ?_
  refine v_iload_n dX11_roomOf_1 rfl ?_
  refine v_invVE (ce) dX11_roomOf_2 cwX11_roomAt mlX11_167 (ob_0 _) rfl rfl (by decide) (by decide) (Nat.le_of_ble_eq_true rfl) ?_
  refine v_astore_n dX11_roomOf_5 (by decide) ?_
  refine v_aload_n dX11_roomOf_6 rfl ?_
  refine v_ifnonnull 12 dX11_roomOf_7 (by decide) (fun c7 => ?_) (fun a7 c7 => ?_)
  · refine v_iconst (-1) dX11_roomOf_10 (by decide) ?_
    refine v_ireturn dX11_roomOf_11 rfl rfl ?_
    first | (subst c7; refine ⟨?_, ?_⟩ <;> (simp only [xRoomOf, ho]; done)) | (subst c73; refine ⟨?_, ?_⟩ <;> (simp only [xRoomOf, xStP, ho, hs, if_neg (show ¬ ((2 : Int32) = 0) by decide), if_neg (show ¬ ((2 : Int32) = 1) by decide), if_pos rfl, ↓reduceIte]; done)) | (refine ⟨?_, ?_⟩ <;> (simp only [xRoomOf, xStP, ho, hs, if_neg (show ¬ ((2 : Int32) = 0) by decide), if_neg (show ¬ ((2 : Int32) = 1) by decide), ↓reduceIte]; done))
  · subst c7
    obtain ⟨a1, a2⟩ := a7
    obtain ⟨e1, a2lt, e3⟩ := xRoo_ok i ho
    obtain rfl : a1 = 10 := e1
    obtain ⟨os, hs⟩ : ∃ os, vr h (10, a2) 1 = os := ⟨_, rfl⟩
    refine v_iload_n dX11_roomOf_12 rfl ?_
    refine v_tableIn 69 dX11_roomOf_13 (by decide) (by decide) (by rfl) (by decide) ?_
    refine v_aload_n dX11_roomOf_69 rfl ?_
    refine v_getR (os) fl_X11_207 dX11_roomOf_70 rfl rfl (Nat.le_of_ble_eq_true rfl) a2lt hs ?_
    refine v_ifnonnull 81 dX11_roomOf_73 (by decide) (fun c73 => ?_) (fun a73 c73 => ?_)
    · refine v_bipush (-2) dX11_roomOf_76 (by decide) ?_
      refine v_goto 88 dX11_roomOf_78 (by decide) ?_
      refine v_ireturn dX11_roomOf_88 rfl rfl ?_
      first | (subst c7; refine ⟨?_, ?_⟩ <;> (simp only [xRoomOf, ho]; done)) | (subst c73; refine ⟨?_, ?_⟩ <;> (simp only [xRoomOf, xStP, ho, hs, if_neg (show ¬ ((2 : Int32) = 0) by decide), if_neg (show ¬ ((2 : Int32) = 1) by decide), if_pos rfl, ↓reduceIte]; done)) | (refine ⟨?_, ?_⟩ <;> (simp only [xRoomOf, xStP, ho, hs, if_neg (show ¬ ((2 : Int32) = 0) by decide), if_neg (show ¬ ((2 : Int32) = 1) by decide), ↓reduceIte]; done))
    · subst c73
      obtain ⟨s1, s2⟩ := a73
      obtain ⟨f1, s2lt⟩ := i.rs a2 a2lt _ hs
      obtain rfl : s1 = 11 := f1
      refine v_aload_n dX11_roomOf_81 rfl ?_
      refine v_getR (some (11, s2)) fl_X11_207 dX11_roomOf_82 rfl rfl (Nat.le_of_ble_eq_true rfl) a2lt hs ?_
      refine v_getI fl_X11_230 dX11_roomOf_85 rfl rfl (Nat.le_of_ble_eq_true rfl) s2lt ?_
      refine v_ireturn dX11_roomOf_88 rfl rfl ?_
      first | (subst c7; refine ⟨?_, ?_⟩ <;> (simp only [xRoomOf, ho]; done)) | (subst c73; refine ⟨?_, ?_⟩ <;> (simp only [xRoomOf, xStP, ho, hs, if_neg (show ¬ ((2 : Int32) = 0) by decide), if_neg (show ¬ ((2 : Int32) = 1) by decide), if_pos rfl, ↓reduceIte]; done)) | (refine ⟨?_, ?_⟩ <;> (simp only [xRoomOf, xStP, ho, hs, if_neg (show ¬ ((2 : Int32) = 0) by decide), if_neg (show ¬ ((2 : Int32) = 1) by decide), ↓reduceIte]; done))
set_option maxRecDepth 20000 in
theorem m_roomOf3 (g : G0) (h : Hp) (i : XI h) {r : Int32} : Mx g yX11_roomOf wX11_roomOf 8 [pR (0, 0), pI r, pI 3] h 0 0 (qE (some (pI (xRoomOf h r 3).1)) (xRoomOf h r 3).2) noX := by
  have hS := i.1
  obtain ⟨o, ho⟩ : ∃ o, xRoo h r = o := ⟨_, rfl⟩
  have ce := m_roomAt g h i (p := r)
  rw [ho] at ce
  refine Mx.by kfX11_roomOf rfl (by decide) (Nat.le_of_ble_eq_true rfl) ?_
  refine v_aload_n dX11_roomOf_0 rfl ?_
  refine v_iload_n dX11_roomOf_1 rfl ?_
  refine v_invVE (ce) dX11_roomOf_2 cwX11_roomAt mlX11_167 (ob_0 _) rfl rfl (by decide) (by decide) (Nat.le_of_ble_eq_true rfl) ?_
  refine v_astore_n dX11_roomOf_5 (by decide) ?_
  refine v_aload_n dX11_roomOf_6 rfl ?_
  refine v_ifnonnull 12 dX11_roomOf_7 (by decide) (fun c7 => ?_) (fun a7 c7 => ?_)
  · refine v_iconst (-1) dX11_roomOf_10 (by decide) ?_
    refine v_ireturn dX11_roomOf_11 rfl rfl ?_
    first | (subst c7; refine ⟨?_, ?_⟩ <;> (simp only [xRoomOf, ho]; done)) | (refine ⟨?_, ?_⟩ <;> (simp only [xRoomOf, ho, if_neg (show ¬ ((3 : Int32) = 0) by decide), if_neg (show ¬ ((3 : Int32) = 1) by decide), if_neg (show ¬ ((3 : Int32) = 2) by decide), ↓reduceIte]; done))
  · subst c7
    obtain ⟨a1, a2⟩ := a7
    obtain ⟨e1, a2lt, e3⟩ := xRoo_ok i ho
    obtain rfl : a1 = 10 := e1
    obtain ⟨os, hs⟩ : ∃ os, vr h (10, a2) 1 = os := ⟨_, rfl⟩
    refine v_iload_n dX11_roomOf_12 rfl ?_
    refine v_tableIn 89 dX11_roomOf_13 (by decide) (by decide) (by rfl) (by decide) ?_
    refine v_aload_n dX11_roomOf_89 rfl ?_
    refine v_getI fl_X11_222 dX11_roomOf_90 rfl rfl (Nat.le_of_ble_eq_true rfl) a2lt ?_
    refine v_ireturn dX11_roomOf_93 rfl rfl ?_
    first | (subst c7; refine ⟨?_, ?_⟩ <;> (simp only [xRoomOf, ho]; done)) | (refine ⟨?_, ?_⟩ <;> (simp only [xRoomOf, ho, if_neg (show ¬ ((3 : Int32) = 0) by decide), if_neg (show ¬ ((3 : Int32) = 1) by decide), if_neg (show ¬ ((3 : Int32) = 2) by decide), ↓reduceIte]; done))
set_option maxRecDepth 20000 in
theorem m_roomOfO (g : G0) (h : Hp) (i : XI h) {r k : Int32} (k0 : ¬ k = 0) (k1 : ¬ k = 1) (k2 : ¬ k = 2) (k3 : ¬ k = 3) : Mx g yX11_roomOf wX11_roomOf 8 [pR (0, 0), pI r, pI k] h 0 0 (qE (some (pI (xRoomOf h r k).1)) (xRoomOf h r k).2) noX := by
  have hS := i.1
  obtain ⟨o, ho⟩ : ∃ o, xRoo h r = o := ⟨_, rfl⟩
  have ce := m_roomAt g h i (p := r)
  rw [ho] at ce
  refine Mx.by kfX11_roomOf rfl (by decide) (Nat.le_of_ble_eq_true rfl) ?_
  refine v_aload_n dX11_roomOf_0 rfl ?_
  refine v_iload_n dX11_roomOf_1 rfl ?_
  refine v_invVE (ce) dX11_roomOf_2 cwX11_roomAt mlX11_167 (ob_0 _) rfl rfl (by decide) (by decide) (Nat.le_of_ble_eq_true rfl) ?_
  refine v_astore_n dX11_roomOf_5 (by decide) ?_
  refine v_aload_n dX11_roomOf_6 rfl ?_
  refine v_ifnonnull 12 dX11_roomOf_7 (by decide) (fun c7 => ?_) (fun a7 c7 => ?_)
  · refine v_iconst (-1) dX11_roomOf_10 (by decide) ?_
    refine v_ireturn dX11_roomOf_11 rfl rfl ?_
    first | (subst c7; refine ⟨?_, ?_⟩ <;> (simp only [xRoomOf, ho]; done)) | (refine ⟨?_, ?_⟩ <;> (simp only [xRoomOf, ho, if_neg k0, if_neg k1, if_neg k2, if_neg k3]; done))
  · subst c7
    obtain ⟨a1, a2⟩ := a7
    obtain ⟨e1, a2lt, e3⟩ := xRoo_ok i ho
    obtain rfl : a1 = 10 := e1
    obtain ⟨os, hs⟩ : ∃ os, vr h (10, a2) 1 = os := ⟨_, rfl⟩
    refine v_iload_n dX11_roomOf_12 rfl ?_
    refine v_tableOut 94 dX11_roomOf_13 (outOf (fun e => k0 e) (fun e => k1 e) (fun e => k2 e) (fun e => k3 e)) (by decide) ?_
    refine v_iconst (-1) dX11_roomOf_94 (by decide) ?_
    refine v_ireturn dX11_roomOf_95 rfl rfl ?_
    first | (subst c7; refine ⟨?_, ?_⟩ <;> (simp only [xRoomOf, ho]; done)) | (refine ⟨?_, ?_⟩ <;> (simp only [xRoomOf, ho, if_neg k0, if_neg k1, if_neg k2, if_neg k3]; done))
theorem m_roomOf (g : G0) (h : Hp) (i : XI h) {r k : Int32} : Mx g yX11_roomOf wX11_roomOf 8 [pR (0, 0), pI r, pI k] h 0 0 (qE (some (pI (xRoomOf h r k).1)) (xRoomOf h r k).2) noX := by
  by_cases k0 : k = 0
  · subst k0; exact m_roomOf0 g h i
  by_cases k1 : k = 1
  · subst k1; exact m_roomOf1 g h i
  by_cases k2 : k = 2
  · subst k2; exact m_roomOf2 g h i
  by_cases k3 : k = 3
  · subst k3; exact m_roomOf3 g h i
  exact m_roomOfO g h i k0 k1 k2 k3
def xHd (h : Hp) (r d : Int32) : Nat → Nat → Int32
  | 0, _ => -2
  | j + 1, k => if vi h (11, k) 0 = r then (if d < vi h (11, k) 2 then xHd h r d j (k + 1) else if vi h (11, k) 3 ≤ d then xHd h r d j (k + 1) else vi h (11, k) 1) else xHd h r d j (k + 1)
def xHad (h : Hp) (r d : Int32) : Int32 × Hp := match xRoo h r with
  | none => (-1, h)
  | some _ => if d < 0 then (-1, h) else if d < vi h (0, 0) 13 then (xHd h r d (cn h 11) 0, h) else (-1, h)
set_option maxRecDepth 20000 in
theorem had_loop (g : G0) (h : Hp) (i : XI h) {r d : Int32} : ∀ (j k : Nat) (x : Int32), k + j = cn h 11 → x = nI k → V g kfX11_had 8 0 0 24 [(0, pR (0, 0)), (1, pI r), (2, pI d), (3, pI x)] [] h (qE (some (pI (xHd h r d j k))) h) (fun _ _ a h' => noX a h') := by
  have hS := i.1
  have le := i.le
  intro j
  induction j with
  | zero =>
    intro k x hij hx
    subst hx
    refine v_iload_n dX11_had_24 rfl ?_
    refine v_aload_n dX11_had_25 rfl ?_
    refine v_getR (some (7, 3)) fl_X11_47 dX11_had_26 rfl rfl (Nat.le_of_ble_eq_true rfl) (xh_0_0 hS) (xr_0_0_6 hS) ?_
    refine v_invVE (m_size g h (xh_7_3 hS)) dX11_had_29 cwJx4a65c_size_8abf5 mlX11_138 (ob_7 _) rfl rfl (by decide) (by decide) (Nat.le_of_ble_eq_true rfl) ?_
    rw [i.a3.1]
    refine v_icmp_ge 87 dX11_had_32 (by decide) (fun _ => ?_) (fun z => absurd (nI_le (by omega) (by omega)) z)
    refine v_bipush (-2) dX11_had_87 (by decide) ?_
    refine v_ireturn dX11_had_89 rfl rfl ?_
    exact ⟨rfl, rfl⟩
  | succ j ih =>
    intro k x hij hx
    subst hx
    have hk : k < cn h 11 := by omega
    refine v_iload_n dX11_had_24 rfl ?_
    refine v_aload_n dX11_had_25 rfl ?_
    refine v_getR (some (7, 3)) fl_X11_47 dX11_had_26 rfl rfl (Nat.le_of_ble_eq_true rfl) (xh_0_0 hS) (xr_0_0_6 hS) ?_
    refine v_invVE (m_size g h (xh_7_3 hS)) dX11_had_29 cwJx4a65c_size_8abf5 mlX11_138 (ob_7 _) rfl rfl (by decide) (by decide) (Nat.le_of_ble_eq_true rfl) ?_
    rw [i.a3.1]
    refine v_icmp_ge 87 dX11_had_32 (by decide) (fun z => absurd z (nI_ge (by omega) (by omega))) (fun _ => ?_)
    refine v_aload_n dX11_had_35 rfl ?_
    refine v_getR (some (7, 3)) fl_X11_47 dX11_had_36 rfl rfl (Nat.le_of_ble_eq_true rfl) (xh_0_0 hS) (xr_0_0_6 hS) ?_
    refine v_iload_n dX11_had_39 rfl ?_
    refine v_invVE (m_get g h (xh_7_3 hS) i.a3 hk) dX11_had_40 cwJx4a65c_get_915e3 mlX11_190 (ob_7 _) rfl rfl (by decide) (by decide) (Nat.le_of_ble_eq_true rfl) ?_
    refine v_cast dX11_had_43 clX11_217 (fun a z => by cases z; exact ⟨Nat.le_of_ble_eq_true rfl, _, _, rfl, rfl, rfl⟩) ?_
    refine v_astore dX11_had_46 (by decide) ?_
    refine v_aload dX11_had_48 rfl ?_
    refine v_getI fl_X11_233 dX11_had_50 rfl rfl (Nat.le_of_ble_eq_true rfl) hk ?_
    refine v_iload_n dX11_had_53 rfl ?_
    refine v_icmp_ne 81 dX11_had_54 (by decide) (fun c54 => ?_) (fun c54 => ?_)
    · refine v_iinc _ dX11_had_81 rfl rfl (by decide) ?_
      refine v_goto 24 dX11_had_84 (by decide) ?_
      rw [xHd, if_neg c54]
      refine v_loc [(0, pR (0, 0)), (1, pI r), (2, pI d), (3, pI (nI k + 1))] rfl ?_
      exact ih (k + 1) _ (by omega) (nI_1 k)
    · refine v_aload dX11_had_57 rfl ?_
      refine v_getI fl_X11_230 dX11_had_59 rfl rfl (Nat.le_of_ble_eq_true rfl) hk ?_
      refine v_iload_n dX11_had_62 rfl ?_
      refine v_icmp_gt 81 dX11_had_63 (by decide) (fun c63 => ?_) (fun c63 => ?_)
      · refine v_iinc _ dX11_had_81 rfl rfl (by decide) ?_
        refine v_goto 24 dX11_had_84 (by decide) ?_
        rw [xHd, if_pos c54, if_pos c63]
        refine v_loc [(0, pR (0, 0)), (1, pI r), (2, pI d), (3, pI (nI k + 1))] rfl ?_
        exact ih (k + 1) _ (by omega) (nI_1 k)
      · refine v_iload_n dX11_had_66 rfl ?_
        refine v_aload dX11_had_67 rfl ?_
        refine v_getI fl_X11_234 dX11_had_69 rfl rfl (Nat.le_of_ble_eq_true rfl) hk ?_
        refine v_icmp_ge 81 dX11_had_72 (by decide) (fun c72 => ?_) (fun c72 => ?_)
        · refine v_iinc _ dX11_had_81 rfl rfl (by decide) ?_
          refine v_goto 24 dX11_had_84 (by decide) ?_
          rw [xHd, if_pos c54, if_neg c63, if_pos c72]
          refine v_loc [(0, pR (0, 0)), (1, pI r), (2, pI d), (3, pI (nI k + 1))] rfl ?_
          exact ih (k + 1) _ (by omega) (nI_1 k)
        · refine v_aload dX11_had_75 rfl ?_
          refine v_getI fl_X11_227 dX11_had_77 rfl rfl (Nat.le_of_ble_eq_true rfl) hk ?_
          refine v_ireturn dX11_had_80 rfl rfl ?_
          exact ⟨by rw [xHd, if_pos c54, if_neg c63, if_neg c72], rfl⟩
set_option maxRecDepth 20000 in
theorem m_had (g : G0) (h : Hp) (i : XI h) {r d : Int32} : Mx g yX11_had wX11_had 8 [pR (0, 0), pI r, pI d] h 0 0 (qE (some (pI (xHad h r d).1)) (xHad h r d).2) noX := by
  have hS := i.1
  obtain ⟨o, ho⟩ : ∃ o, xRoo h r = o := ⟨_, rfl⟩
  have ce := m_roomAt g h i (p := r)
  rw [ho] at ce
  refine Mx.by kfX11_had rfl (by decide) (Nat.le_of_ble_eq_true rfl) ?_
  refine v_aload_n dX11_had_0 rfl ?_
  refine v_iload_n dX11_had_1 rfl ?_
  refine v_invVE (ce) dX11_had_2 cwX11_roomAt mlX11_167 (ob_0 _) rfl rfl (by decide) (by decide) (Nat.le_of_ble_eq_true rfl) ?_
  refine v_ifnull 20 dX11_had_5 (by decide) (fun c5 => ?_) (fun a5 c5 => ?_)
  · refine v_iconst (-1) dX11_had_20 (by decide) ?_
    refine v_ireturn dX11_had_21 rfl rfl ?_
    first | (subst c5; refine ⟨?_, ?_⟩ <;> (simp only [xHad, ho]; done)) | (refine ⟨?_, ?_⟩ <;> (simp only [xHad, ho]; done))
  · subst c5
    refine v_iload_n dX11_had_8 rfl ?_
    refine v_if_lt 20 dX11_had_9 (by decide) (fun c9 => ?_) (fun c9 => ?_)
    · refine v_iconst (-1) dX11_had_20 (by decide) ?_
      refine v_ireturn dX11_had_21 rfl rfl ?_
      first | (subst c5; refine ⟨?_, ?_⟩ <;> (simp only [xHad, ho]; done)) | (refine ⟨?_, ?_⟩ <;> (simp only [xHad, ho, if_pos c9]; done))
    · refine v_iload_n dX11_had_12 rfl ?_
      refine v_aload_n dX11_had_13 rfl ?_
      refine v_getI fl_X11_135 dX11_had_14 rfl rfl (Nat.le_of_ble_eq_true rfl) (xh_0_0 hS) ?_
      refine v_icmp_lt 22 dX11_had_17 (by decide) (fun c17 => ?_) (fun c17 => ?_)
      · refine v_iconst (0) dX11_had_22 (by decide) ?_
        refine v_istore_n dX11_had_23 (by decide) ?_
        have e : xHad h r d = (xHd h r d (cn h 11) 0, h) := by simp only [xHad, ho, if_neg c9, if_pos c17]
        rw [e]
        refine v_loc [(0, pR (0, 0)), (1, pI r), (2, pI d), (3, pI 0)] rfl ?_
        exact had_loop g h i (cn h 11) 0 0 (by omega) rfl
      · refine v_iconst (-1) dX11_had_20 (by decide) ?_
        refine v_ireturn dX11_had_21 rfl rfl ?_
        first | (subst c5; refine ⟨?_, ?_⟩ <;> (simp only [xHad, ho]; done)) | (refine ⟨?_, ?_⟩ <;> (simp only [xHad, ho, if_neg c9, if_neg c17]; done))
def xEm (h : Hp) : Nat → Nat → Int32 → Int32
  | 0, _, s => s
  | j + 1, k, s => xEm h j (k + 1) (match vr h (10, k) 1 with | none => s + 1 | some _ => s)
set_option maxRecDepth 20000 in
theorem empty_loop (g : G0) (h : Hp) (i : XI h)  : ∀ (j k : Nat) (s x : Int32), k + j = cn h 10 → x = nI k → V g kfX11_emptyRooms 3 0 0 4 [(0, pR (0, 0)), (1, pI s), (2, pI x)] [] h (qE (some (pI (xEm h j k s))) h) (fun _ _ a h' => noX a h') := by
  have hS := i.1
  have le := i.le
  intro j
  induction j with
  | zero =>
    intro k s x hij hx
    subst hx
    refine v_iload_n dX11_emptyRooms_4 rfl ?_
    refine v_aload_n dX11_emptyRooms_5 rfl ?_
    refine v_getR (some (7, 2)) fl_X11_44 dX11_emptyRooms_6 rfl rfl (Nat.le_of_ble_eq_true rfl) (xh_0_0 hS) (xr_0_0_5 hS) ?_
    refine v_invVE (m_size g h (xh_7_2 hS)) dX11_emptyRooms_9 cwJx4a65c_size_8abf5 mlX11_138 (ob_7 _) rfl rfl (by decide) (by decide) (Nat.le_of_ble_eq_true rfl) ?_
    rw [i.a2.1]
    refine v_icmp_ge 41 dX11_emptyRooms_12 (by decide) (fun _ => ?_) (fun z => absurd (nI_le (by omega) (by omega)) z)
    refine v_iload_n dX11_emptyRooms_41 rfl ?_
    refine v_ireturn dX11_emptyRooms_42 rfl rfl ?_
    exact ⟨rfl, rfl⟩
  | succ j ih =>
    intro k s x hij hx
    subst hx
    have hk : k < cn h 10 := by omega
    obtain ⟨os, hs⟩ : ∃ os, vr h (10, k) 1 = os := ⟨_, rfl⟩
    refine v_iload_n dX11_emptyRooms_4 rfl ?_
    refine v_aload_n dX11_emptyRooms_5 rfl ?_
    refine v_getR (some (7, 2)) fl_X11_44 dX11_emptyRooms_6 rfl rfl (Nat.le_of_ble_eq_true rfl) (xh_0_0 hS) (xr_0_0_5 hS) ?_
    refine v_invVE (m_size g h (xh_7_2 hS)) dX11_emptyRooms_9 cwJx4a65c_size_8abf5 mlX11_138 (ob_7 _) rfl rfl (by decide) (by decide) (Nat.le_of_ble_eq_true rfl) ?_
    rw [i.a2.1]
    refine v_icmp_ge 41 dX11_emptyRooms_12 (by decide) (fun z => absurd z (nI_ge (by omega) (by omega))) (fun _ => ?_)
    refine v_aload_n dX11_emptyRooms_15 rfl ?_
    refine v_getR (some (7, 2)) fl_X11_44 dX11_emptyRooms_16 rfl rfl (Nat.le_of_ble_eq_true rfl) (xh_0_0 hS) (xr_0_0_5 hS) ?_
    refine v_iload_n dX11_emptyRooms_19 rfl ?_
    refine v_invVE (m_get g h (xh_7_2 hS) i.a2 hk) dX11_emptyRooms_20 cwJx4a65c_get_915e3 mlX11_190 (ob_7 _) rfl rfl (by decide) (by decide) (Nat.le_of_ble_eq_true rfl) ?_
    refine v_cast dX11_emptyRooms_23 clX11_197 (fun a z => by cases z; exact ⟨Nat.le_of_ble_eq_true rfl, _, _, rfl, rfl, rfl⟩) ?_
    refine v_getR (os) fl_X11_207 dX11_emptyRooms_26 rfl rfl (Nat.le_of_ble_eq_true rfl) hk hs ?_
    refine v_ifnonnull 35 dX11_emptyRooms_29 (by decide) (fun c29 => ?_) (fun a29 c29 => ?_)
    · refine v_iinc _ dX11_emptyRooms_32 rfl rfl (by decide) ?_
      refine v_iinc _ dX11_emptyRooms_35 rfl rfl (by decide) ?_
      refine v_goto 4 dX11_emptyRooms_38 (by decide) ?_
      subst c29
      rw [xEm, hs]
      first | (refine v_loc [(0, pR (0, 0)), (1, pI s), (2, pI (nI k + 1))] rfl ?_; exact ih (k + 1) _ _ (by omega) (nI_1 k)) | (refine v_loc [(0, pR (0, 0)), (1, pI (s + 1)), (2, pI (nI k + 1))] rfl ?_; exact ih (k + 1) _ _ (by omega) (nI_1 k))
    · refine v_iinc _ dX11_emptyRooms_35 rfl rfl (by decide) ?_
      refine v_goto 4 dX11_emptyRooms_38 (by decide) ?_
      subst c29
      rw [xEm, hs]
      first | (refine v_loc [(0, pR (0, 0)), (1, pI s), (2, pI (nI k + 1))] rfl ?_; exact ih (k + 1) _ _ (by omega) (nI_1 k)) | (refine v_loc [(0, pR (0, 0)), (1, pI (s + 1)), (2, pI (nI k + 1))] rfl ?_; exact ih (k + 1) _ _ (by omega) (nI_1 k))
set_option maxRecDepth 20000 in
theorem m_emptyRooms (g : G0) (h : Hp) (i : XI h) : Mx g yX11_emptyRooms wX11_emptyRooms 3 [pR (0, 0)] h 0 0 (qE (some (pI (xEm h (cn h 10) 0 0))) h) noX := by
  refine Mx.by kfX11_emptyRooms rfl (by decide) (Nat.le_of_ble_eq_true rfl) ?_
  refine v_iconst (0) dX11_emptyRooms_0 (by decide) ?_
  refine v_istore_n dX11_emptyRooms_1 (by decide) ?_
  refine v_iconst (0) dX11_emptyRooms_2 (by decide) ?_
  refine v_istore_n dX11_emptyRooms_3 (by decide) ?_
  refine v_loc [(0, pR (0, 0)), (1, pI 0), (2, pI 0)] rfl ?_
  exact empty_loop g h i (cn h 10) 0 0 0 (by omega) rfl
def xCnt (h : Hp) (k : Nat) : Int32 := match k with
  | 0 => vi h (0, 0) 10
  | 1 => vi h (0, 0) 11
  | 2 => vi h (7, 1) 2
  | 3 => vi h (7, 2) 2
  | 4 => xEm h (cn h 10) 0 0
  | 5 => vi h (5, 0) 1
  | 6 => if vi h (5, 0) 1 = 0 then -1 else vi h (5, 0) 2
  | 7 => vi h (0, 0) 13
  | 8 => vi h (6, 0) 0
  | 9 => (if 2000000000 < vl h (6, 0) 1 then 2000000000 else vl h (6, 0) 1).toInt32
  | 10 => vi h (7, 4) 2
  | 11 => vi h (1, 0) 1
  | _ => -1
def xCount (h : Hp) (k : Int32) : Int32 × Hp := (if k < 0 then -1 else xCnt h k.toNatClampNeg, h)
set_option maxRecDepth 20000 in
theorem m_count0 (g : G0) (h : Hp) (i : XI h) : Mx g yX11_count wX11_count 8 [pR (0, 0), pI (nI 0)] h 0 0 (qE (some (pI (xCnt h 0))) h) noX := by
  have hS := i.1
  refine Mx.by kfX11_count rfl (by decide) (Nat.le_of_ble_eq_true rfl) ?_
  refine v_iload_n dX11_count_0 rfl ?_
  refine v_tableIn 64 dX11_count_1 (by decide) (by decide) (by rfl) (by decide) ?_
  refine v_aload_n dX11_count_64 rfl ?_
  refine v_getI fl_X11_71 dX11_count_65 rfl rfl (Nat.le_of_ble_eq_true rfl) (xh_0_0 hS) ?_
  refine v_ireturn dX11_count_68 rfl rfl ?_
  exact ⟨rfl, rfl⟩
set_option maxRecDepth 20000 in
theorem m_count1 (g : G0) (h : Hp) (i : XI h) : Mx g yX11_count wX11_count 8 [pR (0, 0), pI (nI 1)] h 0 0 (qE (some (pI (xCnt h 1))) h) noX := by
  have hS := i.1
  refine Mx.by kfX11_count rfl (by decide) (Nat.le_of_ble_eq_true rfl) ?_
  refine v_iload_n dX11_count_0 rfl ?_
  refine v_tableIn 69 dX11_count_1 (by decide) (by decide) (by rfl) (by decide) ?_
  refine v_aload_n dX11_count_69 rfl ?_
  refine v_getI fl_X11_107 dX11_count_70 rfl rfl (Nat.le_of_ble_eq_true rfl) (xh_0_0 hS) ?_
  refine v_ireturn dX11_count_73 rfl rfl ?_
  exact ⟨rfl, rfl⟩
set_option maxRecDepth 20000 in
theorem m_count2 (g : G0) (h : Hp) (i : XI h) : Mx g yX11_count wX11_count 8 [pR (0, 0), pI (nI 2)] h 0 0 (qE (some (pI (xCnt h 2))) h) noX := by
  have hS := i.1
  refine Mx.by kfX11_count rfl (by decide) (Nat.le_of_ble_eq_true rfl) ?_
  refine v_iload_n dX11_count_0 rfl ?_
  refine v_tableIn 74 dX11_count_1 (by decide) (by decide) (by rfl) (by decide) ?_
  refine v_aload_n dX11_count_74 rfl ?_
  refine v_getR (some (7, 1)) fl_X11_41 dX11_count_75 rfl rfl (Nat.le_of_ble_eq_true rfl) (xh_0_0 hS) (xr_0_0_4 hS) ?_
  refine v_invVE (m_size g h (xh_7_1 hS)) dX11_count_78 cwJx4a65c_size_8abf5 mlX11_138 (ob_7 _) rfl rfl (by decide) (by decide) (Nat.le_of_ble_eq_true rfl) ?_
  refine v_ireturn dX11_count_81 rfl rfl ?_
  exact ⟨rfl, rfl⟩
set_option maxRecDepth 20000 in
theorem m_count3 (g : G0) (h : Hp) (i : XI h) : Mx g yX11_count wX11_count 8 [pR (0, 0), pI (nI 3)] h 0 0 (qE (some (pI (xCnt h 3))) h) noX := by
  have hS := i.1
  refine Mx.by kfX11_count rfl (by decide) (Nat.le_of_ble_eq_true rfl) ?_
  refine v_iload_n dX11_count_0 rfl ?_
  refine v_tableIn 82 dX11_count_1 (by decide) (by decide) (by rfl) (by decide) ?_
  refine v_aload_n dX11_count_82 rfl ?_
  refine v_getR (some (7, 2)) fl_X11_44 dX11_count_83 rfl rfl (Nat.le_of_ble_eq_true rfl) (xh_0_0 hS) (xr_0_0_5 hS) ?_
  refine v_invVE (m_size g h (xh_7_2 hS)) dX11_count_86 cwJx4a65c_size_8abf5 mlX11_138 (ob_7 _) rfl rfl (by decide) (by decide) (Nat.le_of_ble_eq_true rfl) ?_
  refine v_ireturn dX11_count_89 rfl rfl ?_
  exact ⟨rfl, rfl⟩
set_option maxRecDepth 20000 in
theorem m_count4 (g : G0) (h : Hp) (i : XI h) : Mx g yX11_count wX11_count 8 [pR (0, 0), pI (nI 4)] h 0 0 (qE (some (pI (xCnt h 4))) h) noX := by
  have hS := i.1
  refine Mx.by kfX11_count rfl (by decide) (Nat.le_of_ble_eq_true rfl) ?_
  refine v_iload_n dX11_count_0 rfl ?_
  refine v_tableIn 90 dX11_count_1 (by decide) (by decide) (by rfl) (by decide) ?_
  refine v_aload_n dX11_count_90 rfl ?_
  refine v_invVE (m_emptyRooms g h i) dX11_count_91 cwX11_emptyRooms mlX11_253 (ob_0 _) rfl rfl (by decide) (by decide) (Nat.le_of_ble_eq_true rfl) ?_
  refine v_ireturn dX11_count_94 rfl rfl ?_
  exact ⟨rfl, rfl⟩
set_option maxRecDepth 20000 in
theorem m_count5 (g : G0) (h : Hp) (i : XI h) : Mx g yX11_count wX11_count 8 [pR (0, 0), pI (nI 5)] h 0 0 (qE (some (pI (xCnt h 5))) h) noX := by
  have hS := i.1
  refine Mx.by kfX11_count rfl (by decide) (Nat.le_of_ble_eq_true rfl) ?_
  refine v_iload_n dX11_count_0 rfl ?_
  refine v_tableIn 95 dX11_count_1 (by decide) (by decide) (by rfl) (by decide) ?_
  refine v_aload_n dX11_count_95 rfl ?_
  refine v_getR (some (5, 0)) fl_X11_53 dX11_count_96 rfl rfl (Nat.le_of_ble_eq_true rfl) (xh_0_0 hS) (xr_0_0_7 hS) ?_
  refine v_getI fl_X11_201 dX11_count_99 rfl rfl (Nat.le_of_ble_eq_true rfl) (xh_5_0 hS) ?_
  refine v_ireturn dX11_count_102 rfl rfl ?_
  exact ⟨rfl, rfl⟩
set_option maxRecDepth 20000 in
theorem m_count6 (g : G0) (h : Hp) (i : XI h) : Mx g yX11_count wX11_count 8 [pR (0, 0), pI (nI 6)] h 0 0 (qE (some (pI (xCnt h 6))) h) noX := by
  have hS := i.1
  refine Mx.by kfX11_count rfl (by decide) (Nat.le_of_ble_eq_true rfl) ?_
  refine v_iload_n dX11_count_0 rfl ?_
  refine v_tableIn 103 dX11_count_1 (by decide) (by decide) (by rfl) (by decide) ?_
  refine v_aload_n dX11_count_103 rfl ?_
  refine v_getR (some (5, 0)) fl_X11_53 dX11_count_104 rfl rfl (Nat.le_of_ble_eq_true rfl) (xh_0_0 hS) (xr_0_0_7 hS) ?_
  refine v_getI fl_X11_201 dX11_count_107 rfl rfl (Nat.le_of_ble_eq_true rfl) (xh_5_0 hS) ?_
  refine v_if_ne 117 dX11_count_110 (by decide) (fun c110 => ?_) (fun c110 => ?_)
  · refine v_aload_n dX11_count_117 rfl ?_
    refine v_getR (some (5, 0)) fl_X11_53 dX11_count_118 rfl rfl (Nat.le_of_ble_eq_true rfl) (xh_0_0 hS) (xr_0_0_7 hS) ?_
    refine v_getI fl_X11_256 dX11_count_121 rfl rfl (Nat.le_of_ble_eq_true rfl) (xh_5_0 hS) ?_
    refine v_ireturn dX11_count_124 rfl rfl ?_
    refine ⟨?_, rfl⟩
    show some (pI _) = some (pI (if vi h (5, 0) 1 = 0 then -1 else vi h (5, 0) 2))
    first | rw [if_pos c110] | rw [if_neg c110]
  · refine v_iconst (-1) dX11_count_113 (by decide) ?_
    refine v_goto 124 dX11_count_114 (by decide) ?_
    refine v_ireturn dX11_count_124 rfl rfl ?_
    refine ⟨?_, rfl⟩
    show some (pI _) = some (pI (if vi h (5, 0) 1 = 0 then -1 else vi h (5, 0) 2))
    first | rw [if_pos c110] | rw [if_neg c110]
set_option maxRecDepth 20000 in
theorem m_count7 (g : G0) (h : Hp) (i : XI h) : Mx g yX11_count wX11_count 8 [pR (0, 0), pI (nI 7)] h 0 0 (qE (some (pI (xCnt h 7))) h) noX := by
  have hS := i.1
  refine Mx.by kfX11_count rfl (by decide) (Nat.le_of_ble_eq_true rfl) ?_
  refine v_iload_n dX11_count_0 rfl ?_
  refine v_tableIn 125 dX11_count_1 (by decide) (by decide) (by rfl) (by decide) ?_
  refine v_aload_n dX11_count_125 rfl ?_
  refine v_getI fl_X11_135 dX11_count_126 rfl rfl (Nat.le_of_ble_eq_true rfl) (xh_0_0 hS) ?_
  refine v_ireturn dX11_count_129 rfl rfl ?_
  exact ⟨rfl, rfl⟩
set_option maxRecDepth 20000 in
theorem m_count8 (g : G0) (h : Hp) (i : XI h) : Mx g yX11_count wX11_count 8 [pR (0, 0), pI (nI 8)] h 0 0 (qE (some (pI (xCnt h 8))) h) noX := by
  have hS := i.1
  refine Mx.by kfX11_count rfl (by decide) (Nat.le_of_ble_eq_true rfl) ?_
  refine v_iload_n dX11_count_0 rfl ?_
  refine v_tableIn 130 dX11_count_1 (by decide) (by decide) (by rfl) (by decide) ?_
  refine v_aload_n dX11_count_130 rfl ?_
  refine v_getR (some (6, 0)) fl_X11_63 dX11_count_131 rfl rfl (Nat.le_of_ble_eq_true rfl) (xh_0_0 hS) (xr_0_0_9 hS) ?_
  refine v_getI fl_X11_259 dX11_count_134 rfl rfl (Nat.le_of_ble_eq_true rfl) (xh_6_0 hS) ?_
  refine v_ireturn dX11_count_137 rfl rfl ?_
  exact ⟨rfl, rfl⟩
set_option maxRecDepth 20000 in
theorem m_count9 (g : G0) (h : Hp) (i : XI h) : Mx g yX11_count wX11_count 8 [pR (0, 0), pI (nI 9)] h 0 0 (qE (some (pI (xCnt h 9))) h) noX := by
  have hS := i.1
  refine Mx.by kfX11_count rfl (by decide) (Nat.le_of_ble_eq_true rfl) ?_
  refine v_iload_n dX11_count_0 rfl ?_
  refine v_tableIn 138 dX11_count_1 (by decide) (by decide) (by rfl) (by decide) ?_
  refine v_aload_n dX11_count_138 rfl ?_
  refine v_getR (some (6, 0)) fl_X11_63 dX11_count_139 rfl rfl (Nat.le_of_ble_eq_true rfl) (xh_0_0 hS) (xr_0_0_9 hS) ?_
  refine v_getL fl_X11_262 dX11_count_142 rfl rfl (Nat.le_of_ble_eq_true rfl) (xh_6_0 hS) ?_
  refine v_ldc2 (2000000000) dX11_count_145 ctX11_266 ?_
  refine v_mminL dX11_count_148 mlX11_268 (by decide) (Nat.le_of_ble_eq_true rfl) ?_
  refine v_l2i dX11_count_151 ?_
  refine v_ireturn dX11_count_152 rfl rfl ?_
  exact ⟨rfl, rfl⟩
set_option maxRecDepth 20000 in
theorem m_count10 (g : G0) (h : Hp) (i : XI h) : Mx g yX11_count wX11_count 8 [pR (0, 0), pI (nI 10)] h 0 0 (qE (some (pI (xCnt h 10))) h) noX := by
  have hS := i.1
  refine Mx.by kfX11_count rfl (by decide) (Nat.le_of_ble_eq_true rfl) ?_
  refine v_iload_n dX11_count_0 rfl ?_
  refine v_tableIn 153 dX11_count_1 (by decide) (by decide) (by rfl) (by decide) ?_
  refine v_aload_n dX11_count_153 rfl ?_
  refine v_getR (some (7, 4)) fl_X11_57 dX11_count_154 rfl rfl (Nat.le_of_ble_eq_true rfl) (xh_0_0 hS) (xr_0_0_8 hS) ?_
  refine v_invVE (m_size g h (xh_7_4 hS)) dX11_count_157 cwJx4a65c_size_8abf5 mlX11_138 (ob_7 _) rfl rfl (by decide) (by decide) (Nat.le_of_ble_eq_true rfl) ?_
  refine v_ireturn dX11_count_160 rfl rfl ?_
  exact ⟨rfl, rfl⟩
set_option maxRecDepth 20000 in
theorem m_count11 (g : G0) (h : Hp) (i : XI h) : Mx g yX11_count wX11_count 8 [pR (0, 0), pI (nI 11)] h 0 0 (qE (some (pI (xCnt h 11))) h) noX := by
  have hS := i.1
  refine Mx.by kfX11_count rfl (by decide) (Nat.le_of_ble_eq_true rfl) ?_
  refine v_iload_n dX11_count_0 rfl ?_
  refine v_tableIn 161 dX11_count_1 (by decide) (by decide) (by rfl) (by decide) ?_
  refine v_aload_n dX11_count_161 rfl ?_
  refine v_getR (some (1, 0)) fl_X11_12 dX11_count_162 rfl rfl (Nat.le_of_ble_eq_true rfl) (xh_0_0 hS) (xr_0_0_0 hS) ?_
  refine v_getI fl_X11_81 dX11_count_165 rfl rfl (Nat.le_of_ble_eq_true rfl) (xh_1_0 hS) ?_
  refine v_ireturn dX11_count_168 rfl rfl ?_
  exact ⟨rfl, rfl⟩
set_option maxRecDepth 20000 in
theorem m_countO (g : G0) (h : Hp) (i : XI h) {k : Int32} (ko : k.toInt < 0 ∨ 11 < k.toInt) : Mx g yX11_count wX11_count 8 [pR (0, 0), pI k] h 0 0 (qE (some (pI (-1))) h) noX := by
  have hS := i.1
  refine Mx.by kfX11_count rfl (by decide) (Nat.le_of_ble_eq_true rfl) ?_
  refine v_iload_n dX11_count_0 rfl ?_
  refine v_tableOut 169 dX11_count_1 ko (by decide) ?_
  refine v_iconst (-1) dX11_count_169 (by decide) ?_
  refine v_ireturn dX11_count_170 rfl rfl ?_
  exact ⟨rfl, rfl⟩
theorem m_count (g : G0) (h : Hp) (i : XI h) {k : Int32} : Mx g yX11_count wX11_count 8 [pR (0, 0), pI k] h 0 0 (qE (some (pI (xCount h k).1)) (xCount h k).2) noX := by
  by_cases c : k < 0
  · have e : xCount h k = (-1, h) := by simp only [xCount, if_pos c]
    rw [e]
    exact m_countO g h i (Or.inl (Int32.lt_iff_toInt_lt.mp c))
  · obtain ⟨j, hj, rfl⟩ := nI_of c
    have e : xCount h (nI j) = (xCnt h j, h) := by simp only [xCount, if_neg c, nI_clamp hj]
    rw [e]
    by_cases l : 11 < j
    · have e2 : xCnt h j = -1 := by
        obtain ⟨t, rfl⟩ : ∃ t, j = t + 12 := ⟨j - 12, by omega⟩
        rfl
      rw [e2]
      exact m_countO g h i (Or.inr (by rw [nI_toInt hj]; omega))
    · have : j = 0 ∨ j = 1 ∨ j = 2 ∨ j = 3 ∨ j = 4 ∨ j = 5 ∨ j = 6 ∨ j = 7 ∨ j = 8 ∨ j = 9 ∨ j = 10 ∨ j = 11 := by omega
      rcases this with rfl | rfl | rfl | rfl | rfl | rfl | rfl | rfl | rfl | rfl | rfl | rfl
      · exact m_count0 g h i
      · exact m_count1 g h i
      · exact m_count2 g h i
      · exact m_count3 g h i
      · exact m_count4 g h i
      · exact m_count5 g h i
      · exact m_count6 g h i
      · exact m_count7 g h i
      · exact m_count8 g h i
      · exact m_count9 g h i
      · exact m_count10 g h i
      · exact m_count11 g h i
