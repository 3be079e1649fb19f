theorem okP9 {p k : Nat} (hk : k ≠ 6) : okP (9, p) k := ⟨fun z => (by cases z), fun _ => hk, fun z => (by cases z), fun z => (by cases z), fun z => (by cases z)⟩
def mnH (h : Hp) (p : Nat) (d v : Int32) : Hp := sI (sI (sI h (18, p) (vi h (9, p) 6).toNatClampNeg d) (19, p) (vi h (9, p) 6).toNatClampNeg v) (9, p) 6 (vi h (9, p) 6 + 1)
def xMeans (h : Hp) (p d v : Int32) : Int32 × Hp := match xPer h p with
  | none => (-1, xT h 1)
  | some a => if xDy d = 0 then (-1, xT h 2) else if v < 0 then (-1, xT h 2) else if v ≤ 9999 then (if vi h a 6 < 6 then (vi (mnH h a.2 d v) a 6, xT (mnH h a.2 d v) 0) else (-1, xT h 3)) else (-1, xT h 2)
theorem m_tellM (g : G0) (h : Hp) (hP : PSh h) {p : Nat} (hp : p < cn h 9) (hl : vi h (9, p) 6 < 6) {day v : Int32} : Mx g yX3_tellMeans wX3_tellMeans 0 [pR (9, p), pI day, pI v] h 0 0 (qE none (mnH h p day v)) noX := by
  obtain ⟨-, -, -, t, ht, htv⟩ := hP p hp
  have l : t < 6 := by rw [htv] at hl; exact (nI_ltI (by omega) (by decide)).mp hl
  have := m_tellMeans g h hP hp l htv (day := day) (v := v)
  have e : mnH h p day v = sI (sI (sI h (18, p) t day) (19, p) t v) (9, p) 6 (nI t + 1) := by unfold mnH; rw [htv, nI_clamp (by omega)]
  rw [e]; exact this
set_option maxRecDepth 20000 in
theorem m_means (g : G0) (h : Hp) (i : XI h) {p d v : Int32} : Mx g yX11_means wX11_means 8 [pR (0, 0), pI p, pI d, pI v] h 0 0 (qE (some (pI (xMeans h p d v).1)) (xMeans h p d v).2) noX := by
  have hS := i.1
  obtain ⟨o, ho⟩ : ∃ o, xPer h p = o := ⟨_, rfl⟩
  have ce := m_personAt g h i (p := p)
  rw [ho] at ce
  refine Mx.by kfX11_means rfl (by decide) (Nat.le_of_ble_eq_true rfl) ?_
  refine v_aload_n dX11_means_0 rfl ?_
  refine v_iload_n dX11_means_1 rfl ?_
  refine v_invVE (ce) dX11_means_2 cwX11_personAt mlX11_150 (ob_0 _) rfl rfl (by decide) (by decide) (Nat.le_of_ble_eq_true rfl) ?_
  refine v_astore dX11_means_5 (by decide) ?_
  refine v_aload dX11_means_7 rfl ?_
  refine v_ifnonnull 18 dX11_means_9 (by decide) (fun c9 => ?_) (fun a9 c9 => ?_)
  · refine v_aload_n dX11_means_12 rfl ?_
    refine v_iconst (1) dX11_means_13 (by decide) ?_
    refine v_invVE (m_refuse g h hS) dX11_means_14 cwX11_refuse mlX11_74 (ob_0 _) rfl rfl (by decide) (by decide) (Nat.le_of_ble_eq_true rfl) ?_
    refine v_ireturn dX11_means_17 rfl rfl ?_
    first | (subst c9; refine ⟨?_, ?_⟩ <;> (simp only [xMeans, ho]; done)) | (refine ⟨?_, ?_⟩ <;> (simp only [xMeans, ho]; done))
  · subst c9
    obtain ⟨a1, a2⟩ := a9
    obtain ⟨e1, a2lt, e3⟩ := xPer_ok i ho
    obtain rfl : a1 = 9 := e1
    refine v_iload_n dX11_means_18 rfl ?_
    refine v_invSE (m_isDay g h) dX11_means_19 cwX11_isDay mlX11_92 rfl rfl (by decide) (by decide) (Nat.le_of_ble_eq_true rfl) ?_
    refine v_if_eq 36 dX11_means_22 (by decide) (fun c22 => ?_) (fun c22 => ?_)
    · refine v_aload_n dX11_means_36 rfl ?_
      refine v_iconst (2) dX11_means_37 (by decide) ?_
      refine v_invVE (m_refuse g h hS) dX11_means_38 cwX11_refuse mlX11_74 (ob_0 _) rfl rfl (by decide) (by decide) (Nat.le_of_ble_eq_true rfl) ?_
      refine v_ireturn dX11_means_41 rfl rfl ?_
      first | (subst c9; refine ⟨?_, ?_⟩ <;> (simp only [xMeans, ho, if_pos c22]; done)) | (refine ⟨?_, ?_⟩ <;> (simp only [xMeans, ho, if_pos c22]; done))
    · refine v_iload_n dX11_means_25 rfl ?_
      refine v_if_lt 36 dX11_means_26 (by decide) (fun c26 => ?_) (fun c26 => ?_)
      · refine v_aload_n dX11_means_36 rfl ?_
        refine v_iconst (2) dX11_means_37 (by decide) ?_
        refine v_invVE (m_refuse g h hS) dX11_means_38 cwX11_refuse mlX11_74 (ob_0 _) rfl rfl (by decide) (by decide) (Nat.le_of_ble_eq_true rfl) ?_
        refine v_ireturn dX11_means_41 rfl rfl ?_
        first | (subst c9; refine ⟨?_, ?_⟩ <;> (simp only [xMeans, ho, if_neg c22, if_pos c26]; done)) | (refine ⟨?_, ?_⟩ <;> (simp only [xMeans, ho, if_neg c22, if_pos c26]; done))
      · refine v_iload_n dX11_means_29 rfl ?_
        refine v_sipush (9999) dX11_means_30 (by decide) ?_
        refine v_icmp_le 42 dX11_means_33 (by decide) (fun c33 => ?_) (fun c33 => ?_)
        · refine v_aload dX11_means_42 rfl ?_
          refine v_getI fl_X11_154 dX11_means_44 rfl rfl (Nat.le_of_ble_eq_true rfl) a2lt ?_
          refine v_bipush (6) dX11_means_47 (by decide) ?_
          refine v_icmp_lt 58 dX11_means_49 (by decide) (fun c49 => ?_) (fun c49 => ?_)
          · refine v_aload dX11_means_58 rfl ?_
            refine v_iload_n dX11_means_60 rfl ?_
            refine v_iload_n dX11_means_61 rfl ?_
            refine v_invVE (m_tellM g h i.ps a2lt c49) dX11_means_62 cwX3_tellMeans mlX11_157 (ob_9 _) rfl rfl (by decide) (by decide) (Nat.le_of_ble_eq_true rfl) ?_
            refine v_aload_n dX11_means_65 rfl ?_
            refine v_aload dX11_means_66 rfl ?_
            refine v_getI fl_X11_154 dX11_means_68 rfl rfl (Nat.le_of_ble_eq_true rfl) a2lt ?_
            refine v_invVE (m_accept g (mnH h a2 d v) hS) dX11_means_71 cwX11_accept mlX11_78 (ob_0 _) rfl rfl (by decide) (by decide) (Nat.le_of_ble_eq_true rfl) ?_
            refine v_ireturn dX11_means_74 rfl rfl ?_
            first | (subst c9; refine ⟨?_, ?_⟩ <;> (simp only [xMeans, ho, if_neg c22, if_neg c26, if_pos c33, if_pos c49]; done)) | (refine ⟨?_, ?_⟩ <;> (simp only [xMeans, ho, if_neg c22, if_neg c26, if_pos c33, if_pos c49]; done))
          · refine v_aload_n dX11_means_52 rfl ?_
            refine v_iconst (3) dX11_means_53 (by decide) ?_
            refine v_invVE (m_refuse g h hS) dX11_means_54 cwX11_refuse mlX11_74 (ob_0 _) rfl rfl (by decide) (by decide) (Nat.le_of_ble_eq_true rfl) ?_
            refine v_ireturn dX11_means_57 rfl rfl ?_
            first | (subst c9; refine ⟨?_, ?_⟩ <;> (simp only [xMeans, ho, if_neg c22, if_neg c26, if_pos c33, if_neg c49]; done)) | (refine ⟨?_, ?_⟩ <;> (simp only [xMeans, ho, if_neg c22, if_neg c26, if_pos c33, if_neg c49]; done))
        · refine v_aload_n dX11_means_36 rfl ?_
          refine v_iconst (2) dX11_means_37 (by decide) ?_
          refine v_invVE (m_refuse g h hS) dX11_means_38 cwX11_refuse mlX11_74 (ob_0 _) rfl rfl (by decide) (by decide) (Nat.le_of_ble_eq_true rfl) ?_
          refine v_ireturn dX11_means_41 rfl rfl ?_
          first | (subst c9; refine ⟨?_, ?_⟩ <;> (simp only [xMeans, ho, if_neg c22, if_neg c26, if_neg c33]; done)) | (refine ⟨?_, ?_⟩ <;> (simp only [xMeans, ho, if_neg c22, if_neg c26, if_neg c33]; done))
def xEmp1 (h : Hp) (r s : Ad) : Hp := sR (sI (sI (sI h (9, (vi h s 1).toNatClampNeg) 8 (-1)) (9, (vi h s 1).toNatClampNeg) 9 0) s 3 (vi h (0, 0) 13)) r 1 none
def xEmpty (h : Hp) (r : Option Ad) : Hp := match r with
  | none => h
  | some a => match vr h a 1 with
    | none => h
    | some s => xEmp1 h a s
theorem xPer_in {h : Hp} (i : XI h) {q : Nat} (hq : q < cn h 9) : xPer h (nI q) = some (9, q) := by
  have := i.le
  rw [xPer, if_neg (nI_pos (by omega)), i.a1.1, if_neg (nI_ge hq (by omega)), nI_clamp (by omega)]
theorem xRoo_in {h : Hp} (i : XI h) {q : Nat} (hq : q < cn h 10) : xRoo h (nI q) = some (10, q) := by
  have := i.le
  rw [xRoo, if_neg (nI_pos (by omega)), i.a2.1, if_neg (nI_ge hq (by omega)), nI_clamp (by omega)]
set_option maxRecDepth 20000 in
theorem m_empty0 (g : G0) (h : Hp) (i : XI h) : Mx g yX11_empty wX11_empty 4 [pR (0, 0), pN] h 0 0 (qE none (xEmpty h none)) noX := by
  refine Mx.by kfX11_empty rfl (by decide) (Nat.le_of_ble_eq_true rfl) ?_
  refine v_aload_n dX11_empty_0 rfl ?_
  refine v_ifnull 11 dX11_empty_1 (by decide) (fun _ => ?_) (fun _ z => by cases z)
  refine v_return dX11_empty_11 rfl ?_
  exact ⟨rfl, rfl⟩
set_option maxRecDepth 20000 in
theorem m_empty1 (g : G0) (h : Hp) (i : XI h) {r : Nat} (hr : r < cn h 10) (hs : vr h (10, r) 1 = none) : Mx g yX11_empty wX11_empty 4 [pR (0, 0), pR (10, r)] h 0 0 (qE none (xEmpty h (some (10, r)))) noX := by
  refine Mx.by kfX11_empty rfl (by decide) (Nat.le_of_ble_eq_true rfl) ?_
  refine v_aload_n dX11_empty_0 rfl ?_
  refine v_ifnull 11 dX11_empty_1 (by decide) (fun z => by cases z) (fun _ _ => ?_)
  refine v_aload_n dX11_empty_4 rfl ?_
  refine v_getR (none) fl_X11_207 dX11_empty_5 rfl rfl (Nat.le_of_ble_eq_true rfl) hr hs ?_
  refine v_ifnonnull 12 dX11_empty_8 (by decide) (fun _ => ?_) (fun _ z => by cases z)
  refine v_return dX11_empty_11 rfl ?_
  exact ⟨rfl, by simp only [xEmpty, hs]⟩
set_option maxRecDepth 20000 in
theorem m_empty2 (g : G0) (h : Hp) (i : XI h) {r s2 : Nat} (hr : r < cn h 10) (hs : vr h (10, r) 1 = some (11, s2)) (s2lt : s2 < cn h 11) : Mx g yX11_empty wX11_empty 4 [pR (0, 0), pR (10, r)] h 0 0 (qE none (xEmpty h (some (10, r)))) noX := by
  have hS := i.1
  have le := i.le
  obtain ⟨q, hq, hqv⟩ := i.ss s2 s2lt
  have ncl : (vi h (11, s2) 1).toNatClampNeg = q := by rw [hqv, nI_clamp (by omega)]
  have ce := m_personAt g h i (p := vi h (11, s2) 1)
  rw [hqv, xPer_in i hq] at ce
  have e13 : vi (sI (sI h (9, q) 8 (-1)) (9, q) 9 0) (0, 0) 13 = vi h (0, 0) 13 := by rw [vi_sI, if_neg (fun z => by cases z.1), vi_sI, if_neg (fun z => by cases z.1)]
  refine Mx.by kfX11_empty rfl (by decide) (Nat.le_of_ble_eq_true rfl) ?_
  refine v_aload_n dX11_empty_0 rfl ?_
  refine v_ifnull 11 dX11_empty_1 (by decide) (fun z => by cases z) (fun _ _ => ?_)
  refine v_aload_n dX11_empty_4 rfl ?_
  refine v_getR (some (11, s2)) fl_X11_207 dX11_empty_5 rfl rfl (Nat.le_of_ble_eq_true rfl) hr hs ?_
  refine v_ifnonnull 12 dX11_empty_8 (by decide) (fun z => by cases z) (fun _ _ => ?_)
  refine v_aload_n dX11_empty_12 rfl ?_
  refine v_aload_n dX11_empty_13 rfl ?_
  refine v_getR (some (11, s2)) fl_X11_207 dX11_empty_14 rfl rfl (Nat.le_of_ble_eq_true rfl) hr hs ?_
  refine v_getI fl_X11_227 dX11_empty_17 rfl rfl (Nat.le_of_ble_eq_true rfl) s2lt ?_
  rw [hqv]
  refine v_invVE (ce) dX11_empty_20 cwX11_personAt mlX11_150 (ob_0 _) rfl rfl (by decide) (by decide) (Nat.le_of_ble_eq_true rfl) ?_
  refine v_astore_n dX11_empty_23 (by decide) ?_
  refine v_aload_n dX11_empty_24 rfl ?_
  refine v_ifnull 38 dX11_empty_25 (by decide) (fun z => by cases z) (fun _ _ => ?_)
  refine v_aload_n dX11_empty_28 rfl ?_
  refine v_iconst (-1) dX11_empty_29 (by decide) ?_
  refine v_putI fl_X11_164 (fun z => by cases z) dX11_empty_30 rfl rfl (Nat.le_of_ble_eq_true rfl) rfl rfl hq ?_
  refine v_aload_n dX11_empty_33 rfl ?_
  refine v_iconst (0) dX11_empty_34 (by decide) ?_
  refine v_putI fl_X11_247 (fun z => by cases z) dX11_empty_35 rfl rfl (Nat.le_of_ble_eq_true rfl) rfl rfl hq ?_
  refine v_aload_n dX11_empty_38 rfl ?_
  refine v_getR (some (11, s2)) fl_X11_207 dX11_empty_39 rfl rfl (Nat.le_of_ble_eq_true rfl) hr hs ?_
  refine v_aload_n dX11_empty_42 rfl ?_
  refine v_getI fl_X11_135 dX11_empty_43 rfl rfl (Nat.le_of_ble_eq_true rfl) (xh_0_0 hS) ?_
  rw [e13]
  refine v_putI fl_X11_234 (fun z => by cases z) dX11_empty_46 rfl rfl (Nat.le_of_ble_eq_true rfl) rfl rfl s2lt ?_
  refine v_aload_n dX11_empty_49 rfl ?_
  refine v_null dX11_empty_50 ?_
  refine v_putR fl_X11_207 (fun z => by cases z) dX11_empty_51 rfl rfl (Nat.le_of_ble_eq_true rfl) rfl hr ?_
  refine v_return dX11_empty_54 rfl ?_
  exact ⟨rfl, by simp only [xEmpty, hs, xEmp1, ncl]⟩
theorem m_empty (g : G0) (h : Hp) (i : XI h) {o : Option Ad} (ho : ∀ a, o = some a → a.1 = 10 ∧ a.2 < cn h 10) : Mx g yX11_empty wX11_empty 4 [pR (0, 0), pO o] h 0 0 (qE none (xEmpty h o)) noX := by
  cases o with
  | none => exact m_empty0 g h i
  | some a =>
    obtain ⟨e1, hr⟩ := ho a rfl
    obtain ⟨a1, r⟩ := a
    obtain rfl : a1 = 10 := e1
    cases hs : vr h (10, r) 1 with
    | none => exact m_empty1 g h i hr hs
    | some s =>
      obtain ⟨f1, s2lt⟩ := i.rs r hr _ hs
      obtain ⟨s1, s2⟩ := s
      obtain rfl : s1 = 11 := f1
      exact m_empty2 g h i hr hs s2lt
theorem SXempty {h : Hp} (i : XI h) {o : Option Ad} (ho : ∀ a, o = some a → a.1 = 10 ∧ a.2 < cn h 10) : SX (xEmpty h o) := by
  cases o with
  | none => exact i.1
  | some a =>
    obtain ⟨e1, hr⟩ := ho a rfl
    obtain ⟨a1, r⟩ := a
    obtain rfl : a1 = 10 := e1
    cases hs : vr h (10, r) 1 with
    | none => simp only [xEmpty, hs]; exact i.1
    | some s =>
      simp only [xEmpty, hs]
      have hn : ∀ q ∈ xR, q.1 ≠ ((10, r), 1) := fun q hq z => by
        have : ∀ q ∈ xR, q.1.1.1 ≠ 10 := by decide
        exact this q hq (by rw [z])
      exact SX.sR (SX.sI (SX.sI (SX.sI i.1))) hn
theorem xRoo_okp {h : Hp} (i : XI h) {p : Int32} : ∀ a, xRoo h p = some a → a.1 = 10 ∧ a.2 < cn h 10 := fun a ha => ⟨(xRoo_ok i ha).1, (xRoo_ok i ha).2.1⟩
def diH (h : Hp) (p : Nat) : Hp := sI h (9, p) 7 (vi h (0, 0) 13)
theorem XIdi {h : Hp} (i : XI h) (p : Nat) : XI (diH h p) := XIsI i (a := (9, p)) (k := 7) (okP9 (by decide))
def xDies (h : Hp) (p : Int32) : Int32 × Hp := match xPer h p with
  | none => (0, xT h 1)
  | some a => if vi h a 7 = 2147483647 then (1, xT (xEmpty (diH h a.2) (xRoo (diH h a.2) (vi (diH h a.2) (9, a.2) 8))) 0) else (0, xT h 5)
set_option maxRecDepth 20000 in
theorem m_dies (g : G0) (h : Hp) (i : XI h) {p : Int32} : Mx g yX11_dies wX11_dies 8 [pR (0, 0), pI p] h 0 0 (qE (some (pI (xDies h p).1)) (xDies h p).2) noX := by
  have hS := i.1
  obtain ⟨o, ho⟩ : ∃ o, xPer h p = o := ⟨_, rfl⟩
  have ce := m_personAt g h i (p := p)
  rw [ho] at ce
  refine Mx.by kfX11_dies rfl (by decide) (Nat.le_of_ble_eq_true rfl) ?_
  refine v_aload_n dX11_dies_0 rfl ?_
  refine v_iload_n dX11_dies_1 rfl ?_
  refine v_invVE (ce) dX11_dies_2 cwX11_personAt mlX11_150 (ob_0 _) rfl rfl (by decide) (by decide) (Nat.le_of_ble_eq_true rfl) ?_
  refine v_astore_n dX11_dies_5 (by decide) ?_
  refine v_aload_n dX11_dies_6 rfl ?_
  refine v_ifnonnull 18 dX11_dies_7 (by decide) (fun c7 => ?_) (fun a7 c7 => ?_)
  · refine v_aload_n dX11_dies_10 rfl ?_
    refine v_iconst (1) dX11_dies_11 (by decide) ?_
    refine v_invVE (m_refuse g h hS) dX11_dies_12 cwX11_refuse mlX11_74 (ob_0 _) rfl rfl (by decide) (by decide) (Nat.le_of_ble_eq_true rfl) ?_
    refine v_pop dX11_dies_15 rfl ?_
    refine v_iconst (0) dX11_dies_16 (by decide) ?_
    refine v_ireturn dX11_dies_17 rfl rfl ?_
    first | (subst c7; refine ⟨?_, ?_⟩ <;> (simp only [xDies, ho]; done)) | (refine ⟨?_, ?_⟩ <;> (simp only [xDies, ho]; done))
  · subst c7
    obtain ⟨a1, a2⟩ := a7
    obtain ⟨e1, a2lt, e3⟩ := xPer_ok i ho
    obtain rfl : a1 = 9 := e1
    refine v_aload_n dX11_dies_18 rfl ?_
    refine v_getI fl_X11_160 dX11_dies_19 rfl rfl (Nat.le_of_ble_eq_true rfl) a2lt ?_
    refine v_ldc (2147483647) dX11_dies_22 ctX11_163 ?_
    refine v_icmp_eq 35 dX11_dies_24 (by decide) (fun c24 => ?_) (fun c24 => ?_)
    · refine v_aload_n dX11_dies_35 rfl ?_
      refine v_aload_n dX11_dies_36 rfl ?_
      refine v_getI fl_X11_135 dX11_dies_37 rfl rfl (Nat.le_of_ble_eq_true rfl) (xh_0_0 hS) ?_
      refine v_putI fl_X11_160 (fun z => by cases z) dX11_dies_40 rfl rfl (Nat.le_of_ble_eq_true rfl) rfl rfl a2lt ?_
      have i2 := XIdi i a2
      change V g _ _ _ _ _ _ _ (diH h a2) _ _
      refine v_aload_n dX11_dies_43 rfl ?_
      refine v_aload_n dX11_dies_44 rfl ?_
      refine v_aload_n dX11_dies_45 rfl ?_
      refine v_getI fl_X11_164 dX11_dies_46 rfl rfl (Nat.le_of_ble_eq_true rfl) a2lt ?_
      refine v_invVE (m_roomAt g (diH h a2) i2) dX11_dies_49 cwX11_roomAt mlX11_167 (ob_0 _) rfl rfl (by decide) (by decide) (Nat.le_of_ble_eq_true rfl) ?_
      refine v_invVE (m_empty g (diH h a2) i2 (xRoo_okp i2)) dX11_dies_52 cwX11_empty mlX11_171 (ob_0 _) rfl rfl (by decide) (by decide) (Nat.le_of_ble_eq_true rfl) ?_
      refine v_aload_n dX11_dies_55 rfl ?_
      refine v_iconst (0) dX11_dies_56 (by decide) ?_
      refine v_invVE (m_accept g (xEmpty (diH h a2) (xRoo (diH h a2) (vi (diH h a2) (9, a2) 8))) (SXempty i2 (xRoo_okp i2))) dX11_dies_57 cwX11_accept mlX11_78 (ob_0 _) rfl rfl (by decide) (by decide) (Nat.le_of_ble_eq_true rfl) ?_
      refine v_pop dX11_dies_60 rfl ?_
      refine v_iconst (1) dX11_dies_61 (by decide) ?_
      refine v_ireturn dX11_dies_62 rfl rfl ?_
      first | (subst c7; refine ⟨?_, ?_⟩ <;> (simp only [xDies, ho, if_pos c24]; done)) | (refine ⟨?_, ?_⟩ <;> (simp only [xDies, ho, if_pos c24]; done))
    · refine v_aload_n dX11_dies_27 rfl ?_
      refine v_iconst (5) dX11_dies_28 (by decide) ?_
      refine v_invVE (m_refuse g h hS) dX11_dies_29 cwX11_refuse mlX11_74 (ob_0 _) rfl rfl (by decide) (by decide) (Nat.le_of_ble_eq_true rfl) ?_
      refine v_pop dX11_dies_32 rfl ?_
      refine v_iconst (0) dX11_dies_33 (by decide) ?_
      refine v_ireturn dX11_dies_34 rfl rfl ?_
      first | (subst c7; refine ⟨?_, ?_⟩ <;> (simp only [xDies, ho, if_neg c24]; done)) | (refine ⟨?_, ?_⟩ <;> (simp only [xDies, ho, if_neg c24]; done))
def xLeave (h : Hp) (r : Int32) : Int32 × Hp := match xRoo h r with
  | none => (-1, xT h 1)
  | some a => match vr h a 1 with
    | none => (-1, xT h 6)
    | some s => (vi h s 1, xT (xEmpty h (some a)) 0)
set_option maxRecDepth 20000 in
theorem m_leave (g : G0) (h : Hp) (i : XI h) {r : Int32} : Mx g yX11_leave wX11_leave 8 [pR (0, 0), pI r] h 0 0 (qE (some (pI (xLeave h r).1)) (xLeave h r).2) noX := by
  have hS := i.1
  obtain ⟨o, ho⟩ : ∃ o, xRoo h r = o := ⟨_, rfl⟩
  have ce := m_roomAt g h i (p := r)
  rw [ho] at ce
  refine Mx.by kfX11_leave rfl (by decide) (Nat.le_of_ble_eq_true rfl) ?_
  refine v_aload_n dX11_leave_0 rfl ?_
  refine v_iload_n dX11_leave_1 rfl ?_
  refine v_invVE (ce) dX11_leave_2 cwX11_roomAt mlX11_167 (ob_0 _) rfl rfl (by decide) (by decide) (Nat.le_of_ble_eq_true rfl) ?_
  refine v_astore_n dX11_leave_5 (by decide) ?_
  refine v_aload_n dX11_leave_6 rfl ?_
  refine v_ifnonnull 16 dX11_leave_7 (by decide) (fun c7 => ?_) (fun a7 c7 => ?_)
  · refine v_aload_n dX11_leave_10 rfl ?_
    refine v_iconst (1) dX11_leave_11 (by decide) ?_
    refine v_invVE (m_refuse g h hS) dX11_leave_12 cwX11_refuse mlX11_74 (ob_0 _) rfl rfl (by decide) (by decide) (Nat.le_of_ble_eq_true rfl) ?_
    refine v_ireturn dX11_leave_15 rfl rfl ?_
    first | (subst c7; refine ⟨?_, ?_⟩ <;> (simp only [xLeave, ho]; done)) | (subst c20; refine ⟨?_, ?_⟩ <;> (simp only [xLeave, ho, hs]; done)) | (refine ⟨?_, ?_⟩ <;> (simp only [xLeave, ho, hs]; done))
  · subst c7
    obtain ⟨a1, a2⟩ := a7
    obtain ⟨e1, a2lt, e3⟩ := xRoo_ok i ho
    obtain rfl : a1 = 10 := e1
    obtain ⟨os, hs⟩ : ∃ os, vr h (10, a2) 1 = os := ⟨_, rfl⟩
    have hro : ∀ a, some ((10, a2) : Ad) = some a → a.1 = 10 ∧ a.2 < cn h 10 := fun a z => by cases z; exact ⟨rfl, a2lt⟩
    refine v_aload_n dX11_leave_16 rfl ?_
    refine v_getR (os) fl_X11_207 dX11_leave_17 rfl rfl (Nat.le_of_ble_eq_true rfl) a2lt hs ?_
    refine v_ifnonnull 30 dX11_leave_20 (by decide) (fun c20 => ?_) (fun a20 c20 => ?_)
    · refine v_aload_n dX11_leave_23 rfl ?_
      refine v_bipush (6) dX11_leave_24 (by decide) ?_
      refine v_invVE (m_refuse g h hS) dX11_leave_26 cwX11_refuse mlX11_74 (ob_0 _) rfl rfl (by decide) (by decide) (Nat.le_of_ble_eq_true rfl) ?_
      refine v_ireturn dX11_leave_29 rfl rfl ?_
      first | (subst c7; refine ⟨?_, ?_⟩ <;> (simp only [xLeave, ho]; done)) | (subst c20; refine ⟨?_, ?_⟩ <;> (simp only [xLeave, ho, hs]; done)) | (refine ⟨?_, ?_⟩ <;> (simp only [xLeave, ho, hs]; done))
    · subst c20
      obtain ⟨s1, s2⟩ := a20
      obtain ⟨f1, s2lt⟩ := i.rs a2 a2lt _ hs
      obtain rfl : s1 = 11 := f1
      refine v_aload_n dX11_leave_30 rfl ?_
      refine v_getR (some (11, s2)) fl_X11_207 dX11_leave_31 rfl rfl (Nat.le_of_ble_eq_true rfl) a2lt hs ?_
      refine v_getI fl_X11_227 dX11_leave_34 rfl rfl (Nat.le_of_ble_eq_true rfl) s2lt ?_
      refine v_istore_n dX11_leave_37 (by decide) ?_
      refine v_aload_n dX11_leave_38 rfl ?_
      refine v_aload_n dX11_leave_39 rfl ?_
      refine v_invVE (m_empty g h i hro) dX11_leave_40 cwX11_empty mlX11_171 (ob_0 _) rfl rfl (by decide) (by decide) (Nat.le_of_ble_eq_true rfl) ?_
      refine v_aload_n dX11_leave_43 rfl ?_
      refine v_iload_n dX11_leave_44 rfl ?_
      refine v_invVE (m_accept g (xEmpty h (some (10, a2))) (SXempty i hro)) dX11_leave_45 cwX11_accept mlX11_78 (ob_0 _) rfl rfl (by decide) (by decide) (Nat.le_of_ble_eq_true rfl) ?_
      refine v_ireturn dX11_leave_48 rfl rfl ?_
      first | (subst c7; refine ⟨?_, ?_⟩ <;> (simp only [xLeave, ho]; done)) | (subst c20; refine ⟨?_, ?_⟩ <;> (simp only [xLeave, ho, hs]; done)) | (refine ⟨?_, ?_⟩ <;> (simp only [xLeave, ho, hs]; done))
def ldD (h : Hp) (i : Nat) (day : Int32) : Int32 := if vi h (12, i) 1 ≤ 0 then 0 else if day < vi h (12, i) 2 then 0 else if day - vi h (12, i) 2 - (day - vi h (12, i) 2) / vi h (12, i) 1 * vi h (12, i) 1 = 0 then 1 else 0
set_option maxRecDepth 20000 in
theorem m_due (g : G0) (h : Hp) {i : Nat} (hi : i < cn h 12) {day : Int32} : Mx g yX2_isDueOn wX2_isDueOn 0 [pR (12, i), pI day] h 0 0 (qE (some (pI (ldD h i day))) h) noX := by
  refine Mx.by kfX2_isDueOn rfl (by decide) (Nat.le_of_ble_eq_true rfl) ?_
  refine v_aload_n dX2_isDueOn_0 rfl ?_
  refine v_getI fl_X2_13 dX2_isDueOn_1 rfl rfl (Nat.le_of_ble_eq_true rfl) hi ?_
  refine v_if_le 33 dX2_isDueOn_4 (by decide) (fun c4 => ?_) (fun c4 => ?_)
  · refine v_iconst (0) dX2_isDueOn_33 (by decide) ?_
    refine v_ireturn dX2_isDueOn_34 rfl rfl ?_
    exact ⟨by simp only [ldD, if_pos c4], rfl⟩
  · refine v_iload_n dX2_isDueOn_7 rfl ?_
    refine v_aload_n dX2_isDueOn_8 rfl ?_
    refine v_getI fl_X2_16 dX2_isDueOn_9 rfl rfl (Nat.le_of_ble_eq_true rfl) hi ?_
    refine v_icmp_lt 33 dX2_isDueOn_12 (by decide) (fun c12 => ?_) (fun c12 => ?_)
    · refine v_iconst (0) dX2_isDueOn_33 (by decide) ?_
      refine v_ireturn dX2_isDueOn_34 rfl rfl ?_
      exact ⟨by simp only [ldD, if_neg c4, if_pos c12], rfl⟩
    · refine v_iload_n dX2_isDueOn_15 rfl ?_
      refine v_aload_n dX2_isDueOn_16 rfl ?_
      refine v_getI fl_X2_16 dX2_isDueOn_17 rfl rfl (Nat.le_of_ble_eq_true rfl) hi ?_
      refine v_isub dX2_isDueOn_20 ?_
      refine v_aload_n dX2_isDueOn_21 rfl ?_
      refine v_getI fl_X2_13 dX2_isDueOn_22 rfl rfl (Nat.le_of_ble_eq_true rfl) hi ?_
      refine v_irem dX2_isDueOn_25 (ne_of_nle c4) ?_
      refine v_if_ne 33 dX2_isDueOn_26 (by decide) (fun c26 => ?_) (fun c26 => ?_)
      · refine v_iconst (0) dX2_isDueOn_33 (by decide) ?_
        refine v_ireturn dX2_isDueOn_34 rfl rfl ?_
        exact ⟨by simp only [ldD, if_neg c4, if_neg c12, if_neg c26], rfl⟩
      · refine v_iconst (1) dX2_isDueOn_29 (by decide) ?_
        refine v_goto 34 dX2_isDueOn_30 (by decide) ?_
        refine v_ireturn dX2_isDueOn_34 rfl rfl ?_
        exact ⟨by simp only [ldD, if_neg c4, if_neg c12, if_pos c26], rfl⟩
theorem XIsL {h : Hp} (i : XI h) {a : Ad} {k : Nat} {x : Int64} : XI (sL h a k x) := i
theorem XIch {h : Hp} (i : XI h) (r : Int32) : XI (chIn h r) := XIsI (XIsL i) (a := (6, 0)) (k := 0) ⟨by decide, by decide, by decide, by decide, by decide⟩
def xBr1 (h : Hp) (k : Nat) : Hp := if ldD h k (vi h (0, 0) 13) = 0 then h else chIn h (vi h (12, k) 0)
def xBring : Nat → Nat → Hp → Hp
  | 0, _, h => h
  | j + 1, k, h => xBring j (k + 1) (xBr1 h k)
theorem xBr1_ok {h : Hp} (i : XI h) (k : Nat) : XI (xBr1 h k) ∧ cn (xBr1 h k) = cn h := by
  unfold xBr1
  split
  · exact ⟨i, rfl⟩
  · exact ⟨XIch i _, rfl⟩
theorem xBring_ok : ∀ (j k : Nat) {h : Hp}, XI h → XI (xBring j k h) ∧ cn (xBring j k h) = cn h
  | 0, _, _, i => ⟨i, rfl⟩
  | j + 1, k, h, i => by
    have a := xBr1_ok i k
    have b := xBring_ok j (k + 1) a.1
    exact ⟨b.1, b.2.trans a.2⟩
set_option maxRecDepth 20000 in
theorem bring_loop (g : G0) : ∀ (j k : Nat) (x : Int32) (h : Hp), XI h → k + j = cn h 12 → x = nI k → V g kfX11_bringRents 3 0 0 2 [(0, pR (0, 0)), (1, pI x)] [] h (qE none (xBring j k h)) (fun _ _ a h' => noX a h') := by
  intro j
  induction j with
  | zero =>
    intro k x h i hij hx
    subst hx
    have hS := i.1
    have le := i.le
    refine v_iload_n dX11_bringRents_2 rfl ?_
    refine v_aload_n dX11_bringRents_3 rfl ?_
    refine v_getR (some (7, 4)) fl_X11_57 dX11_bringRents_4 rfl rfl (Nat.le_of_ble_eq_true rfl) (xh_0_0 hS) (xr_0_0_8 hS) ?_
    refine v_invVE (m_size g h (xh_7_4 hS)) dX11_bringRents_7 cwJx4a65c_size_8abf5 mlX11_138 (ob_7 _) rfl rfl (by decide) (by decide) (Nat.le_of_ble_eq_true rfl) ?_
    rw [i.a4.1]
    refine v_icmp_ge 53 dX11_bringRents_10 (by decide) (fun _ => ?_) (fun z => absurd (nI_le (by omega) (by omega)) z)
    refine v_return dX11_bringRents_53 rfl ?_
    exact ⟨rfl, rfl⟩
  | succ j ih =>
    intro k x h i hij hx
    subst hx
    have hS := i.1
    have le := i.le
    have hk : k < cn h 12 := by omega
    refine v_iload_n dX11_bringRents_2 rfl ?_
    refine v_aload_n dX11_bringRents_3 rfl ?_
    refine v_getR (some (7, 4)) fl_X11_57 dX11_bringRents_4 rfl rfl (Nat.le_of_ble_eq_true rfl) (xh_0_0 hS) (xr_0_0_8 hS) ?_
    refine v_invVE (m_size g h (xh_7_4 hS)) dX11_bringRents_7 cwJx4a65c_size_8abf5 mlX11_138 (ob_7 _) rfl rfl (by decide) (by decide) (Nat.le_of_ble_eq_true rfl) ?_
    rw [i.a4.1]
    refine v_icmp_ge 53 dX11_bringRents_10 (by decide) (fun z => absurd z (nI_ge (by omega) (by omega))) (fun _ => ?_)
    refine v_aload_n dX11_bringRents_13 rfl ?_
    refine v_getR (some (7, 4)) fl_X11_57 dX11_bringRents_14 rfl rfl (Nat.le_of_ble_eq_true rfl) (xh_0_0 hS) (xr_0_0_8 hS) ?_
    refine v_iload_n dX11_bringRents_17 rfl ?_
    refine v_invVE (m_get g h (xh_7_4 hS) i.a4 hk) dX11_bringRents_18 cwJx4a65c_get_915e3 mlX11_190 (ob_7 _) rfl rfl (by decide) (by decide) (Nat.le_of_ble_eq_true rfl) ?_
    refine v_cast dX11_bringRents_21 clX11_238 (fun a z => by cases z; exact ⟨Nat.le_of_ble_eq_true rfl, _, _, rfl, rfl, rfl⟩) ?_
    refine v_astore_n dX11_bringRents_24 (by decide) ?_
    refine v_aload_n dX11_bringRents_25 rfl ?_
    refine v_aload_n dX11_bringRents_26 rfl ?_
    refine v_getI fl_X11_135 dX11_bringRents_27 rfl rfl (Nat.le_of_ble_eq_true rfl) (xh_0_0 hS) ?_
    refine v_invVE (m_due g h hk) dX11_bringRents_30 cwX2_isDueOn mlX11_289 (ob_12 _) rfl rfl (by decide) (by decide) (Nat.le_of_ble_eq_true rfl) ?_
    refine v_if_eq 47 dX11_bringRents_33 (by decide) (fun c33 => ?_) (fun c33 => ?_)
    · refine v_iinc _ dX11_bringRents_47 rfl rfl (by decide) ?_
      refine v_goto 2 dX11_bringRents_50 (by decide) ?_
      have e1 := xBr1_ok i k
      first | (have e : xBr1 h k = h := (by simp only [xBr1, if_pos c33]); rw [xBring, e]; refine v_loc [(0, pR (0, 0)), (1, pI (nI k + 1))] rfl ?_; exact ih (k + 1) _ _ i (by omega) (nI_1 k)) | (have e : xBr1 h k = chIn h (vi h (12, k) 0) := (by simp only [xBr1, if_pos c33]); rw [xBring, ← e]; refine v_loc [(0, pR (0, 0)), (1, pI (nI k + 1))] rfl ?_; exact ih (k + 1) _ _ e1.1 (by rw [e1.2]; omega) (nI_1 k))
    · refine v_aload_n dX11_bringRents_36 rfl ?_
      refine v_getR (some (6, 0)) fl_X11_63 dX11_bringRents_37 rfl rfl (Nat.le_of_ble_eq_true rfl) (xh_0_0 hS) (xr_0_0_9 hS) ?_
      refine v_aload_n dX11_bringRents_40 rfl ?_
      refine v_getI fl_X11_292 dX11_bringRents_41 rfl rfl (Nat.le_of_ble_eq_true rfl) hk ?_
      refine v_invVE (m_takeIn g h hS) dX11_bringRents_44 cwX1_takeIn mlX11_295 (ob_6 _) rfl rfl (by decide) (by decide) (Nat.le_of_ble_eq_true rfl) ?_
      refine v_iinc _ dX11_bringRents_47 rfl rfl (by decide) ?_
      refine v_goto 2 dX11_bringRents_50 (by decide) ?_
      have e1 := xBr1_ok i k
      first | (have e : xBr1 h k = h := (by simp only [xBr1, if_neg c33]); rw [xBring, e]; refine v_loc [(0, pR (0, 0)), (1, pI (nI k + 1))] rfl ?_; exact ih (k + 1) _ _ i (by omega) (nI_1 k)) | (have e : xBr1 h k = chIn h (vi h (12, k) 0) := (by simp only [xBr1, if_neg c33]); rw [xBring, ← e]; refine v_loc [(0, pR (0, 0)), (1, pI (nI k + 1))] rfl ?_; exact ih (k + 1) _ _ e1.1 (by rw [e1.2]; omega) (nI_1 k))
set_option maxRecDepth 20000 in
theorem m_bringRents (g : G0) (h : Hp) (i : XI h) : Mx g yX11_bringRents wX11_bringRents 3 [pR (0, 0)] h 0 0 (qE none (xBring (cn h 12) 0 h)) noX := by
  refine Mx.by kfX11_bringRents rfl (by decide) (Nat.le_of_ble_eq_true rfl) ?_
  refine v_iconst (0) dX11_bringRents_0 (by decide) ?_
  refine v_istore_n dX11_bringRents_1 (by decide) ?_
  refine v_loc [(0, pR (0, 0)), (1, pI 0)] rfl ?_
  exact bring_loop g (cn h 12) 0 0 h i (by omega) rfl
def xPay1 (h : Hp) (q : Nat) : Hp := sI (sI (sI h (6, 0) 0 (vi h (6, 0) 0 - chPay h (vi h (0, 0) 12 + vi h (9, q) 9))) (9, q) 10 (vi h (9, q) 10 + chPay h (vi h (0, 0) 12 + vi h (9, q) 9))) (9, q) 9 (vi h (0, 0) 12 + vi h (9, q) 9 - chPay h (vi h (0, 0) 12 + vi h (9, q) 9))
def xPy (h : Hp) (k : Nat) : Hp := match vr h (10, k) 1 with
  | none => h
  | some s => xPay1 h (vi h s 1).toNatClampNeg
def xPays : Nat → Nat → Hp → Hp
  | 0, _, h => h
  | j + 1, k, h => xPays j (k + 1) (xPy h k)
theorem XIpay {h : Hp} (i : XI h) (q : Nat) : XI (xPay1 h q) :=
  XIsI (XIsI (XIsI i (a := (6, 0)) (k := 0) ⟨by decide, by decide, by decide, by decide, by decide⟩) (a := (9, q)) (k := 10) (okP9 (by decide))) (a := (9, q)) (k := 9) (okP9 (by decide))
theorem xPy_ok {h : Hp} (i : XI h) (k : Nat) : XI (xPy h k) ∧ cn (xPy h k) = cn h := by
  unfold xPy
  split
  · exact ⟨i, rfl⟩
  · exact ⟨XIpay i _, rfl⟩
theorem xPays_ok : ∀ (j k : Nat) {h : Hp}, XI h → XI (xPays j k h) ∧ cn (xPays j k h) = cn h
  | 0, _, _, i => ⟨i, rfl⟩
  | j + 1, k, h, i => by
    have a := xPy_ok i k
    have b := xPays_ok j (k + 1) a.1
    exact ⟨b.1, b.2.trans a.2⟩
set_option maxRecDepth 20000 in
theorem pay_loop (g : G0) : ∀ (j k : Nat) (x : Int32) (h : Hp), XI h → k + j = cn h 10 → x = nI k → V g kfX11_payDoles 4 0 0 2 [(0, pR (0, 0)), (1, pI x)] [] h (qE none (xPays j k h)) (fun _ _ a h' => noX a h') := by
  intro j
  induction j with
  | zero =>
    intro k x h i hij hx
    subst hx
    have hS := i.1
    have le := i.le
    refine v_iload_n dX11_payDoles_2 rfl ?_
    refine v_aload_n dX11_payDoles_3 rfl ?_
    refine v_getR (some (7, 2)) fl_X11_44 dX11_payDoles_4 rfl rfl (Nat.le_of_ble_eq_true rfl) (xh_0_0 hS) (xr_0_0_5 hS) ?_
    refine v_invVE (m_size g h (xh_7_2 hS)) dX11_payDoles_7 cwJx4a65c_size_8abf5 mlX11_138 (ob_7 _) rfl rfl (by decide) (by decide) (Nat.le_of_ble_eq_true rfl) ?_
    rw [i.a2.1]
    refine v_icmp_ge 97 dX11_payDoles_10 (by decide) (fun _ => ?_) (fun z => absurd (nI_le (by omega) (by omega)) z)
    refine v_return dX11_payDoles_97 rfl ?_
    exact ⟨rfl, rfl⟩
  | succ j ih =>
    intro k x h i hij hx
    subst hx
    have hS := i.1
    have le := i.le
    have hk : k < cn h 10 := by omega
    cases hs : vr h (10, k) 1 with
    | none =>
      refine v_iload_n dX11_payDoles_2 rfl ?_
      refine v_aload_n dX11_payDoles_3 rfl ?_
      refine v_getR (some (7, 2)) fl_X11_44 dX11_payDoles_4 rfl rfl (Nat.le_of_ble_eq_true rfl) (xh_0_0 hS) (xr_0_0_5 hS) ?_
      refine v_invVE (m_size g h (xh_7_2 hS)) dX11_payDoles_7 cwJx4a65c_size_8abf5 mlX11_138 (ob_7 _) rfl rfl (by decide) (by decide) (Nat.le_of_ble_eq_true rfl) ?_
      rw [i.a2.1]
      refine v_icmp_ge 97 dX11_payDoles_10 (by decide) (fun z => absurd z (nI_ge (by omega) (by omega))) (fun _ => ?_)
      refine v_aload_n dX11_payDoles_13 rfl ?_
      refine v_getR (some (7, 2)) fl_X11_44 dX11_payDoles_14 rfl rfl (Nat.le_of_ble_eq_true rfl) (xh_0_0 hS) (xr_0_0_5 hS) ?_
      refine v_iload_n dX11_payDoles_17 rfl ?_
      refine v_invVE (m_get g h (xh_7_2 hS) i.a2 hk) dX11_payDoles_18 cwJx4a65c_get_915e3 mlX11_190 (ob_7 _) rfl rfl (by decide) (by decide) (Nat.le_of_ble_eq_true rfl) ?_
      refine v_cast dX11_payDoles_21 clX11_197 (fun a z => by cases z; exact ⟨Nat.le_of_ble_eq_true rfl, _, _, rfl, rfl, rfl⟩) ?_
      refine v_getR (none) fl_X11_207 dX11_payDoles_24 rfl rfl (Nat.le_of_ble_eq_true rfl) hk hs ?_
      refine v_astore_n dX11_payDoles_27 (by decide) ?_
      refine v_aload_n dX11_payDoles_28 rfl ?_
      refine v_ifnonnull 36 dX11_payDoles_29 (by decide) (fun _ => ?_) (fun _ z => by cases z)
      refine v_null dX11_payDoles_32 ?_
      refine v_goto 44 dX11_payDoles_33 (by decide) ?_
      refine v_astore_n dX11_payDoles_44 (by decide) ?_
      refine v_aload_n dX11_payDoles_45 rfl ?_
      refine v_ifnull 91 dX11_payDoles_46 (by decide) (fun _ => ?_) (fun _ z => by cases z)
      refine v_iinc _ dX11_payDoles_91 rfl rfl (by decide) ?_
      refine v_goto 2 dX11_payDoles_94 (by decide) ?_
      have e : xPy h k = h := by simp only [xPy, hs]
      rw [xPays, e]
      refine v_loc [(0, pR (0, 0)), (1, pI (nI k + 1))] rfl ?_
      exact ih (k + 1) _ _ i (by omega) (nI_1 k)
    | some s =>
      obtain ⟨f1, s2lt⟩ := i.rs k hk _ hs
      obtain ⟨s1, s2⟩ := s
      obtain rfl : s1 = 11 := f1
      obtain ⟨q, hq, hqv⟩ := i.ss s2 s2lt
      have ncl : (vi h (11, s2) 1).toNatClampNeg = q := by rw [hqv, nI_clamp (by omega)]
      have ce := m_personAt g h i (p := vi h (11, s2) 1)
      rw [hqv, xPer_in i hq] at ce
      have e10 : ∀ x, vi (sI h (6, 0) 0 x) (9, q) 10 = vi h (9, q) 10 := fun x => by rw [vi_sI, if_neg (fun z => by cases z.1)]
      refine v_iload_n dX11_payDoles_2 rfl ?_
      refine v_aload_n dX11_payDoles_3 rfl ?_
      refine v_getR (some (7, 2)) fl_X11_44 dX11_payDoles_4 rfl rfl (Nat.le_of_ble_eq_true rfl) (xh_0_0 hS) (xr_0_0_5 hS) ?_
      refine v_invVE (m_size g h (xh_7_2 hS)) dX11_payDoles_7 cwJx4a65c_size_8abf5 mlX11_138 (ob_7 _) rfl rfl (by decide) (by decide) (Nat.le_of_ble_eq_true rfl) ?_
      rw [i.a2.1]
      refine v_icmp_ge 97 dX11_payDoles_10 (by decide) (fun z => absurd z (nI_ge (by omega) (by omega))) (fun _ => ?_)
      refine v_aload_n dX11_payDoles_13 rfl ?_
      refine v_getR (some (7, 2)) fl_X11_44 dX11_payDoles_14 rfl rfl (Nat.le_of_ble_eq_true rfl) (xh_0_0 hS) (xr_0_0_5 hS) ?_
      refine v_iload_n dX11_payDoles_17 rfl ?_
      refine v_invVE (m_get g h (xh_7_2 hS) i.a2 hk) dX11_payDoles_18 cwJx4a65c_get_915e3 mlX11_190 (ob_7 _) rfl rfl (by decide) (by decide) (Nat.le_of_ble_eq_true rfl) ?_
      refine v_cast dX11_payDoles_21 clX11_197 (fun a z => by cases z; exact ⟨Nat.le_of_ble_eq_true rfl, _, _, rfl, rfl, rfl⟩) ?_
      refine v_getR (some (11, s2)) fl_X11_207 dX11_payDoles_24 rfl rfl (Nat.le_of_ble_eq_true rfl) hk hs ?_
      refine v_astore_n dX11_payDoles_27 (by decide) ?_
      refine v_aload_n dX11_payDoles_28 rfl ?_
      refine v_ifnonnull 36 dX11_payDoles_29 (by decide) (fun z => by cases z) (fun _ _ => ?_)
      refine v_aload_n dX11_payDoles_36 rfl ?_
      refine v_aload_n dX11_payDoles_37 rfl ?_
      refine v_getI fl_X11_227 dX11_payDoles_38 rfl rfl (Nat.le_of_ble_eq_true rfl) s2lt ?_
      rw [hqv]
      refine v_invVE (ce) dX11_payDoles_41 cwX11_personAt mlX11_150 (ob_0 _) rfl rfl (by decide) (by decide) (Nat.le_of_ble_eq_true rfl) ?_
      refine v_astore_n dX11_payDoles_44 (by decide) ?_
      refine v_aload_n dX11_payDoles_45 rfl ?_
      refine v_ifnull 91 dX11_payDoles_46 (by decide) (fun z => by cases z) (fun _ _ => ?_)
      refine v_aload_n dX11_payDoles_49 rfl ?_
      refine v_getI fl_X11_67 dX11_payDoles_50 rfl rfl (Nat.le_of_ble_eq_true rfl) (xh_0_0 hS) ?_
      refine v_aload_n dX11_payDoles_53 rfl ?_
      refine v_getI fl_X11_247 dX11_payDoles_54 rfl rfl (Nat.le_of_ble_eq_true rfl) hq ?_
      refine v_iadd dX11_payDoles_57 ?_
      refine v_istore dX11_payDoles_58 (by decide) ?_
      refine v_aload_n dX11_payDoles_60 rfl ?_
      refine v_getR (some (6, 0)) fl_X11_63 dX11_payDoles_61 rfl rfl (Nat.le_of_ble_eq_true rfl) (xh_0_0 hS) (xr_0_0_9 hS) ?_
      refine v_iload dX11_payDoles_64 rfl ?_
      refine v_invVE (m_payOut g h hS) dX11_payDoles_66 cwX1_payOut mlX11_298 (ob_6 _) rfl rfl (by decide) (by decide) (Nat.le_of_ble_eq_true rfl) ?_
      refine v_istore dX11_payDoles_69 (by decide) ?_
      refine v_aload_n dX11_payDoles_71 rfl ?_
      refine v_dup dX11_payDoles_72 rfl ?_
      refine v_getI fl_X11_250 dX11_payDoles_73 rfl rfl (Nat.le_of_ble_eq_true rfl) hq ?_
      rw [e10]
      refine v_iload dX11_payDoles_76 rfl ?_
      refine v_iadd dX11_payDoles_78 ?_
      refine v_putI fl_X11_250 (fun z => by cases z) dX11_payDoles_79 rfl rfl (Nat.le_of_ble_eq_true rfl) rfl rfl hq ?_
      refine v_aload_n dX11_payDoles_82 rfl ?_
      refine v_iload dX11_payDoles_83 rfl ?_
      refine v_iload dX11_payDoles_85 rfl ?_
      refine v_isub dX11_payDoles_87 ?_
      refine v_putI fl_X11_247 (fun z => by cases z) dX11_payDoles_88 rfl rfl (Nat.le_of_ble_eq_true rfl) rfl rfl hq ?_
      refine v_iinc _ dX11_payDoles_91 rfl rfl (by decide) ?_
      refine v_goto 2 dX11_payDoles_94 (by decide) ?_
      have e1 := xPy_ok i k
      have e : xPy h k = xPay1 h q := by simp only [xPy, hs, ncl]
      rw [xPays, e]
      rw [e] at e1
      change V g _ _ _ _ _ _ _ (xPay1 h q) _ _
      refine v_loc [(0, pR (0, 0)), (1, pI (nI k + 1))] rfl ?_
      exact ih (k + 1) _ _ e1.1 (by rw [e1.2]; omega) (nI_1 k)
set_option maxRecDepth 20000 in
theorem m_payDoles (g : G0) (h : Hp) (i : XI h) : Mx g yX11_payDoles wX11_payDoles 4 [pR (0, 0)] h 0 0 (qE none (xPays (cn h 10) 0 h)) noX := by
  refine Mx.by kfX11_payDoles rfl (by decide) (Nat.le_of_ble_eq_true rfl) ?_
  refine v_iconst (0) dX11_payDoles_0 (by decide) ?_
  refine v_istore_n dX11_payDoles_1 (by decide) ?_
  refine v_loc [(0, pR (0, 0)), (1, pI 0)] rfl ?_
  exact pay_loop g (cn h 10) 0 0 h i (by omega) rfl
def tdH (h : Hp) : Hp := sI h (0, 0) 13 (vi h (0, 0) 13 + 1)
def rtH (h : Hp) : Hp := xBring (cn (tdH h) 12) 0 (tdH h)
def xDay (h : Hp) : Hp := if vi (rtH h) (0, 0) 13 - vi (rtH h) (0, 0) 13 / 7 * 7 = 0 then xPays (cn (rtH h) 10) 0 (rtH h) else rtH h
def xDays : Nat → Hp → Hp
  | 0, h => h
  | j + 1, h => xDays j (xDay h)
theorem XItd {h : Hp} (i : XI h) : XI (tdH h) := XIsI i (a := (0, 0)) (k := 13) ⟨by decide, by decide, by decide, by decide, by decide⟩
theorem XIrt {h : Hp} (i : XI h) : XI (rtH h) ∧ cn (rtH h) = cn h := ⟨(xBring_ok _ _ (XItd i)).1, (xBring_ok _ _ (XItd i)).2⟩
theorem XIday {h : Hp} (i : XI h) : XI (xDay h) ∧ cn (xDay h) = cn h := by
  unfold xDay
  have a := XIrt i
  split
  · have b := xPays_ok (cn (rtH h) 10) 0 a.1
    exact ⟨b.1, b.2.trans a.2⟩
  · exact a
theorem XIdays : ∀ (j : Nat) {h : Hp}, XI h → XI (xDays j h) ∧ cn (xDays j h) = cn h
  | 0, _, i => ⟨i, rfl⟩
  | j + 1, h, i => by
    have a := XIday i
    have b := XIdays j a.1
    exact ⟨b.1, b.2.trans a.2⟩
def xPass (h : Hp) (n : Int32) : Int32 × Hp := if n < 1 then (-1, xT h 2) else if 400 < n then (-1, xT h 2) else if n ≤ 40000 - vi h (0, 0) 13 then (vi (xDays n.toNatClampNeg h) (0, 0) 13, xT (xDays n.toNatClampNeg h) 0) else (-1, xT h 2)
theorem rng400 {n : Int32} (h1 : ¬ n < 1) (h2 : ¬ 400 < n) : ∃ m, m ≤ 400 ∧ n = nI m := by
  have a1 : (1 : Int) ≤ n.toInt := by have := Int32.not_lt.mp h1; exact Int32.le_iff_toInt_le.mp this
  have a2 : n.toInt ≤ 400 := by have := Int32.not_lt.mp h2; exact Int32.le_iff_toInt_le.mp this
  refine ⟨n.toInt.toNat, by omega, ?_⟩
  apply Int32.toInt_inj.mp
  rw [nI_toInt (by omega)]
  omega
set_option maxRecDepth 20000 in
theorem pass_loop (g : G0) {n : Nat} (hn : n ≤ 400) : ∀ (j k : Nat) (x : Int32) (h : Hp), XI h → k + j = n → x = nI k → V g kfX11_pass 8 0 0 31 [(0, pR (0, 0)), (1, pI (nI n)), (2, pI x)] [] h (qE (some (pI (vi (xDays j h) (0, 0) 13))) (xT (xDays j h) 0)) (fun _ _ a h' => noX a h') := by
  intro j
  induction j with
  | zero =>
    intro k x h i hij hx
    subst hx
    have hS := i.1
    refine v_iload_n dX11_pass_31 rfl ?_
    refine v_iload_n dX11_pass_32 rfl ?_
    refine v_icmp_ge 70 dX11_pass_33 (by decide) (fun _ => ?_) (fun z => absurd (nI_le (by omega) (by omega)) z)
    refine v_aload_n dX11_pass_70 rfl ?_
    refine v_aload_n dX11_pass_71 rfl ?_
    refine v_getI fl_X11_135 dX11_pass_72 rfl rfl (Nat.le_of_ble_eq_true rfl) (xh_0_0 hS) ?_
    refine v_invVE (m_accept g h hS) dX11_pass_75 cwX11_accept mlX11_78 (ob_0 _) rfl rfl (by decide) (by decide) (Nat.le_of_ble_eq_true rfl) ?_
    refine v_ireturn dX11_pass_78 rfl rfl ?_
    exact ⟨rfl, rfl⟩
  | succ j ih =>
    intro k x h i hij hx
    subst hx
    have hS := i.1
    have i1 := XItd i
    have i2 := (XIrt i).1
    have hS2 := i2.1
    have i3 := XIday i
    refine v_iload_n dX11_pass_31 rfl ?_
    refine v_iload_n dX11_pass_32 rfl ?_
    refine v_icmp_ge 70 dX11_pass_33 (by decide) (fun z => absurd z (nI_ge (by omega) (by omega))) (fun _ => ?_)
    refine v_aload_n dX11_pass_36 rfl ?_
    refine v_dup dX11_pass_37 rfl ?_
    refine v_getI fl_X11_135 dX11_pass_38 rfl rfl (Nat.le_of_ble_eq_true rfl) (xh_0_0 hS) ?_
    refine v_iconst (1) dX11_pass_41 (by decide) ?_
    refine v_iadd dX11_pass_42 ?_
    refine v_putI fl_X11_135 (fun z => by cases z) dX11_pass_43 rfl rfl (Nat.le_of_ble_eq_true rfl) rfl rfl (xh_0_0 hS) ?_
    change V g _ _ _ _ _ _ _ (tdH h) _ _
    refine v_aload_n dX11_pass_46 rfl ?_
    refine v_invVE (m_bringRents g (tdH h) i1) dX11_pass_47 cwX11_bringRents mlX11_241 (ob_0 _) rfl rfl (by decide) (by decide) (Nat.le_of_ble_eq_true rfl) ?_
    change V g _ _ _ _ _ _ _ (rtH h) _ _
    refine v_aload_n dX11_pass_50 rfl ?_
    refine v_getI fl_X11_135 dX11_pass_51 rfl rfl (Nat.le_of_ble_eq_true rfl) (xh_0_0 hS2) ?_
    refine v_bipush (7) dX11_pass_54 (by decide) ?_
    refine v_irem dX11_pass_56 (by decide) ?_
    refine v_if_ne 64 dX11_pass_57 (by decide) (fun c57 => ?_) (fun c57 => ?_)
    · refine v_iinc _ dX11_pass_64 rfl rfl (by decide) ?_
      refine v_goto 31 dX11_pass_67 (by decide) ?_
      first | (have e : xDay h = rtH h := (by simp only [xDay, if_neg c57]); rw [xDays, e]; refine v_loc [(0, pR (0, 0)), (1, pI (nI n)), (2, pI (nI k + 1))] rfl ?_; exact ih (k + 1) _ _ i2 (by omega) (nI_1 k)) | (have e : xDay h = xPays (cn (rtH h) 10) 0 (rtH h) := (by simp only [xDay, if_neg c57]); rw [xDays, ← e]; refine v_loc [(0, pR (0, 0)), (1, pI (nI n)), (2, pI (nI k + 1))] rfl ?_; exact ih (k + 1) _ _ i3.1 (by omega) (nI_1 k))
    · refine v_aload_n dX11_pass_60 rfl ?_
      refine v_invVE (m_payDoles g (rtH h) i2) dX11_pass_61 cwX11_payDoles mlX11_244 (ob_0 _) rfl rfl (by decide) (by decide) (Nat.le_of_ble_eq_true rfl) ?_
      refine v_iinc _ dX11_pass_64 rfl rfl (by decide) ?_
      refine v_goto 31 dX11_pass_67 (by decide) ?_
      first | (have e : xDay h = rtH h := (by simp only [xDay, if_pos c57]); rw [xDays, e]; refine v_loc [(0, pR (0, 0)), (1, pI (nI n)), (2, pI (nI k + 1))] rfl ?_; exact ih (k + 1) _ _ i2 (by omega) (nI_1 k)) | (have e : xDay h = xPays (cn (rtH h) 10) 0 (rtH h) := (by simp only [xDay, if_pos c57]); rw [xDays, ← e]; refine v_loc [(0, pR (0, 0)), (1, pI (nI n)), (2, pI (nI k + 1))] rfl ?_; exact ih (k + 1) _ _ i3.1 (by omega) (nI_1 k))
set_option maxRecDepth 20000 in
theorem m_pass (g : G0) (h : Hp) (i : XI h) {n : Int32} : Mx g yX11_pass wX11_pass 8 [pR (0, 0), pI n] h 0 0 (qE (some (pI (xPass h n).1)) (xPass h n).2) noX := by
  have hS := i.1
  refine Mx.by kfX11_pass rfl (by decide) (Nat.le_of_ble_eq_true rfl) ?_
  refine v_iload_n dX11_pass_0 rfl ?_
  refine v_iconst (1) dX11_pass_1 (by decide) ?_
  refine v_icmp_lt 23 dX11_pass_2 (by decide) (fun c2 => ?_) (fun c2 => ?_)
  · refine v_aload_n dX11_pass_23 rfl ?_
    refine v_iconst (2) dX11_pass_24 (by decide) ?_
    refine v_invVE (m_refuse g h hS) dX11_pass_25 cwX11_refuse mlX11_74 (ob_0 _) rfl rfl (by decide) (by decide) (Nat.le_of_ble_eq_true rfl) ?_
    refine v_ireturn dX11_pass_28 rfl rfl ?_
    exact ⟨by simp only [xPass, if_pos c2], by simp only [xPass, if_pos c2]⟩
  · refine v_iload_n dX11_pass_5 rfl ?_
    refine v_sipush (400) dX11_pass_6 (by decide) ?_
    refine v_icmp_gt 23 dX11_pass_9 (by decide) (fun c9 => ?_) (fun c9 => ?_)
    · refine v_aload_n dX11_pass_23 rfl ?_
      refine v_iconst (2) dX11_pass_24 (by decide) ?_
      refine v_invVE (m_refuse g h hS) dX11_pass_25 cwX11_refuse mlX11_74 (ob_0 _) rfl rfl (by decide) (by decide) (Nat.le_of_ble_eq_true rfl) ?_
      refine v_ireturn dX11_pass_28 rfl rfl ?_
      exact ⟨by simp only [xPass, if_neg c2, if_pos c9], by simp only [xPass, if_neg c2, if_pos c9]⟩
    · refine v_iload_n dX11_pass_12 rfl ?_
      refine v_ldc (40000) dX11_pass_13 ctX11_237 ?_
      refine v_aload_n dX11_pass_15 rfl ?_
      refine v_getI fl_X11_135 dX11_pass_16 rfl rfl (Nat.le_of_ble_eq_true rfl) (xh_0_0 hS) ?_
      refine v_isub dX11_pass_19 ?_
      refine v_icmp_le 29 dX11_pass_20 (by decide) (fun c20 => ?_) (fun c20 => ?_)
      · refine v_iconst (0) dX11_pass_29 (by decide) ?_
        refine v_istore_n dX11_pass_30 (by decide) ?_
        have e : xPass h n = (vi (xDays n.toNatClampNeg h) (0, 0) 13, xT (xDays n.toNatClampNeg h) 0) := by simp only [xPass, if_neg c2, if_neg c9, if_pos c20]
        rw [e]
        obtain ⟨m, hm, rfl⟩ := rng400 c2 c9
        rw [nI_clamp (by omega)]
        refine v_loc [(0, pR (0, 0)), (1, pI (nI m)), (2, pI 0)] rfl ?_
        exact pass_loop g hm m 0 0 h i (by omega) rfl
      · refine v_aload_n dX11_pass_23 rfl ?_
        refine v_iconst (2) dX11_pass_24 (by decide) ?_
        refine v_invVE (m_refuse g h hS) dX11_pass_25 cwX11_refuse mlX11_74 (ob_0 _) rfl rfl (by decide) (by decide) (Nat.le_of_ble_eq_true rfl) ?_
        refine v_ireturn dX11_pass_28 rfl rfl ?_
        exact ⟨by simp only [xPass, if_neg c2, if_neg c9, if_neg c20], by simp only [xPass, if_neg c2, if_neg c9, if_neg c20]⟩
