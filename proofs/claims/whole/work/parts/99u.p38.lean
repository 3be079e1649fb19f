/-! what the class's reading leaves alone -/
def fRz : Fpt := (fun _ => true, fun _ => true, fun _ => true, fun _ => true, fun p i _ => !(p == 1) && !(p == 2) && !(p == 3) && !(p == 13 && !(i == 0)))
theorem Fq.eqv {h h' : Hp} (q : Fq h h') : Eqv fRz h h' := by
  refine ⟨fun p _ => by rw [q.1], fun p i _ => by rw [q.2.1], fun p i k _ => by rw [q.2.2.2.1], fun p i k _ => by rw [q.2.2.1], fun p i f z => q.2.2.2.2 (p, i) f ?_ ?_ ?_⟩
  · show p ≠ 2
    rintro rfl; exact absurd z (by simp [fRz])
  · show p ≠ 3
    rintro rfl; exact absurd z (by simp [fRz])
  · show p = 13 → i = 0
    rintro rfl
    rcases Nat.eq_zero_or_pos i with y | y
    · exact y
    · exact absurd z (by simp [fRz]; omega)
theorem rdT_E (e : Nat) (h : Hp) : Eqv fRz h (rdT e h) := Eqv.sIs (Eqv.rf h) (fun _ => Bool.false_ne_true)
theorem rLp_E {e : Nat} (he : e ≤ 300) : ∀ (j s : Nat) (h : Hp), RJ e h → Eqv fRz h (rLp e j s h) ∧ SX (rLp e j s h)
  | 0, _, h, r => ⟨Eqv.rf h, r.1⟩
  | j + 1, s, h, r => by
    rw [rLp]; split
    · exact ⟨Eqv.rf h, r.1⟩
    · have r1 := rdT_ok he r
      have r2 := (rSt_J r1 s).1
      have q := (rSt_ok r1.1 r1.2.1 r1.2.2.1 s).1
      have i := rLp_E he j (rSt (rdT e h) s).1.toNatClampNeg _ r2
      exact ⟨((rdT_E e h).tr q.eqv).tr i.1, i.2⟩
theorem rRd_E {h : Hp} {e : Nat} (he : e ≤ 300) (hS : SX h) : Eqv fRz h (rRd h e) ∧ SX (rRd h e) := by
  have s : Eqv fRz h (rwH (bgH h) (nI e)) := (Eqv.sI (Eqv.sI (Eqv.sI (Eqv.sI (Eqv.sI (Eqv.sI (Eqv.sI (Eqv.sI (Eqv.sI (Eqv.rf h) Bool.false_ne_true) Bool.false_ne_true) Bool.false_ne_true) Bool.false_ne_true) Bool.false_ne_true) Bool.false_ne_true) Bool.false_ne_true) Bool.false_ne_true) Bool.false_ne_true)
  have l := rLp_E he 301 0 _ (RJst hS e)
  exact ⟨s.tr l.1, l.2⟩
theorem nI_tn (x : Int32) : nI x.toBitVec.toNat = x := Int32.toBitVec_inj.mp (by show BitVec.ofNat 32 x.toBitVec.toNat = x.toBitVec; simp)
theorem cs0 {h : Hp} (hS : SX h) (e : Nat) : ∃ (te : Nat) (nm sg nu : Int32) (W M N : Nat → Int32), CS (rwH (bgH h) (nI e)) (vi h (13, 0)) 0 0 0 te 0 0 nm sg nu W M N [] [] :=
  ⟨(vi h (2, 0) 8).toBitVec.toNat, vi h (2, 0) 11, vi h (2, 0) 12, vi h (2, 0) 13, _, _, _, hS, funext fun j => by unfold rwH bgH bgW; rw [vi_sI_ne _ _ _ _ (fun z => (by cases z)), vi_sI_ne _ _ _ _ (fun z => (by cases z)), vi_sI_ne _ _ _ _ (fun z => (by cases z)), vi_sI_ne _ _ _ _ (fun z => (by cases z)), vi_sI_ne _ _ _ _ (fun z => (by cases z)), vi_sI_ne _ _ _ _ (fun z => (by cases z)), vi_sI_ne _ _ _ _ (fun z => (by cases z)), vi_sI_ne _ _ _ _ (fun z => (by cases z)), vi_sI_ne _ _ _ _ (fun z => (by cases z))], rfl, ⟨rfl, rfl, by rw [nI_tn]; rfl, rfl, rfl, rfl, rfl, rfl⟩, ⟨rfl, rfl, rfl⟩, ⟨rfl, by decide, rfl, by decide, trivial, trivial⟩, rfl⟩
theorem rRd_FE {h : Hp} {e : Nat} (he : e ≤ 300) (hS : SX h) : FE (vi h (13, 0)) (rRd h e) := by
  obtain ⟨te, nm, sg, nu, W, M, N, cs⟩ := cs0 hS e
  exact f_read he (by omega) cs
/-- behind the reading -/
def hSc (Z : Hp) : Hp := sI (sI (sI Z (0, 0) 15 (vi Z (2, 0) 6)) (0, 0) 16 (vi Z (1, 0) 4)) (1, 0) 1 0
theorem hSc_15 (Z : Hp) : vi (hSc Z) (0, 0) 15 = vi Z (2, 0) 6 := (vi_sI_ne _ _ _ _ (fun z => (by cases z))).trans ((vi_sI_nk _ _ _ (by decide)).trans (vi_sI_eq _ _ _ _))
theorem hSc_16 (Z : Hp) : vi (hSc Z) (0, 0) 16 = vi Z (1, 0) 4 := (vi_sI_ne _ _ _ _ (fun z => (by cases z))).trans (vi_sI_eq _ _ _ _)
theorem hSc_o (Z : Hp) {f : Nat} (h1 : f ≠ 15) (h2 : f ≠ 16) : vi (hSc Z) (0, 0) f = vi Z (0, 0) f := (vi_sI_ne _ _ _ _ (fun z => (by cases z))).trans ((vi_sI_nk _ _ _ h2).trans (vi_sI_nk _ _ _ h1))
theorem hSc_SX {Z : Hp} (s : SX Z) : SX (hSc Z) := s
/-- what a reading gives -/
def RdZ (g : G0) (h : Hp) (e : Nat) (Z : Hp) : Prop := Mx g yX4_read wX4_read 8 [pR (2, 0), pI (nI e)] h 0 0 (qE (some (pI (vi Z (2, 0) 6))) Z) noX ∧ Eqv fRz h Z ∧ SX Z ∧ FE (vi h (13, 0)) Z ∧ ∃ c, (∃ (te : Nat) (nm sg nu : Int32) (W M N : Nat → Int32), CS c (vi h (13, 0)) 0 0 0 te 0 0 nm sg nu W M N [] []) ∧ Z = rLp e 301 0 c
theorem rdZ (g : G0) {h : Hp} {e : Nat} (he : e ≤ 300) (hS : SX h) : ∃ Z, RdZ g h e Z := ⟨rRd h e, m_read g h hS he, (rRd_E he hS).1, (rRd_E he hS).2, rRd_FE he hS, _, cs0 hS e, rfl⟩
def xSchN (h : Hp) (w : Int32) : Int32 × Hp := if xWb h w = 0 then (-1, xT h 1) else (-1, xT h 2)
def xSchR (Z : Hp) : Int32 × Hp := if vi Z (2, 0) 6 = 0 then (-1, xT (hSc Z) 3) else (-1, xT (hSc Z) 4)
set_option maxRecDepth 20000 in
theorem m_schemeN (g : G0) (h : Hp) (i : XI h) {w d n : Int32} (hno : ¬ (¬ xWb h w = 0 ∧ ¬ xDy d = 0 ∧ ¬ n < 0 ∧ n ≤ vi h (1, 0) 1)) : Mx g yX11_scheme wX11_scheme 9 [pR (0, 0), pI w, pI d, pI n] h 0 0 (qE (some (pI (xSchN h w).1)) (xSchN h w).2) noX := by
  have hS := i.1
  refine Mx.by kfX11_scheme rfl (by decide) (Nat.le_of_ble_eq_true rfl) ?_
  refine v_aload_n dX11_scheme_0 rfl ?_
  refine v_iload_n dX11_scheme_1 rfl ?_
  refine v_invVE (m_isWill g h hS) dX11_scheme_2 cwX11_isWill mlX11_88 (ob_0 _) rfl rfl (by decide) (by decide) (Nat.le_of_ble_eq_true rfl) ?_
  refine v_if_ne 14 dX11_scheme_5 (by decide) (fun c5 => ?_) (fun c5 => ?_)
  · refine v_iload_n dX11_scheme_14 rfl ?_
    refine v_invSE (m_isDay g h) dX11_scheme_15 cwX11_isDay mlX11_92 rfl rfl (by decide) (by decide) (Nat.le_of_ble_eq_true rfl) ?_
    refine v_if_eq 36 dX11_scheme_18 (by decide) (fun c18 => ?_) (fun c18 => ?_)
    · refine v_aload_n dX11_scheme_36 rfl ?_
      refine v_iconst (2) dX11_scheme_37 (by decide) ?_
      refine v_invVE (m_refuse g h hS) dX11_scheme_38 cwX11_refuse mlX11_74 (ob_0 _) rfl rfl (by decide) (by decide) (Nat.le_of_ble_eq_true rfl) ?_
      refine v_ireturn dX11_scheme_41 rfl rfl ?_
      exact ⟨by rw [xSchN, if_neg c5], by rw [xSchN, if_neg c5]⟩
    · refine v_iload_n dX11_scheme_21 rfl ?_
      refine v_if_lt 36 dX11_scheme_22 (by decide) (fun c22 => ?_) (fun c22 => ?_)
      · refine v_aload_n dX11_scheme_36 rfl ?_
        refine v_iconst (2) dX11_scheme_37 (by decide) ?_
        refine v_invVE (m_refuse g h hS) dX11_scheme_38 cwX11_refuse mlX11_74 (ob_0 _) rfl rfl (by decide) (by decide) (Nat.le_of_ble_eq_true rfl) ?_
        refine v_ireturn dX11_scheme_41 rfl rfl ?_
        exact ⟨by rw [xSchN, if_neg c5], by rw [xSchN, if_neg c5]⟩
      · refine v_iload_n dX11_scheme_25 rfl ?_
        refine v_aload_n dX11_scheme_26 rfl ?_
        refine v_getR (some (1, 0)) fl_X11_12 dX11_scheme_27 rfl rfl (Nat.le_of_ble_eq_true rfl) (xh_0_0 hS) (xr_0_0_0 hS) ?_
        refine v_getI fl_X11_81 dX11_scheme_30 rfl rfl (Nat.le_of_ble_eq_true rfl) (xh_1_0 hS) ?_
        refine v_icmp_le 42 dX11_scheme_33 (by decide) (fun c33 => ?_) (fun c33 => ?_)
        · exact absurd ⟨c5, c18, c22, c33⟩ hno
        · refine v_aload_n dX11_scheme_36 rfl ?_
          refine v_iconst (2) dX11_scheme_37 (by decide) ?_
          refine v_invVE (m_refuse g h hS) dX11_scheme_38 cwX11_refuse mlX11_74 (ob_0 _) rfl rfl (by decide) (by decide) (Nat.le_of_ble_eq_true rfl) ?_
          refine v_ireturn dX11_scheme_41 rfl rfl ?_
          exact ⟨by rw [xSchN, if_neg c5], by rw [xSchN, if_neg c5]⟩
  · refine v_aload_n dX11_scheme_8 rfl ?_
    refine v_iconst (1) dX11_scheme_9 (by decide) ?_
    refine v_invVE (m_refuse g h hS) dX11_scheme_10 cwX11_refuse mlX11_74 (ob_0 _) rfl rfl (by decide) (by decide) (Nat.le_of_ble_eq_true rfl) ?_
    refine v_ireturn dX11_scheme_13 rfl rfl ?_
    exact ⟨by rw [xSchN, if_pos c5], by rw [xSchN, if_pos c5]⟩
set_option maxRecDepth 20000 in
theorem m_schemeR (g : G0) (h : Hp) (i : XI h) {w d : Int32} (ok : ¬ xWb h w = 0 ∧ ¬ xDy d = 0) {e : Nat} (he : e ≤ 300) (hL : nI e ≤ vi h (1, 0) 1) {Z : Hp} (rz : RdZ g h e Z) (hs : ¬ vi Z (2, 0) 6 = 0 ∨ ¬ vi h (0, 0) 11 < 40) : Mx g yX11_scheme wX11_scheme 9 [pR (0, 0), pI w, pI d, pI (nI e)] h 0 0 (qE (some (pI (xSchR Z).1)) (xSchR Z).2) noX := by
  have hS := i.1
  have hZ := rz.2.2.1
  have e11 : vi (hSc Z) (0, 0) 11 = vi h (0, 0) 11 := (hSc_o Z (by decide) (by decide)).trans (rz.2.1.2.2.2.2 0 0 11 rfl)
  have e15 : vi (hSc Z) (0, 0) 15 = vi Z (2, 0) 6 := hSc_15 Z
  refine Mx.by kfX11_scheme rfl (by decide) (Nat.le_of_ble_eq_true rfl) ?_
  refine v_aload_n dX11_scheme_0 rfl ?_
  refine v_iload_n dX11_scheme_1 rfl ?_
  refine v_invVE (m_isWill g h hS) dX11_scheme_2 cwX11_isWill mlX11_88 (ob_0 _) rfl rfl (by decide) (by decide) (Nat.le_of_ble_eq_true rfl) ?_
  refine v_if_ne 14 dX11_scheme_5 (by decide) (fun _ => ?_) (fun z => absurd z ok.1)
  refine v_iload_n dX11_scheme_14 rfl ?_
  refine v_invSE (m_isDay g h) dX11_scheme_15 cwX11_isDay mlX11_92 rfl rfl (by decide) (by decide) (Nat.le_of_ble_eq_true rfl) ?_
  refine v_if_eq 36 dX11_scheme_18 (by decide) (fun z => absurd z ok.2) (fun _ => ?_)
  refine v_iload_n dX11_scheme_21 rfl ?_
  refine v_if_lt 36 dX11_scheme_22 (by decide) (fun z => absurd z (nI_pos (by omega))) (fun _ => ?_)
  refine v_iload_n dX11_scheme_25 rfl ?_
  refine v_aload_n dX11_scheme_26 rfl ?_
  refine v_getR (some (1, 0)) fl_X11_12 dX11_scheme_27 rfl rfl (Nat.le_of_ble_eq_true rfl) (xh_0_0 hS) (xr_0_0_0 hS) ?_
  refine v_getI fl_X11_81 dX11_scheme_30 rfl rfl (Nat.le_of_ble_eq_true rfl) (xh_1_0 hS) ?_
  refine v_icmp_le 42 dX11_scheme_33 (by decide) (fun _ => ?_) (fun z => absurd hL z)
  refine v_aload_n dX11_scheme_42 rfl ?_
  refine v_aload_n dX11_scheme_43 rfl ?_
  refine v_getR (some (2, 0)) fl_X11_23 dX11_scheme_44 rfl rfl (Nat.le_of_ble_eq_true rfl) (xh_0_0 hS) (xr_0_0_1 hS) ?_
  refine v_iload_n dX11_scheme_47 rfl ?_
  refine v_invVE (rz.1) dX11_scheme_48 cwX4_read mlX11_95 (ob_2 _) rfl rfl (by decide) (by decide) (Nat.le_of_ble_eq_true rfl) ?_
  refine v_putI fl_X11_98 (fun z => by cases z) dX11_scheme_51 rfl rfl (Nat.le_of_ble_eq_true rfl) rfl rfl (xh_0_0 hZ) ?_
  refine v_aload_n dX11_scheme_54 rfl ?_
  refine v_aload_n dX11_scheme_55 rfl ?_
  refine v_getR (some (1, 0)) fl_X11_12 dX11_scheme_56 rfl rfl (Nat.le_of_ble_eq_true rfl) (xh_0_0 hZ) (xr_0_0_0 hZ) ?_
  refine v_getI fl_X11_101 dX11_scheme_59 rfl rfl (Nat.le_of_ble_eq_true rfl) (xh_1_0 hZ) ?_
  rw [vi_sI_ne _ _ _ _ (fun z => (by cases z))]
  refine v_putI fl_X11_104 (fun z => by cases z) dX11_scheme_62 rfl rfl (Nat.le_of_ble_eq_true rfl) rfl rfl (xh_0_0 hZ) ?_
  refine v_aload_n dX11_scheme_65 rfl ?_
  refine v_getR (some (1, 0)) fl_X11_12 dX11_scheme_66 rfl rfl (Nat.le_of_ble_eq_true rfl) (xh_0_0 hZ) (xr_0_0_0 hZ) ?_
  refine v_iconst (0) dX11_scheme_69 (by decide) ?_
  refine v_putI fl_X11_81 (fun z => by cases z) dX11_scheme_70 rfl rfl (Nat.le_of_ble_eq_true rfl) rfl rfl (xh_1_0 hZ) ?_
  change V g _ _ _ _ _ _ _ (hSc Z) _ _
  refine v_aload_n dX11_scheme_73 rfl ?_
  refine v_getI fl_X11_98 dX11_scheme_74 rfl rfl (Nat.le_of_ble_eq_true rfl) (xh_0_0 hZ) ?_
  rw [e15]
  refine v_if_eq 86 dX11_scheme_77 (by decide) (fun c77 => ?_) (fun c77 => ?_)
  · refine v_aload_n dX11_scheme_86 rfl ?_
    refine v_getI fl_X11_107 dX11_scheme_87 rfl rfl (Nat.le_of_ble_eq_true rfl) (xh_0_0 hZ) ?_
    rw [e11]
    refine v_bipush (40) dX11_scheme_90 (by decide) ?_
    refine v_icmp_lt 101 dX11_scheme_92 (by decide) (fun c92 => ?_) (fun c92 => ?_)
    · exact absurd c92 (hs.elim (fun z => absurd c77 z) (fun z => z))
    · refine v_aload_n dX11_scheme_95 rfl ?_
      refine v_iconst (3) dX11_scheme_96 (by decide) ?_
      refine v_invVE (m_refuse g (hSc Z) hZ) dX11_scheme_97 cwX11_refuse mlX11_74 (ob_0 _) rfl rfl (by decide) (by decide) (Nat.le_of_ble_eq_true rfl) ?_
      refine v_ireturn dX11_scheme_100 rfl rfl ?_
      exact ⟨by rw [xSchR, if_pos c77], by rw [xSchR, if_pos c77]⟩
  · refine v_aload_n dX11_scheme_80 rfl ?_
    refine v_iconst (4) dX11_scheme_81 (by decide) ?_
    refine v_invVE (m_refuse g (hSc Z) hZ) dX11_scheme_82 cwX11_refuse mlX11_74 (ob_0 _) rfl rfl (by decide) (by decide) (Nat.le_of_ble_eq_true rfl) ?_
    refine v_ireturn dX11_scheme_85 rfl rfl ?_
    exact ⟨by rw [xSchR, if_neg c77], by rw [xSchR, if_neg c77]⟩
