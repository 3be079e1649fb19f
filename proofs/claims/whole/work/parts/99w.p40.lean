theorem hSc_E {P : Fpt} {h Z : Hp} (e : Eqv P h Z) (a : ¬ P.2.2.2.2 0 0 15 = true) (b : ¬ P.2.2.2.2 0 0 16 = true) (c : ¬ P.2.2.2.2 1 0 1 = true) : Eqv P h (hSc Z) := Eqv.sI (Eqv.sI (Eqv.sI e a) b) c
theorem hSc_n (Z : Hp) {p i f : Nat} (h0 : p ≠ 0) (h1 : p ≠ 1) : vi (hSc Z) (p, i) f = vi Z (p, i) f := (vi_sI_ne _ _ _ _ (fun z => h1 (congrArg Prod.fst z))).trans ((vi_sI_ne _ _ _ _ (fun z => h0 (congrArg Prod.fst z))).trans (vi_sI_ne _ _ _ _ (fun z => h0 (congrArg Prod.fst z))))
theorem Eqv.of_rz {P : Fpt} {h h' : Hp} (e : Eqv fRz h h') (n1 : ∀ i f, ¬ P.2.2.2.2 1 i f = true) (n2 : ∀ i f, ¬ P.2.2.2.2 2 i f = true) (n3 : ∀ i f, ¬ P.2.2.2.2 3 i f = true) (n13 : ∀ i f, ¬ P.2.2.2.2 13 i f = true) : Eqv P h h' := by
  refine ⟨fun p _ => e.1 p rfl, fun p i _ => e.2.1 p i rfl, fun p i k _ => e.2.2.1 p i k rfl, fun p i k _ => e.2.2.2.1 p i k rfl, fun p i f z => e.2.2.2.2 p i f ?_⟩
  have a1 : (p == 1) = false := by rw [beq_eq_false_iff_ne]; rintro rfl; exact n1 _ _ z
  have a2 : (p == 2) = false := by rw [beq_eq_false_iff_ne]; rintro rfl; exact n2 _ _ z
  have a3 : (p == 3) = false := by rw [beq_eq_false_iff_ne]; rintro rfl; exact n3 _ _ z
  have a4 : (p == 13) = false := by rw [beq_eq_false_iff_ne]; rintro rfl; exact n13 _ _ z
  show (!(p == 1) && !(p == 2) && !(p == 3) && !(p == 13 && !(i == 0))) = true
  rw [a1, a2, a3, a4]; rfl
theorem Eqv.of_kp {P : Fpt} {h h' : Hp} (e : Eqv fKp h h') (c : ¬ P.1 16 = true ∧ ¬ P.1 8 = true ∧ ¬ P.1 17 = true) (l : ¬ P.2.1 16 = true ∧ ¬ P.2.1 8 = true ∧ ¬ P.2.1 17 = true) (r : ¬ P.2.2.1 16 = true ∧ ¬ P.2.2.1 7 = true ∧ ¬ P.2.2.1 8 = true ∧ ¬ P.2.2.1 17 = true) (v : ¬ P.2.2.2.1 16 = true ∧ ¬ P.2.2.2.1 8 = true ∧ ¬ P.2.2.2.1 17 = true) (n16 : ∀ i f, ¬ P.2.2.2.2 16 i f = true) (n7 : ∀ i f, ¬ P.2.2.2.2 7 i f = true) (n8 : ∀ i f, ¬ P.2.2.2.2 8 i f = true) (n17 : ∀ i f, ¬ P.2.2.2.2 17 i f = true) : Eqv P h h' := by
  have b : ∀ (p q : Nat) (Q : Nat → Bool), ¬ Q q = true → Q p = true → (p == q) = false := fun p q Q n z => by rw [beq_eq_false_iff_ne]; rintro rfl; exact n z
  refine ⟨fun p z => e.1 p ?_, fun p i z => e.2.1 p i ?_, fun p i k z => e.2.2.1 p i k ?_, fun p i k z => e.2.2.2.1 p i k ?_, fun p i f z => e.2.2.2.2 p i f ?_⟩
  · show (!(p == 16) && !(p == 8) && !(p == 17)) = true
    rw [b p 16 _ c.1 z, b p 8 _ c.2.1 z, b p 17 _ c.2.2 z]; rfl
  · show (!(p == 16) && !(p == 8) && !(p == 17)) = true
    rw [b p 16 _ l.1 z, b p 8 _ l.2.1 z, b p 17 _ l.2.2 z]; rfl
  · show (!(p == 16) && !(p == 7) && !(p == 8) && !(p == 17)) = true
    rw [b p 16 _ r.1 z, b p 7 _ r.2.1 z, b p 8 _ r.2.2.1 z, b p 17 _ r.2.2.2 z]; rfl
  · show (!(p == 16) && !(p == 8) && !(p == 17)) = true
    rw [b p 16 _ v.1 z, b p 8 _ v.2.1 z, b p 17 _ v.2.2 z]; rfl
  · show (!(p == 16) && !(p == 7) && !(p == 8) && !(p == 17)) = true
    rw [b p 16 (fun p => P.2.2.2.2 p i f) (n16 i f) z, b p 7 (fun p => P.2.2.2.2 p i f) (n7 i f) z, b p 8 (fun p => P.2.2.2.2 p i f) (n8 i f) z, b p 17 (fun p => P.2.2.2.2 p i f) (n17 i f) z]; rfl
theorem Eqv.of_rw {P : Fpt} {k : Nat} {h h' : Hp} (e : Eqv (fRw k) h h') (v : ¬ P.2.2.2.1 32 = true) (n32 : ∀ i f, 12 ≤ f → f ≤ 18 → ¬ P.2.2.2.2 32 i f = true) (n35 : ∀ i f, ¬ P.2.2.2.2 35 i f = true) (n33 : ∀ f, f = 2 ∨ f = 3 → ¬ P.2.2.2.2 33 k f = true) (n40 : ∀ p f, 40 ≤ p → p < 50 → ¬ P.2.2.2.2 p k f = true) : Eqv P h h' := by
  refine ⟨fun p _ => e.1 p rfl, fun p i _ => e.2.1 p i rfl, fun p i k _ => e.2.2.1 p i k rfl, fun p i k z => e.2.2.2.1 p i k ?_, fun p i f z => e.2.2.2.2 p i f ?_⟩
  · show (!(p == 32)) = true
    rw [show (p == 32) = false by rw [beq_eq_false_iff_ne]; rintro rfl; exact v z]; rfl
  · show (!(p == 32 && (Nat.ble 12 f && Nat.ble f 18)) && !(p == 35) && !(p == 33 && i == k && (f == 2 || f == 3)) && !(Nat.ble 40 p && Nat.blt p 50 && i == k)) = true
    have a1 : (p == 32 && (Nat.ble 12 f && Nat.ble f 18)) = false := by
      rw [← Bool.not_eq_true]; intro y
      rw [Bool.and_eq_true, Bool.and_eq_true] at y
      have e1 := eq_of_beq y.1; subst e1
      exact n32 i f (Nat.le_of_ble_eq_true y.2.1) (Nat.le_of_ble_eq_true y.2.2) z
    have a2 : (p == 35) = false := by rw [beq_eq_false_iff_ne]; rintro rfl; exact n35 _ _ z
    have a3 : (p == 33 && i == k && (f == 2 || f == 3)) = false := by
      rw [← Bool.not_eq_true]; intro y
      rw [Bool.and_eq_true, Bool.and_eq_true, Bool.or_eq_true] at y
      have e1 := eq_of_beq y.1.1; have e2 := eq_of_beq y.1.2; subst e1; subst e2
      exact n33 f (y.2.elim (fun q => Or.inl (eq_of_beq q)) (fun q => Or.inr (eq_of_beq q))) z
    have a4 : (Nat.ble 40 p && Nat.blt p 50 && i == k) = false := by
      rw [← Bool.not_eq_true]; intro y
      rw [Bool.and_eq_true, Bool.and_eq_true] at y
      have e2 := eq_of_beq y.2; subst e2
      exact n40 p f (Nat.le_of_ble_eq_true y.1.1) (Nat.le_of_ble_eq_true y.1.2) z
    rw [a1, a2, a3, a4]; rfl
theorem SM_E {P : Fpt} {h h' : Hp} (e : Eqv P h h') (n1 : ∀ p, P.1 p = true) (n2 : ∀ p, P.2.1 p = true) (n3 : ∀ p, P.2.2.1 p = true) (s : SM h) : SM h' := ⟨fun z hz => by rw [e.1 _ (n1 _)]; exact s.1 z hz, fun z hz => (e.2.1 z.1.1 z.1.2 (n2 _)).trans (s.2.1 z hz), fun z hz => (e.2.2.1 z.1.1.1 z.1.1.2 z.1.2 (n3 _)).trans (s.2.2 z hz)⟩
def fLX : Fpt := (fun _ => true, fun _ => true, fun _ => true, fun _ => false, fun p i f => fXI.2.2.2.2 p i f)
theorem K0_of {h Z : Hp} (x : XI h) (l : LD h) (e : Eqv fRz h Z) (s : SX Z) : K0 (hSc Z) := by
  have e1 : Eqv fXI h Z := e.of_rz (fun _ _ => Bool.false_ne_true) (fun _ _ => Bool.false_ne_true) (fun _ _ => Bool.false_ne_true) (fun _ _ => Bool.false_ne_true)
  have e2 : Eqv fLD h Z := e.of_rz (fun _ _ => Bool.false_ne_true) (fun _ _ => Bool.false_ne_true) (fun _ _ => Bool.false_ne_true) (fun _ _ => Bool.false_ne_true)
  have e3 : Eqv fXI h (hSc Z) := hSc_E e1 Bool.false_ne_true Bool.false_ne_true Bool.false_ne_true
  have e4 : Eqv fLD h (hSc Z) := hSc_E e2 Bool.false_ne_true Bool.false_ne_true Bool.false_ne_true
  have x2 := XI_congr e3 x
  exact ⟨x2.1, LD_congr e4 l, x2.2.1, x2.2.2.2.2.1.1, x2.2.2.2.2.2.1.1⟩
set_option maxRecDepth 20000 in
theorem m_schemeY (g : G0) (h : Hp) (i : XI h) (l : LD h) {w d : Int32} (ok : ¬ xWb h w = 0 ∧ ¬ xDy d = 0) {e : Nat} (he : e ≤ 300) (hL : nI e ≤ vi h (1, 0) 1) {Z : Hp} (rz : RdZ g h e Z) (fz : vi Z (2, 0) 6 = 0) {n : Nat} (hn : n < 40) (h11 : vi h (0, 0) 11 = nI n) {c : Nat} (hc : c ≤ 12) (h5 : vi Z (2, 0) 5 = nI c) {T : Nat → Nat} (hT : ∀ i, i < c → vi Z (13, 5) i = nI (T i) ∧ fromT T i ≤ T i ∧ T i ≤ 299) : Mx g yX11_scheme wX11_scheme 9 [pR (0, 0), pI w, pI d, pI (nI e)] h (3 * c) (1806 * c) (fun r h' => r = some (pI (nI n)) ∧ ∃ h2, KP (hSc Z) (cn (hSc Z) 8) T (nI n) w d (vi (hSc Z) (13, 3)) (vi (hSc Z) (13, 4)) c h2 ∧ h' = xT (sI h2 (0, 0) 11 (nI (n + 1))) 0) noX := by
  have hS := i.1
  have hZ := rz.2.2.1
  have e11 : vi (hSc Z) (0, 0) 11 = nI n := ((hSc_o Z (by decide) (by decide)).trans (rz.2.1.2.2.2.2 0 0 11 rfl)).trans h11
  have e15 : vi (hSc Z) (0, 0) 15 = vi Z (2, 0) 6 := hSc_15 Z
  have mk := m_keep g (K0_of i l rz.2.1 hZ) hc ((hSc_n Z (by decide) (by decide)).trans h5) (T := T) (fun i hi => ⟨(hSc_n Z (by decide) (by decide)).trans (hT i hi).1, (hT i hi).2⟩) (w := w) (d := d)
  refine Mx.by kfX11_scheme rfl (by decide) (Nat.le_of_ble_eq_true rfl) ?_
  refine v_aload_n dX11_scheme_0 rfl ?_
  refine v_iload_n dX11_scheme_1 rfl ?_
  refine v_invVE (m_isWill g h hS) dX11_scheme_2 cwX11_isWill mlX11_88 (ob_0 _) rfl rfl (by decide) (by decide) (Nat.le_of_ble_eq_true rfl) ?_
  refine v_if_ne 14 dX11_scheme_5 (by decide) (fun _ => ?_) (fun z => absurd z ok.1)
  refine v_iload_n dX11_scheme_14 rfl ?_
  refine v_invSE (m_isDay g h) dX11_scheme_15 cwX11_isDay mlX11_92 rfl rfl (by decide) (by decide) (Nat.le_of_ble_eq_true rfl) ?_
  refine v_if_eq 36 dX11_scheme_18 (by decide) (fun z => absurd z ok.2) (fun _ => ?_)
  refine v_iload_n dX11_scheme_21 rfl ?_
  refine v_if_lt 36 dX11_scheme_22 (by decide) (fun z => absurd z (nI_pos (by omega))) (fun _ => ?_)
  refine v_iload_n dX11_scheme_25 rfl ?_
  refine v_aload_n dX11_scheme_26 rfl ?_
  refine v_getR (some (1, 0)) fl_X11_12 dX11_scheme_27 rfl rfl (Nat.le_of_ble_eq_true rfl) (xh_0_0 hS) (xr_0_0_0 hS) ?_
  refine v_getI fl_X11_81 dX11_scheme_30 rfl rfl (Nat.le_of_ble_eq_true rfl) (xh_1_0 hS) ?_
  refine v_icmp_le 42 dX11_scheme_33 (by decide) (fun _ => ?_) (fun z => absurd hL z)
  refine v_aload_n dX11_scheme_42 rfl ?_
  refine v_aload_n dX11_scheme_43 rfl ?_
  refine v_getR (some (2, 0)) fl_X11_23 dX11_scheme_44 rfl rfl (Nat.le_of_ble_eq_true rfl) (xh_0_0 hS) (xr_0_0_1 hS) ?_
  refine v_iload_n dX11_scheme_47 rfl ?_
  refine v_invVE (rz.1) dX11_scheme_48 cwX4_read mlX11_95 (ob_2 _) rfl rfl (by decide) (by decide) (Nat.le_of_ble_eq_true rfl) ?_
  refine v_putI fl_X11_98 (fun z => by cases z) dX11_scheme_51 rfl rfl (Nat.le_of_ble_eq_true rfl) rfl rfl (xh_0_0 hZ) ?_
  refine v_aload_n dX11_scheme_54 rfl ?_
  refine v_aload_n dX11_scheme_55 rfl ?_
  refine v_getR (some (1, 0)) fl_X11_12 dX11_scheme_56 rfl rfl (Nat.le_of_ble_eq_true rfl) (xh_0_0 hZ) (xr_0_0_0 hZ) ?_
  refine v_getI fl_X11_101 dX11_scheme_59 rfl rfl (Nat.le_of_ble_eq_true rfl) (xh_1_0 hZ) ?_
  rw [vi_sI_ne _ _ _ _ (fun z => (by cases z))]
  refine v_putI fl_X11_104 (fun z => by cases z) dX11_scheme_62 rfl rfl (Nat.le_of_ble_eq_true rfl) rfl rfl (xh_0_0 hZ) ?_
  refine v_aload_n dX11_scheme_65 rfl ?_
  refine v_getR (some (1, 0)) fl_X11_12 dX11_scheme_66 rfl rfl (Nat.le_of_ble_eq_true rfl) (xh_0_0 hZ) (xr_0_0_0 hZ) ?_
  refine v_iconst (0) dX11_scheme_69 (by decide) ?_
  refine v_putI fl_X11_81 (fun z => by cases z) dX11_scheme_70 rfl rfl (Nat.le_of_ble_eq_true rfl) rfl rfl (xh_1_0 hZ) ?_
  change V g _ _ _ _ _ _ _ (hSc Z) _ _
  refine v_aload_n dX11_scheme_73 rfl ?_
  refine v_getI fl_X11_98 dX11_scheme_74 rfl rfl (Nat.le_of_ble_eq_true rfl) (xh_0_0 hZ) ?_
  rw [e15]
  refine v_if_eq 86 dX11_scheme_77 (by decide) (fun _ => ?_) (fun z => absurd fz z)
  refine v_aload_n dX11_scheme_86 rfl ?_
  refine v_getI fl_X11_107 dX11_scheme_87 rfl rfl (Nat.le_of_ble_eq_true rfl) (xh_0_0 hZ) ?_
  rw [e11]
  refine v_bipush (40) dX11_scheme_90 (by decide) ?_
  refine v_icmp_lt 101 dX11_scheme_92 (by decide) (fun _ => ?_) (fun z => absurd (nI_lt (b := 40) hn (by decide)) z)
  refine v_aload_n dX11_scheme_101 rfl ?_
  refine v_iload_n dX11_scheme_102 rfl ?_
  refine v_iload_n dX11_scheme_103 rfl ?_
  refine v_invV 0 0 mk dX11_scheme_104 cwX11_keepChanges mlX11_110 (ob_0 _) rfl rfl (by decide) (by decide) (Nat.le_of_ble_eq_true rfl) (Nat.le_of_eq (Nat.zero_add _)) (Nat.le_of_eq (Nat.zero_add _)) (fun rv h2 q2 => ?_) (fun _ _ q2 => q2.elim)
  obtain ⟨rfl, kp⟩ := q2
  rw [e11] at kp
  have hK := kp.1
  have k11 : vi h2 (0, 0) 11 = nI n := (kp.2.2.2.1.2.2.2.2 0 0 11 rfl).trans e11
  refine v_aload_n dX11_scheme_107 rfl ?_
  refine v_dup dX11_scheme_108 rfl ?_
  refine v_getI fl_X11_107 dX11_scheme_109 rfl rfl (Nat.le_of_ble_eq_true rfl) (xh_0_0 hK) ?_
  rw [k11]
  refine v_iconst (1) dX11_scheme_112 (by decide) ?_
  refine v_iadd dX11_scheme_113 ?_
  rw [nI_s]
  refine v_putI fl_X11_107 (fun z => by cases z) dX11_scheme_114 rfl rfl (Nat.le_of_ble_eq_true rfl) rfl rfl (xh_0_0 hK) ?_
  refine v_aload_n dX11_scheme_117 rfl ?_
  refine v_aload_n dX11_scheme_118 rfl ?_
  refine v_getI fl_X11_107 dX11_scheme_119 rfl rfl (Nat.le_of_ble_eq_true rfl) (xh_0_0 hK) ?_
  rw [vi_sI_eq]
  refine v_iconst (1) dX11_scheme_122 (by decide) ?_
  refine v_isub dX11_scheme_123 ?_
  rw [nI_dec]
  refine v_invVE (m_accept g (sI h2 (0, 0) 11 (nI (n + 1))) hK) dX11_scheme_124 cwX11_accept mlX11_78 (ob_0 _) rfl rfl (by decide) (by decide) (Nat.le_of_ble_eq_true rfl) ?_
  refine v_ireturn dX11_scheme_127 rfl rfl ?_
  exact ⟨rfl, h2, kp, rfl⟩
